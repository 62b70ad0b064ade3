/-! the reference: guards told of -/
theorem gm_tl_tl {μ : gf_M} {v : Int} : gm_tl μ v = gf_up μ 65 4 v := rfl
theorem gm_ok_sc {μ m : gf_M} (h : ∀ b : Int, m 71 b = μ 71 b) (hok : gm_ok μ) : gm_ok m := by
  unfold gm_ok at hok ⊢
  simp only [h]
  exact hok
def gm_og (μ : gf_M) (i w : Int) : Int := (if w = 0 then μ 71 (3 + i) else if w = 1 then μ 71 (10 + i) else if w = 2 then μ 71 (17 + i) else if w = 3 then gm_rk μ i (gm_x μ) (μ 71 1) else ((gm_uS μ i).length : Int))
theorem dd_Mo_slipsOf_0 : decode cc_Mo_slipsOf 0 = .ok (.aload_n 0, 1) := by decide +kernel
theorem dd_Mo_slipsOf_1 : decode cc_Mo_slipsOf 1 = .ok (.iload_n 1, 1) := by decide +kernel
theorem dd_Mo_slipsOf_2 : decode cc_Mo_slipsOf 2 = .ok (.invokevirtual 173, 3) := by decide +kernel
theorem dd_Mo_slipsOf_5 : decode cc_Mo_slipsOf 5 = .ok (.aload_n 0, 1) := by decide +kernel
theorem dd_Mo_slipsOf_6 : decode cc_Mo_slipsOf 6 = .ok (.getfield 156, 3) := by decide +kernel
theorem dd_Mo_slipsOf_9 : decode cc_Mo_slipsOf 9 = .ok (.ireturn, 1) := by decide +kernel
set_option maxRecDepth 100000 in
set_option maxHeartbeats 4000000 in
theorem ct_Mo_slipsOf (l : Launch) (E : gf_E) (i : Int) (μ : gf_M) (hg : gm_okg μ i) (hn : 0 ≤ μ 71 1 ∧ μ 71 1 ≤ 8) (hx : ∀ j : Int, 0 ≤ j → j < μ 71 1 → 0 ≤ μ 71 (24 + j) ∧ μ 71 (24 + j) ≤ 9)  : gf_Mi l E yy_Mo_slipsOf cc_Mo_slipsOf 2 .int (gf_rm 6 148) 81 gf_ref μ [.ref (gf_ad E 65), .int (gf_i i)] (fun q μ' => (q = ((gm_uS μ i).length : Int) ∧ 0 ≤ q ∧ q ≤ 72) ∧ gm_sc μ' μ) := by
  refine gf_mi (by decide +kernel) (Nat.le_of_ble_eq_true rfl) (by decide) (fun X Q hlx C hQ => ?_)
  subst hlx
  replace C : gf_C X E cc_Mo_slipsOf 2 "GuardFiguresModel" (gf_rm 6 148) := C
  show gf_G X E Q 2 gf_φ μ 0 [(0, .ref (gf_ad E 65)), (1, .int (gf_i i))] []
  have hg0 := hg.1
  have hl := gm_uS_len hn hx i
  refine gf_aload_n C dd_Mo_slipsOf_0 0 rfl ?_
  refine gf_iload_n C dd_Mo_slipsOf_1 1 rfl ?_
  refine gf_callVv (st := []) (As := [.int (gf_i i)]) C wk_Mo_173 gf_cl7 (show gf_is 81 65 0 7 26 by decide) (ct_Mo_goSlips (gf_xl X) E i μ (hg) (hn) (hx)) rfl ⟨rfl, rfl, rfl, rfl⟩ (Nat.le_of_ble_eq_true rfl) rfl dd_Mo_slipsOf_2 (fun m2 hp2 => ?_)
  have h16 := hp2.1.1
  refine gf_aload_n C dd_Mo_slipsOf_5 0 rfl ?_
  refine gf_getI (z := 16) C gf_cl7 fl_Mo_156 dd_Mo_slipsOf_6 rfl rfl (show gf_is 81 65 0 7 26 by decide) (fun hv6 => ?_)
  refine gf_iret C hQ dd_Mo_slipsOf_9 (by omega) ?_
  exact ⟨⟨h16, by omega, by omega⟩, gm_sc_f4 hp2.2⟩

theorem dd_Mo_allUnseen_0 : decode cc_Mo_allUnseen 0 = .ok (.aload_n 0, 1) := by decide +kernel
theorem dd_Mo_allUnseen_1 : decode cc_Mo_allUnseen 1 = .ok (.iload_n 1, 1) := by decide +kernel
theorem dd_Mo_allUnseen_2 : decode cc_Mo_allUnseen 2 = .ok (.invokevirtual 177, 3) := by decide +kernel
theorem dd_Mo_allUnseen_5 : decode cc_Mo_allUnseen 5 = .ok (.istore_n 2, 1) := by decide +kernel
theorem dd_Mo_allUnseen_6 : decode cc_Mo_allUnseen 6 = .ok (.aload_n 0, 1) := by decide +kernel
theorem dd_Mo_allUnseen_7 : decode cc_Mo_allUnseen 7 = .ok (.iload_n 1, 1) := by decide +kernel
theorem dd_Mo_allUnseen_8 : decode cc_Mo_allUnseen 8 = .ok (.iconst 1, 1) := by decide +kernel
theorem dd_Mo_allUnseen_9 : decode cc_Mo_allUnseen 9 = .ok (.invokevirtual 180, 3) := by decide +kernel
theorem dd_Mo_allUnseen_12 : decode cc_Mo_allUnseen 12 = .ok (.iload_n 2, 1) := by decide +kernel
theorem dd_Mo_allUnseen_13 : decode cc_Mo_allUnseen 13 = .ok (.aload_n 0, 1) := by decide +kernel
theorem dd_Mo_allUnseen_14 : decode cc_Mo_allUnseen 14 = .ok (.getfield 156, 3) := by decide +kernel
theorem dd_Mo_allUnseen_17 : decode cc_Mo_allUnseen 17 = .ok (.iadd, 1) := by decide +kernel
theorem dd_Mo_allUnseen_18 : decode cc_Mo_allUnseen 18 = .ok (.istore_n 2, 1) := by decide +kernel
theorem dd_Mo_allUnseen_19 : decode cc_Mo_allUnseen 19 = .ok (.aload_n 0, 1) := by decide +kernel
theorem dd_Mo_allUnseen_20 : decode cc_Mo_allUnseen 20 = .ok (.iload_n 1, 1) := by decide +kernel
theorem dd_Mo_allUnseen_21 : decode cc_Mo_allUnseen 21 = .ok (.iconst 2, 1) := by decide +kernel
theorem dd_Mo_allUnseen_22 : decode cc_Mo_allUnseen 22 = .ok (.invokevirtual 180, 3) := by decide +kernel
theorem dd_Mo_allUnseen_25 : decode cc_Mo_allUnseen 25 = .ok (.iload_n 2, 1) := by decide +kernel
theorem dd_Mo_allUnseen_26 : decode cc_Mo_allUnseen 26 = .ok (.aload_n 0, 1) := by decide +kernel
theorem dd_Mo_allUnseen_27 : decode cc_Mo_allUnseen 27 = .ok (.getfield 156, 3) := by decide +kernel
theorem dd_Mo_allUnseen_30 : decode cc_Mo_allUnseen 30 = .ok (.iadd, 1) := by decide +kernel
theorem dd_Mo_allUnseen_31 : decode cc_Mo_allUnseen 31 = .ok (.ireturn, 1) := by decide +kernel
set_option maxRecDepth 100000 in
set_option maxHeartbeats 4000000 in
theorem ct_Mo_allUnseen (l : Launch) (E : gf_E) (i : Int) (μ : gf_M) (hg : gm_okg μ i) (hn : 0 ≤ μ 71 1 ∧ μ 71 1 ≤ 8) (hx : ∀ j : Int, 0 ≤ j → j < μ 71 1 → 0 ≤ μ 71 (24 + j) ∧ μ 71 (24 + j) ≤ 9)  : gf_Mi l E yy_Mo_allUnseen cc_Mo_allUnseen 3 .int (gf_rm 7 169) 81 gf_ref μ [.ref (gf_ad E 65), .int (gf_i i)] (fun q μ' => (q = ((gm_uS μ i).length : Int) + ((gm_uX μ 1 i).length : Int) + ((gm_uX μ 2 i).length : Int) ∧ 0 ≤ q ∧ q ≤ 88) ∧ gm_sc μ' μ) := by
  refine gf_mi (by decide +kernel) (Nat.le_of_ble_eq_true rfl) (by decide) (fun X Q hlx C hQ => ?_)
  subst hlx
  replace C : gf_C X E cc_Mo_allUnseen 3 "GuardFiguresModel" (gf_rm 7 169) := C
  show gf_G X E Q 3 gf_φ μ 0 [(0, .ref (gf_ad E 65)), (1, .int (gf_i i))] []
  have hg0 := hg.1
  have hl := gm_uS_len hn hx i
  have hl1 := gm_uX_len (off := 1) hn (by decide) i
  have hl2 := gm_uX_len (off := 2) hn (by decide) i
  refine gf_aload_n C dd_Mo_allUnseen_0 0 rfl ?_
  refine gf_iload_n C dd_Mo_allUnseen_1 1 rfl ?_
  refine gf_callVi (st := []) (As := [.int (gf_i i)]) C wk_Mo_177 gf_cl7 (show gf_is 81 65 0 7 26 by decide) (ct_Mo_slipsOf (gf_xl X) E i μ (hg) (hn) (hx)) rfl ⟨rfl, rfl, rfl, rfl⟩ (Nat.le_of_ble_eq_true rfl) rfl dd_Mo_allUnseen_2 (fun r2 m2 hR2 hp2 => ?_)
  refine gf_istore_n (lv' := [(2, .int (gf_i r2)), (0, .ref (gf_ad E 65)), (1, .int (gf_i i))]) C dd_Mo_allUnseen_5 (by decide) rfl ?_
  obtain ⟨ha, hs2⟩ := hp2
  have q2 := gm_sc_71 hs2
  have hg2 := gm_okg_f hg q2
  have hn2 : 0 ≤ m2 71 1 ∧ m2 71 1 ≤ 8 := by rw [q2]; exact hn
  have hx2 : ∀ j : Int, 0 ≤ j → j < m2 71 1 → 0 ≤ m2 71 (24 + j) ∧ m2 71 (24 + j) ≤ 9 := by rw [q2]; intro j h0 h1; rw [q2]; exact hx j h0 h1
  refine gf_aload_n C dd_Mo_allUnseen_6 1 rfl ?_
  refine gf_iload_n C dd_Mo_allUnseen_7 2 rfl ?_
  refine gf_iconst C dd_Mo_allUnseen_8 ?_
  refine gf_callVv (st := []) (As := [.int (gf_i i), .int (gf_i 1)]) C wk_Mo_180 gf_cl7 (show gf_is 81 65 0 7 26 by decide) (ct_Mo_goSwaps (gf_xl X) E i 1 m2 hg2 (by decide) hn2 hx2) rfl ⟨rfl, rfl, rfl, rfl⟩ (Nat.le_of_ble_eq_true rfl) rfl dd_Mo_allUnseen_9 (fun m9 hp9 => ?_)
  obtain ⟨hb, hs9a⟩ := hp9
  have hs9 := gm_sc_f4 hs9a
  have q9 : ∀ b : Int, m9 71 b = μ 71 b := fun b => by rw [gm_sc_71 hs9]; exact q2 b
  have h16 := hb.1
  rw [gm_uX_f q2] at h16
  have hg9 := gm_okg_f hg q9
  have hn9 : 0 ≤ m9 71 1 ∧ m9 71 1 ≤ 8 := by rw [q9]; exact hn
  have hx9 : ∀ j : Int, 0 ≤ j → j < m9 71 1 → 0 ≤ m9 71 (24 + j) ∧ m9 71 (24 + j) ≤ 9 := by rw [q9]; intro j h0 h1; rw [q9]; exact hx j h0 h1
  refine gf_iload_n C dd_Mo_allUnseen_12 0 rfl ?_
  refine gf_aload_n C dd_Mo_allUnseen_13 1 rfl ?_
  refine gf_getI (z := 16) C gf_cl7 fl_Mo_156 dd_Mo_allUnseen_14 rfl rfl (show gf_is 81 65 0 7 26 by decide) (fun hv14 => ?_)
  refine gf_iadd C dd_Mo_allUnseen_17 ?_
  refine gf_nm (fun x18 hx18 => ?_)
  refine gf_istore_n (lv' := [(2, .int (gf_i x18)), (0, .ref (gf_ad E 65)), (1, .int (gf_i i))]) C dd_Mo_allUnseen_18 (by decide) rfl ?_
  refine gf_aload_n C dd_Mo_allUnseen_19 1 rfl ?_
  refine gf_iload_n C dd_Mo_allUnseen_20 2 rfl ?_
  refine gf_iconst C dd_Mo_allUnseen_21 ?_
  refine gf_callVv (st := []) (As := [.int (gf_i i), .int (gf_i 2)]) C wk_Mo_180 gf_cl7 (show gf_is 81 65 0 7 26 by decide) (ct_Mo_goSwaps (gf_xl X) E i 2 m9 hg9 (by decide) hn9 hx9) rfl ⟨rfl, rfl, rfl, rfl⟩ (Nat.le_of_ble_eq_true rfl) rfl dd_Mo_allUnseen_22 (fun m22 hp22 => ?_)
  obtain ⟨hb2, hs22⟩ := hp22
  have h162 := hb2.1
  rw [gm_uX_f q9] at h162
  refine gf_iload_n C dd_Mo_allUnseen_25 0 rfl ?_
  refine gf_aload_n C dd_Mo_allUnseen_26 1 rfl ?_
  refine gf_getI (z := 16) C gf_cl7 fl_Mo_156 dd_Mo_allUnseen_27 rfl rfl (show gf_is 81 65 0 7 26 by decide) (fun hv27 => ?_)
  refine gf_iadd C dd_Mo_allUnseen_30 ?_
  refine gf_iret C hQ dd_Mo_allUnseen_31 (by omega) ?_
  exact ⟨⟨by omega, by omega, by omega⟩, gm_sc_tr (gm_sc_f4 hs22) (gm_sc_tr hs9 hs2)⟩

theorem dd_Mo_tellUnseen_0 : decode cc_Mo_tellUnseen 0 = .ok (.aload_n 0, 1) := by decide +kernel
theorem dd_Mo_tellUnseen_1 : decode cc_Mo_tellUnseen 1 = .ok (.getfield 156, 3) := by decide +kernel
theorem dd_Mo_tellUnseen_4 : decode cc_Mo_tellUnseen 4 = .ok (.ifCond .le 11, 3) := by decide +kernel
theorem dd_Mo_tellUnseen_7 : decode cc_Mo_tellUnseen 7 = .ok (.aload_n 0, 1) := by decide +kernel
theorem dd_Mo_tellUnseen_8 : decode cc_Mo_tellUnseen 8 = .ok (.aload_n 0, 1) := by decide +kernel
theorem dd_Mo_tellUnseen_9 : decode cc_Mo_tellUnseen 9 = .ok (.getfield 159, 3) := by decide +kernel
theorem dd_Mo_tellUnseen_12 : decode cc_Mo_tellUnseen 12 = .ok (.putfield 64, 3) := by decide +kernel
theorem dd_Mo_tellUnseen_15 : decode cc_Mo_tellUnseen 15 = .ok (.aload_n 0, 1) := by decide +kernel
theorem dd_Mo_tellUnseen_16 : decode cc_Mo_tellUnseen 16 = .ok (.getfield 156, 3) := by decide +kernel
theorem dd_Mo_tellUnseen_19 : decode cc_Mo_tellUnseen 19 = .ok (.ifCond .le 10, 3) := by decide +kernel
theorem dd_Mo_tellUnseen_22 : decode cc_Mo_tellUnseen 22 = .ok (.aload_n 0, 1) := by decide +kernel
theorem dd_Mo_tellUnseen_23 : decode cc_Mo_tellUnseen 23 = .ok (.getfield 156, 3) := by decide +kernel
theorem dd_Mo_tellUnseen_26 : decode cc_Mo_tellUnseen 26 = .ok (.goto 5, 3) := by decide +kernel
theorem dd_Mo_tellUnseen_29 : decode cc_Mo_tellUnseen 29 = .ok (.bipush (-9), 2) := by decide +kernel
theorem dd_Mo_tellUnseen_31 : decode cc_Mo_tellUnseen 31 = .ok (.ireturn, 1) := by decide +kernel
set_option maxRecDepth 100000 in
set_option maxHeartbeats 4000000 in
theorem ct_Mo_tellUnseen (l : Launch) (E : gf_E) (L : List Int) (μ : gf_M) (hL : gm_un μ L) (hL2 : L.length ≤ 100) : gf_Mi l E yy_Mo_tellUnseen cc_Mo_tellUnseen 1 .int (gf_rm 0 0) 81 gf_ref μ [.ref (gf_ad E 65)] (fun q μ' => (L = [] → q = -9 ∧ μ' = μ) ∧ (L ≠ [] → q = (L.length : Int) ∧ μ' = gm_tl μ (L.head?.getD (-9)))) := by
  refine gf_mi (by decide +kernel) (Nat.le_of_ble_eq_true rfl) (by decide) (fun X Q hlx C hQ => ?_)
  subst hlx
  replace C : gf_C X E cc_Mo_tellUnseen 1 "GuardFiguresModel" (gf_rm 0 0) := C
  show gf_G X E Q 1 gf_φ μ 0 [(0, .ref (gf_ad E 65))] []
  have hL1 := hL.1
  have hLe : L = [] ↔ L.length = 0 := List.length_eq_zero_iff.symm
  refine gf_aload_n C dd_Mo_tellUnseen_0 0 rfl ?_
  refine gf_getI (z := 16) C gf_cl7 fl_Mo_156 dd_Mo_tellUnseen_1 rfl rfl (show gf_is 81 65 0 7 26 by decide) (fun hv1 => ?_)
  refine gf_if_le 15 C dd_Mo_tellUnseen_4 (by decide) (by omega) (fun h4 => ?_) (fun h4 => ?_)
  · skip
    have e16 : μ 65 16 = μ 65 16 := by first | rfl | (rw [hm12, gf_up_j (by decide)])
    refine gf_aload_n C dd_Mo_tellUnseen_15 0 rfl ?_
    refine gf_getI (z := 16) C gf_cl7 fl_Mo_156 dd_Mo_tellUnseen_16 rfl rfl (show gf_is 81 65 0 7 26 by decide) (fun hv16 => ?_)
    refine gf_if_le 29 C dd_Mo_tellUnseen_19 (by decide) (by omega) (fun h19 => ?_) (fun h19 => ?_)
    · skip
      refine gf_bipush C dd_Mo_tellUnseen_29 (by decide +kernel) ?_
      refine gf_iret C hQ dd_Mo_tellUnseen_31 (by omega) ?_
      first
      | (exfalso; omega)
      | exact ⟨fun _ => ⟨rfl, rfl⟩, fun h => absurd (hLe.mpr (by omega)) h⟩
      | (have hne : L ≠ [] := fun h => by have := hLe.mp h; omega
         exact ⟨fun h => absurd h hne, fun _ => ⟨by omega, by rw [hm12, hL.2 hne]; rfl⟩⟩)
    · skip
      refine gf_aload_n C dd_Mo_tellUnseen_22 0 rfl ?_
      refine gf_getI (z := 16) C gf_cl7 fl_Mo_156 dd_Mo_tellUnseen_23 rfl rfl (show gf_is 81 65 0 7 26 by decide) (fun hv23 => ?_)
      refine gf_goto 31 C dd_Mo_tellUnseen_26 (by decide) ?_
      refine gf_iret C hQ dd_Mo_tellUnseen_31 (by omega) ?_
      first
      | (exfalso; omega)
      | exact ⟨fun _ => ⟨rfl, rfl⟩, fun h => absurd (hLe.mpr (by omega)) h⟩
      | (have hne : L ≠ [] := fun h => by have := hLe.mp h; omega
         exact ⟨fun h => absurd h hne, fun _ => ⟨by omega, by rw [hm12, hL.2 hne]; rfl⟩⟩)
  · skip
    refine gf_aload_n C dd_Mo_tellUnseen_7 0 rfl ?_
    refine gf_aload_n C dd_Mo_tellUnseen_8 0 rfl ?_
    refine gf_getI (z := 17) C gf_cl7 fl_Mo_159 dd_Mo_tellUnseen_9 rfl rfl (show gf_is 81 65 0 7 26 by decide) (fun hv9 => ?_)
    refine gf_putI (z := 4) C gf_cl7 fl_Mo_64 dd_Mo_tellUnseen_12 rfl rfl rfl (by decide +kernel) (show gf_is 81 65 0 7 26 by decide) (by omega) ?_
    refine gf_nmM (fun m12 hm12 => ?_)
    have e16 : m12 65 16 = μ 65 16 := by first | rfl | (rw [hm12, gf_up_j (by decide)])
    refine gf_aload_n C dd_Mo_tellUnseen_15 0 rfl ?_
    refine gf_getI (z := 16) C gf_cl7 fl_Mo_156 dd_Mo_tellUnseen_16 rfl rfl (show gf_is 81 65 0 7 26 by decide) (fun hv16 => ?_)
    refine gf_if_le 29 C dd_Mo_tellUnseen_19 (by decide) (by omega) (fun h19 => ?_) (fun h19 => ?_)
    · skip
      refine gf_bipush C dd_Mo_tellUnseen_29 (by decide +kernel) ?_
      refine gf_iret C hQ dd_Mo_tellUnseen_31 (by omega) ?_
      first
      | (exfalso; omega)
      | exact ⟨fun _ => ⟨rfl, rfl⟩, fun h => absurd (hLe.mpr (by omega)) h⟩
      | (have hne : L ≠ [] := fun h => by have := hLe.mp h; omega
         exact ⟨fun h => absurd h hne, fun _ => ⟨by omega, by rw [hm12, hL.2 hne]; rfl⟩⟩)
    · skip
      refine gf_aload_n C dd_Mo_tellUnseen_22 0 rfl ?_
      refine gf_getI (z := 16) C gf_cl7 fl_Mo_156 dd_Mo_tellUnseen_23 rfl rfl (show gf_is 81 65 0 7 26 by decide) (fun hv23 => ?_)
      refine gf_goto 31 C dd_Mo_tellUnseen_26 (by decide) ?_
      refine gf_iret C hQ dd_Mo_tellUnseen_31 (by omega) ?_
      first
      | (exfalso; omega)
      | exact ⟨fun _ => ⟨rfl, rfl⟩, fun h => absurd (hLe.mpr (by omega)) h⟩
      | (have hne : L ≠ [] := fun h => by have := hLe.mp h; omega
         exact ⟨fun h => absurd h hne, fun _ => ⟨by omega, by rw [hm12, hL.2 hne]; rfl⟩⟩)

theorem dd_Mo_slips_0 : decode cc_Mo_slips 0 = .ok (.aload_n 0, 1) := by decide +kernel
theorem dd_Mo_slips_1 : decode cc_Mo_slips 1 = .ok (.iload_n 1, 1) := by decide +kernel
theorem dd_Mo_slips_2 : decode cc_Mo_slips 2 = .ok (.invokevirtual 183, 3) := by decide +kernel
theorem dd_Mo_slips_5 : decode cc_Mo_slips 5 = .ok (.ifCond .ne 5, 3) := by decide +kernel
theorem dd_Mo_slips_8 : decode cc_Mo_slips 8 = .ok (.iconst (-1), 1) := by decide +kernel
theorem dd_Mo_slips_9 : decode cc_Mo_slips 9 = .ok (.ireturn, 1) := by decide +kernel
theorem dd_Mo_slips_10 : decode cc_Mo_slips 10 = .ok (.aload_n 0, 1) := by decide +kernel
theorem dd_Mo_slips_11 : decode cc_Mo_slips 11 = .ok (.iload_n 1, 1) := by decide +kernel
theorem dd_Mo_slips_12 : decode cc_Mo_slips 12 = .ok (.invokevirtual 173, 3) := by decide +kernel
theorem dd_Mo_slips_15 : decode cc_Mo_slips 15 = .ok (.aload_n 0, 1) := by decide +kernel
theorem dd_Mo_slips_16 : decode cc_Mo_slips 16 = .ok (.invokevirtual 186, 3) := by decide +kernel
theorem dd_Mo_slips_19 : decode cc_Mo_slips 19 = .ok (.ireturn, 1) := by decide +kernel
set_option maxRecDepth 100000 in
set_option maxHeartbeats 4000000 in
theorem ct_Mo_slips (l : Launch) (E : gf_E) (i : Int) (μ : gf_M) (hi : gf_R i) (hok : gm_ok μ)  : gf_Mi l E yy_Mo_slips cc_Mo_slips 2 .int (gf_rm 6 148) 81 gf_ref μ [.ref (gf_ad E 65), .int (gf_i i)] (fun q μ' => (¬ (0 ≤ i ∧ i < μ 71 0) → q = -1 ∧ μ' = μ) ∧ (0 ≤ i ∧ i < μ 71 0 → (gm_uS μ i = [] → q = -9 ∧ gm_sc μ' μ) ∧ (gm_uS μ i ≠ [] → q = ((gm_uS μ i).length : Int) ∧ gm_sc μ' (gm_tl μ ((gm_uS μ i).head?.getD (-9)))))) := by
  refine gf_mi (by decide +kernel) (Nat.le_of_ble_eq_true rfl) (by decide) (fun X Q hlx C hQ => ?_)
  subst hlx
  replace C : gf_C X E cc_Mo_slips 2 "GuardFiguresModel" (gf_rm 6 148) := C
  show gf_G X E Q 2 gf_φ μ 0 [(0, .ref (gf_ad E 65)), (1, .int (gf_i i))] []
  obtain ⟨hc, hgs, hn, hx, hd⟩ := id hok
  refine gf_aload_n C dd_Mo_slips_0 0 rfl ?_
  refine gf_iload_n C dd_Mo_slips_1 1 rfl ?_
  refine gf_callVi (st := []) (As := [.int (gf_i i)]) C wk_Mo_183 gf_cl7 (show gf_is 81 65 0 7 26 by decide) (ct_Mo_isGuard (gf_xl X) E i μ (by omega) (by omega)) rfl ⟨rfl, rfl, rfl, rfl⟩ (Nat.le_of_ble_eq_true rfl) rfl dd_Mo_slips_2 (fun r2 m2 hR2 hp2 => ?_)
  have hr2 := hp2.1
  refine gf_pm hp2.2 ?_
  refine gf_if_ne 10 C dd_Mo_slips_5 (by decide) (by omega) (fun h5 => ?_) (fun h5 => ?_)
  · skip
    have hin : 0 ≤ i ∧ i < μ 71 0 := by omega
    have hg := gm_ok_g hok hin
    have hl : (gm_uS μ i).length ≤ 100 := Nat.le_trans (gm_uS_len hn hx i) (by decide)
    refine gf_aload_n C dd_Mo_slips_10 0 rfl ?_
    refine gf_iload_n C dd_Mo_slips_11 1 rfl ?_
    refine gf_callVv (st := []) (As := [.int (gf_i i)]) C wk_Mo_173 gf_cl7 (show gf_is 81 65 0 7 26 by decide) (ct_Mo_goSlips (gf_xl X) E i μ (hg) (hn) (hx)) rfl ⟨rfl, rfl, rfl, rfl⟩ (Nat.le_of_ble_eq_true rfl) rfl dd_Mo_slips_12 (fun m12 hp12 => ?_)
    refine gf_aload_n C dd_Mo_slips_15 0 rfl ?_
    refine gf_callVi (st := []) (As := []) C wk_Mo_186 gf_cl7 (show gf_is 81 65 0 7 26 by decide) (ct_Mo_tellUnseen (gf_xl X) E (gm_uS μ i) m12 hp12.1 hl) rfl ⟨rfl, rfl, rfl, rfl⟩ (Nat.le_of_ble_eq_true rfl) rfl dd_Mo_slips_16 (fun r16 m16 hR16 hp16 => ?_)
    refine gf_iret C hQ dd_Mo_slips_19 (by omega) ?_
    refine ⟨fun h => absurd hin h, fun _ => ⟨fun h => ?_, fun h => ?_⟩⟩
    · have := hp16.1 h
      exact ⟨this.1, by rw [this.2]; exact gm_sc_f4 hp12.2⟩
    · have := hp16.2 h
      exact ⟨this.1, gm_sc_tl (gm_sc_f4 hp12.2) this.2⟩
  · skip
    refine gf_iconst C dd_Mo_slips_8 ?_
    refine gf_iret C hQ dd_Mo_slips_9 (by omega) ?_
    exact ⟨fun _ => ⟨rfl, rfl⟩, fun h => absurd h (by omega)⟩

theorem dd_Mo_swaps_0 : decode cc_Mo_swaps 0 = .ok (.aload_n 0, 1) := by decide +kernel
theorem dd_Mo_swaps_1 : decode cc_Mo_swaps 1 = .ok (.iload_n 1, 1) := by decide +kernel
theorem dd_Mo_swaps_2 : decode cc_Mo_swaps 2 = .ok (.invokevirtual 183, 3) := by decide +kernel
theorem dd_Mo_swaps_5 : decode cc_Mo_swaps 5 = .ok (.ifCond .ne 5, 3) := by decide +kernel
theorem dd_Mo_swaps_8 : decode cc_Mo_swaps 8 = .ok (.iconst (-1), 1) := by decide +kernel
theorem dd_Mo_swaps_9 : decode cc_Mo_swaps 9 = .ok (.ireturn, 1) := by decide +kernel
theorem dd_Mo_swaps_10 : decode cc_Mo_swaps 10 = .ok (.aload_n 0, 1) := by decide +kernel
theorem dd_Mo_swaps_11 : decode cc_Mo_swaps 11 = .ok (.iload_n 1, 1) := by decide +kernel
theorem dd_Mo_swaps_12 : decode cc_Mo_swaps 12 = .ok (.iconst 1, 1) := by decide +kernel
theorem dd_Mo_swaps_13 : decode cc_Mo_swaps 13 = .ok (.invokevirtual 180, 3) := by decide +kernel
theorem dd_Mo_swaps_16 : decode cc_Mo_swaps 16 = .ok (.aload_n 0, 1) := by decide +kernel
theorem dd_Mo_swaps_17 : decode cc_Mo_swaps 17 = .ok (.invokevirtual 186, 3) := by decide +kernel
theorem dd_Mo_swaps_20 : decode cc_Mo_swaps 20 = .ok (.ireturn, 1) := by decide +kernel
set_option maxRecDepth 100000 in
set_option maxHeartbeats 4000000 in
theorem ct_Mo_swaps (l : Launch) (E : gf_E) (i : Int) (μ : gf_M) (hi : gf_R i) (hok : gm_ok μ)  : gf_Mi l E yy_Mo_swaps cc_Mo_swaps 2 .int (gf_rm 6 147) 81 gf_ref μ [.ref (gf_ad E 65), .int (gf_i i)] (fun q μ' => (¬ (0 ≤ i ∧ i < μ 71 0) → q = -1 ∧ μ' = μ) ∧ (0 ≤ i ∧ i < μ 71 0 → (gm_uX μ 1 i = [] → q = -9 ∧ gm_sc μ' μ) ∧ (gm_uX μ 1 i ≠ [] → q = ((gm_uX μ 1 i).length : Int) ∧ gm_sc μ' (gm_tl μ ((gm_uX μ 1 i).head?.getD (-9)))))) := by
  refine gf_mi (by decide +kernel) (Nat.le_of_ble_eq_true rfl) (by decide) (fun X Q hlx C hQ => ?_)
  subst hlx
  replace C : gf_C X E cc_Mo_swaps 2 "GuardFiguresModel" (gf_rm 6 147) := C
  show gf_G X E Q 2 gf_φ μ 0 [(0, .ref (gf_ad E 65)), (1, .int (gf_i i))] []
  obtain ⟨hc, hgs, hn, hx, hd⟩ := id hok
  refine gf_aload_n C dd_Mo_swaps_0 0 rfl ?_
  refine gf_iload_n C dd_Mo_swaps_1 1 rfl ?_
  refine gf_callVi (st := []) (As := [.int (gf_i i)]) C wk_Mo_183 gf_cl7 (show gf_is 81 65 0 7 26 by decide) (ct_Mo_isGuard (gf_xl X) E i μ (by omega) (by omega)) rfl ⟨rfl, rfl, rfl, rfl⟩ (Nat.le_of_ble_eq_true rfl) rfl dd_Mo_swaps_2 (fun r2 m2 hR2 hp2 => ?_)
  have hr2 := hp2.1
  refine gf_pm hp2.2 ?_
  refine gf_if_ne 10 C dd_Mo_swaps_5 (by decide) (by omega) (fun h5 => ?_) (fun h5 => ?_)
  · skip
    have hin : 0 ≤ i ∧ i < μ 71 0 := by omega
    have hg := gm_ok_g hok hin
    have hl : (gm_uX μ 1 i).length ≤ 100 := Nat.le_trans (gm_uX_len hn (by decide) i) (by decide)
    refine gf_aload_n C dd_Mo_swaps_10 0 rfl ?_
    refine gf_iload_n C dd_Mo_swaps_11 1 rfl ?_
    refine gf_iconst C dd_Mo_swaps_12 ?_
    refine gf_callVv (st := []) (As := [.int (gf_i i), .int (gf_i 1)]) C wk_Mo_180 gf_cl7 (show gf_is 81 65 0 7 26 by decide) (ct_Mo_goSwaps (gf_xl X) E i 1 μ (hg) (by omega) (hn) (hx)) rfl ⟨rfl, rfl, rfl, rfl⟩ (Nat.le_of_ble_eq_true rfl) rfl dd_Mo_swaps_13 (fun m13 hp13 => ?_)
    refine gf_aload_n C dd_Mo_swaps_16 0 rfl ?_
    refine gf_callVi (st := []) (As := []) C wk_Mo_186 gf_cl7 (show gf_is 81 65 0 7 26 by decide) (ct_Mo_tellUnseen (gf_xl X) E (gm_uX μ 1 i) m13 hp13.1 hl) rfl ⟨rfl, rfl, rfl, rfl⟩ (Nat.le_of_ble_eq_true rfl) rfl dd_Mo_swaps_17 (fun r17 m17 hR17 hp17 => ?_)
    refine gf_iret C hQ dd_Mo_swaps_20 (by omega) ?_
    refine ⟨fun h => absurd hin h, fun _ => ⟨fun h => ?_, fun h => ?_⟩⟩
    · have := hp17.1 h
      exact ⟨this.1, by rw [this.2]; exact gm_sc_f4 hp13.2⟩
    · have := hp17.2 h
      exact ⟨this.1, gm_sc_tl (gm_sc_f4 hp13.2) this.2⟩
  · skip
    refine gf_iconst C dd_Mo_swaps_8 ?_
    refine gf_iret C hQ dd_Mo_swaps_9 (by omega) ?_
    exact ⟨fun _ => ⟨rfl, rfl⟩, fun h => absurd h (by omega)⟩

theorem dd_Mo_jumps_0 : decode cc_Mo_jumps 0 = .ok (.aload_n 0, 1) := by decide +kernel
theorem dd_Mo_jumps_1 : decode cc_Mo_jumps 1 = .ok (.iload_n 1, 1) := by decide +kernel
theorem dd_Mo_jumps_2 : decode cc_Mo_jumps 2 = .ok (.invokevirtual 183, 3) := by decide +kernel
theorem dd_Mo_jumps_5 : decode cc_Mo_jumps 5 = .ok (.ifCond .ne 5, 3) := by decide +kernel
theorem dd_Mo_jumps_8 : decode cc_Mo_jumps 8 = .ok (.iconst (-1), 1) := by decide +kernel
theorem dd_Mo_jumps_9 : decode cc_Mo_jumps 9 = .ok (.ireturn, 1) := by decide +kernel
theorem dd_Mo_jumps_10 : decode cc_Mo_jumps 10 = .ok (.aload_n 0, 1) := by decide +kernel
theorem dd_Mo_jumps_11 : decode cc_Mo_jumps 11 = .ok (.iload_n 1, 1) := by decide +kernel
theorem dd_Mo_jumps_12 : decode cc_Mo_jumps 12 = .ok (.iconst 2, 1) := by decide +kernel
theorem dd_Mo_jumps_13 : decode cc_Mo_jumps 13 = .ok (.invokevirtual 180, 3) := by decide +kernel
theorem dd_Mo_jumps_16 : decode cc_Mo_jumps 16 = .ok (.aload_n 0, 1) := by decide +kernel
theorem dd_Mo_jumps_17 : decode cc_Mo_jumps 17 = .ok (.invokevirtual 186, 3) := by decide +kernel
theorem dd_Mo_jumps_20 : decode cc_Mo_jumps 20 = .ok (.ireturn, 1) := by decide +kernel
set_option maxRecDepth 100000 in
set_option maxHeartbeats 4000000 in
theorem ct_Mo_jumps (l : Launch) (E : gf_E) (i : Int) (μ : gf_M) (hi : gf_R i) (hok : gm_ok μ)  : gf_Mi l E yy_Mo_jumps cc_Mo_jumps 2 .int (gf_rm 6 147) 81 gf_ref μ [.ref (gf_ad E 65), .int (gf_i i)] (fun q μ' => (¬ (0 ≤ i ∧ i < μ 71 0) → q = -1 ∧ μ' = μ) ∧ (0 ≤ i ∧ i < μ 71 0 → (gm_uX μ 2 i = [] → q = -9 ∧ gm_sc μ' μ) ∧ (gm_uX μ 2 i ≠ [] → q = ((gm_uX μ 2 i).length : Int) ∧ gm_sc μ' (gm_tl μ ((gm_uX μ 2 i).head?.getD (-9)))))) := by
  refine gf_mi (by decide +kernel) (Nat.le_of_ble_eq_true rfl) (by decide) (fun X Q hlx C hQ => ?_)
  subst hlx
  replace C : gf_C X E cc_Mo_jumps 2 "GuardFiguresModel" (gf_rm 6 147) := C
  show gf_G X E Q 2 gf_φ μ 0 [(0, .ref (gf_ad E 65)), (1, .int (gf_i i))] []
  obtain ⟨hc, hgs, hn, hx, hd⟩ := id hok
  refine gf_aload_n C dd_Mo_jumps_0 0 rfl ?_
  refine gf_iload_n C dd_Mo_jumps_1 1 rfl ?_
  refine gf_callVi (st := []) (As := [.int (gf_i i)]) C wk_Mo_183 gf_cl7 (show gf_is 81 65 0 7 26 by decide) (ct_Mo_isGuard (gf_xl X) E i μ (by omega) (by omega)) rfl ⟨rfl, rfl, rfl, rfl⟩ (Nat.le_of_ble_eq_true rfl) rfl dd_Mo_jumps_2 (fun r2 m2 hR2 hp2 => ?_)
  have hr2 := hp2.1
  refine gf_pm hp2.2 ?_
  refine gf_if_ne 10 C dd_Mo_jumps_5 (by decide) (by omega) (fun h5 => ?_) (fun h5 => ?_)
  · skip
    have hin : 0 ≤ i ∧ i < μ 71 0 := by omega
    have hg := gm_ok_g hok hin
    have hl : (gm_uX μ 2 i).length ≤ 100 := Nat.le_trans (gm_uX_len hn (by decide) i) (by decide)
    refine gf_aload_n C dd_Mo_jumps_10 0 rfl ?_
    refine gf_iload_n C dd_Mo_jumps_11 1 rfl ?_
    refine gf_iconst C dd_Mo_jumps_12 ?_
    refine gf_callVv (st := []) (As := [.int (gf_i i), .int (gf_i 2)]) C wk_Mo_180 gf_cl7 (show gf_is 81 65 0 7 26 by decide) (ct_Mo_goSwaps (gf_xl X) E i 2 μ (hg) (by omega) (hn) (hx)) rfl ⟨rfl, rfl, rfl, rfl⟩ (Nat.le_of_ble_eq_true rfl) rfl dd_Mo_jumps_13 (fun m13 hp13 => ?_)
    refine gf_aload_n C dd_Mo_jumps_16 0 rfl ?_
    refine gf_callVi (st := []) (As := []) C wk_Mo_186 gf_cl7 (show gf_is 81 65 0 7 26 by decide) (ct_Mo_tellUnseen (gf_xl X) E (gm_uX μ 2 i) m13 hp13.1 hl) rfl ⟨rfl, rfl, rfl, rfl⟩ (Nat.le_of_ble_eq_true rfl) rfl dd_Mo_jumps_17 (fun r17 m17 hR17 hp17 => ?_)
    refine gf_iret C hQ dd_Mo_jumps_20 (by omega) ?_
    refine ⟨fun h => absurd hin h, fun _ => ⟨fun h => ?_, fun h => ?_⟩⟩
    · have := hp17.1 h
      exact ⟨this.1, by rw [this.2]; exact gm_sc_f4 hp13.2⟩
    · have := hp17.2 h
      exact ⟨this.1, gm_sc_tl (gm_sc_f4 hp13.2) this.2⟩
  · skip
    refine gf_iconst C dd_Mo_jumps_8 ?_
    refine gf_iret C hQ dd_Mo_jumps_9 (by omega) ?_
    exact ⟨fun _ => ⟨rfl, rfl⟩, fun h => absurd h (by omega)⟩

theorem dd_Mo_toldOf_0 : decode cc_Mo_toldOf 0 = .ok (.iload_n 2, 1) := by decide +kernel
theorem dd_Mo_toldOf_1 : decode cc_Mo_toldOf 1 = .ok (.tableswitch 66 0 3 #[31, 40, 50, 60], 31) := by decide +kernel
theorem dd_Mo_toldOf_32 : decode cc_Mo_toldOf 32 = .ok (.aload_n 0, 1) := by decide +kernel
theorem dd_Mo_toldOf_33 : decode cc_Mo_toldOf 33 = .ok (.getfield 30, 3) := by decide +kernel
theorem dd_Mo_toldOf_36 : decode cc_Mo_toldOf 36 = .ok (.iconst 3, 1) := by decide +kernel
theorem dd_Mo_toldOf_37 : decode cc_Mo_toldOf 37 = .ok (.iload_n 1, 1) := by decide +kernel
theorem dd_Mo_toldOf_38 : decode cc_Mo_toldOf 38 = .ok (.iadd, 1) := by decide +kernel
theorem dd_Mo_toldOf_39 : decode cc_Mo_toldOf 39 = .ok (.iaload, 1) := by decide +kernel
theorem dd_Mo_toldOf_40 : decode cc_Mo_toldOf 40 = .ok (.ireturn, 1) := by decide +kernel
theorem dd_Mo_toldOf_41 : decode cc_Mo_toldOf 41 = .ok (.aload_n 0, 1) := by decide +kernel
theorem dd_Mo_toldOf_42 : decode cc_Mo_toldOf 42 = .ok (.getfield 30, 3) := by decide +kernel
theorem dd_Mo_toldOf_45 : decode cc_Mo_toldOf 45 = .ok (.bipush 10, 2) := by decide +kernel
theorem dd_Mo_toldOf_47 : decode cc_Mo_toldOf 47 = .ok (.iload_n 1, 1) := by decide +kernel
theorem dd_Mo_toldOf_48 : decode cc_Mo_toldOf 48 = .ok (.iadd, 1) := by decide +kernel
theorem dd_Mo_toldOf_49 : decode cc_Mo_toldOf 49 = .ok (.iaload, 1) := by decide +kernel
theorem dd_Mo_toldOf_50 : decode cc_Mo_toldOf 50 = .ok (.ireturn, 1) := by decide +kernel
theorem dd_Mo_toldOf_51 : decode cc_Mo_toldOf 51 = .ok (.aload_n 0, 1) := by decide +kernel
theorem dd_Mo_toldOf_52 : decode cc_Mo_toldOf 52 = .ok (.getfield 30, 3) := by decide +kernel
theorem dd_Mo_toldOf_55 : decode cc_Mo_toldOf 55 = .ok (.bipush 17, 2) := by decide +kernel
theorem dd_Mo_toldOf_57 : decode cc_Mo_toldOf 57 = .ok (.iload_n 1, 1) := by decide +kernel
theorem dd_Mo_toldOf_58 : decode cc_Mo_toldOf 58 = .ok (.iadd, 1) := by decide +kernel
theorem dd_Mo_toldOf_59 : decode cc_Mo_toldOf 59 = .ok (.iaload, 1) := by decide +kernel
theorem dd_Mo_toldOf_60 : decode cc_Mo_toldOf 60 = .ok (.ireturn, 1) := by decide +kernel
theorem dd_Mo_toldOf_61 : decode cc_Mo_toldOf 61 = .ok (.aload_n 0, 1) := by decide +kernel
theorem dd_Mo_toldOf_62 : decode cc_Mo_toldOf 62 = .ok (.iload_n 1, 1) := by decide +kernel
theorem dd_Mo_toldOf_63 : decode cc_Mo_toldOf 63 = .ok (.invokevirtual 162, 3) := by decide +kernel
theorem dd_Mo_toldOf_66 : decode cc_Mo_toldOf 66 = .ok (.ireturn, 1) := by decide +kernel
theorem dd_Mo_toldOf_67 : decode cc_Mo_toldOf 67 = .ok (.aload_n 0, 1) := by decide +kernel
theorem dd_Mo_toldOf_68 : decode cc_Mo_toldOf 68 = .ok (.iload_n 1, 1) := by decide +kernel
theorem dd_Mo_toldOf_69 : decode cc_Mo_toldOf 69 = .ok (.invokevirtual 177, 3) := by decide +kernel
theorem dd_Mo_toldOf_72 : decode cc_Mo_toldOf 72 = .ok (.ireturn, 1) := by decide +kernel
set_option maxRecDepth 100000 in
set_option maxHeartbeats 4000000 in
theorem ct_Mo_toldOf (l : Launch) (E : gf_E) (i w : Int) (μ : gf_M) (hg : gm_okg μ i) (hw : 0 ≤ w ∧ w ≤ 4) (hn : 0 ≤ μ 71 1 ∧ μ 71 1 ≤ 8) (hx : ∀ j : Int, 0 ≤ j → j < μ 71 1 → 0 ≤ μ 71 (24 + j) ∧ μ 71 (24 + j) ≤ 9)  : gf_Mi l E yy_Mo_toldOf cc_Mo_toldOf 3 .int (gf_rm 7 169) 81 gf_ref μ [.ref (gf_ad E 65), .int (gf_i i), .int (gf_i w)] (fun q μ' => (q = gm_og μ i w ∧ 0 ≤ q ∧ q ≤ 72) ∧ gm_sc μ' μ) := by
  refine gf_mi (by decide +kernel) (Nat.le_of_ble_eq_true rfl) (by decide) (fun X Q hlx C hQ => ?_)
  subst hlx
  replace C : gf_C X E cc_Mo_toldOf 3 "GuardFiguresModel" (gf_rm 7 169) := C
  show gf_G X E Q 3 gf_φ μ 0 [(0, .ref (gf_ad E 65)), (1, .int (gf_i i)), (2, .int (gf_i w))] []
  have hg0 := hg.1
  have hg1 := hg.2.1
  have hg2 := hg.2.2.1
  have hg3 := hg.2.2.2
  refine gf_iload_n C dd_Mo_toldOf_0 2 rfl ?_
  rcases (show w = 0 ∨ w = 1 ∨ w = 2 ∨ w = 3 ∨ ¬ (0 ≤ w ∧ w ≤ 3) by omega) with hsw1 | hsw1 | hsw1 | hsw1 | hsw1
  · refine gf_cv hsw1 ?_
    refine gf_tblI 32 C dd_Mo_toldOf_1 (by decide) (by decide) (by decide) rfl (by decide) ?_
    refine gf_aload_n C dd_Mo_toldOf_32 0 rfl ?_
    refine gf_getA (r := 71) C gf_cl7 fl_Mo_30 dd_Mo_toldOf_33 rfl (show gf_is 81 65 0 7 26 by decide) (by decide) (by decide) ?_
    refine gf_iconst C dd_Mo_toldOf_36 ?_
    refine gf_iload_n C dd_Mo_toldOf_37 1 rfl ?_
    refine gf_iadd C dd_Mo_toldOf_38 ?_
    refine gf_iald C dd_Mo_toldOf_39 (show gf_is 81 71 1 0 392 by decide) (by omega) (fun hv39 => ?_)
    refine gf_iret C hQ dd_Mo_toldOf_40 (by omega) ?_
    exact ⟨⟨by unfold gm_og; rw [if_pos hsw1], by omega, by omega⟩, gm_sc_rf⟩
  · refine gf_cv hsw1 ?_
    refine gf_tblI 41 C dd_Mo_toldOf_1 (by decide) (by decide) (by decide) rfl (by decide) ?_
    refine gf_aload_n C dd_Mo_toldOf_41 0 rfl ?_
    refine gf_getA (r := 71) C gf_cl7 fl_Mo_30 dd_Mo_toldOf_42 rfl (show gf_is 81 65 0 7 26 by decide) (by decide) (by decide) ?_
    refine gf_bipush C dd_Mo_toldOf_45 (by decide +kernel) ?_
    refine gf_iload_n C dd_Mo_toldOf_47 1 rfl ?_
    refine gf_iadd C dd_Mo_toldOf_48 ?_
    refine gf_iald C dd_Mo_toldOf_49 (show gf_is 81 71 1 0 392 by decide) (by omega) (fun hv49 => ?_)
    refine gf_iret C hQ dd_Mo_toldOf_50 (by omega) ?_
    exact ⟨⟨by unfold gm_og; rw [if_neg (by omega), if_pos hsw1], by omega, by omega⟩, gm_sc_rf⟩
  · refine gf_cv hsw1 ?_
    refine gf_tblI 51 C dd_Mo_toldOf_1 (by decide) (by decide) (by decide) rfl (by decide) ?_
    refine gf_aload_n C dd_Mo_toldOf_51 0 rfl ?_
    refine gf_getA (r := 71) C gf_cl7 fl_Mo_30 dd_Mo_toldOf_52 rfl (show gf_is 81 65 0 7 26 by decide) (by decide) (by decide) ?_
    refine gf_bipush C dd_Mo_toldOf_55 (by decide +kernel) ?_
    refine gf_iload_n C dd_Mo_toldOf_57 1 rfl ?_
    refine gf_iadd C dd_Mo_toldOf_58 ?_
    refine gf_iald C dd_Mo_toldOf_59 (show gf_is 81 71 1 0 392 by decide) (by omega) (fun hv59 => ?_)
    refine gf_iret C hQ dd_Mo_toldOf_60 (by omega) ?_
    exact ⟨⟨by unfold gm_og; rw [if_neg (by omega), if_neg (by omega), if_pos hsw1], by omega, by omega⟩, gm_sc_rf⟩
  · refine gf_cv hsw1 ?_
    refine gf_tblI 61 C dd_Mo_toldOf_1 (by decide) (by decide) (by decide) rfl (by decide) ?_
    refine gf_aload_n C dd_Mo_toldOf_61 0 rfl ?_
    refine gf_iload_n C dd_Mo_toldOf_62 1 rfl ?_
    refine gf_callVi (st := []) (As := [.int (gf_i i)]) C wk_Mo_162 gf_cl7 (show gf_is 81 65 0 7 26 by decide) (ct_Mo_now (gf_xl X) E i μ (hg) (hn) (hx)) rfl ⟨rfl, rfl, rfl, rfl⟩ (Nat.le_of_ble_eq_true rfl) rfl dd_Mo_toldOf_63 (fun r63 m63 hR63 hp63 => ?_)
    refine gf_iret C hQ dd_Mo_toldOf_66 (by omega) ?_
    have h63 := hp63.1
    exact ⟨⟨by unfold gm_og; rw [if_neg (by omega), if_neg (by omega), if_neg (by omega), if_pos hsw1]; exact h63.1, by omega, by omega⟩, gm_sc_w hp63.2⟩
  · refine gf_tblO 67 C dd_Mo_toldOf_1 (by omega) (by omega) (by decide) ?_
    refine gf_aload_n C dd_Mo_toldOf_67 0 rfl ?_
    refine gf_iload_n C dd_Mo_toldOf_68 1 rfl ?_
    refine gf_callVi (st := []) (As := [.int (gf_i i)]) C wk_Mo_177 gf_cl7 (show gf_is 81 65 0 7 26 by decide) (ct_Mo_slipsOf (gf_xl X) E i μ (hg) (hn) (hx)) rfl ⟨rfl, rfl, rfl, rfl⟩ (Nat.le_of_ble_eq_true rfl) rfl dd_Mo_toldOf_69 (fun r69 m69 hR69 hp69 => ?_)
    refine gf_iret C hQ dd_Mo_toldOf_72 (by omega) ?_
    have h69 := hp69.1
    exact ⟨⟨by unfold gm_og; rw [if_neg (by omega), if_neg (by omega), if_neg (by omega), if_neg (by omega)]; exact h69.1, by omega, by omega⟩, hp69.2⟩

theorem dd_Mo_guard_0 : decode cc_Mo_guard 0 = .ok (.aload_n 0, 1) := by decide +kernel
theorem dd_Mo_guard_1 : decode cc_Mo_guard 1 = .ok (.iload_n 1, 1) := by decide +kernel
theorem dd_Mo_guard_2 : decode cc_Mo_guard 2 = .ok (.invokevirtual 183, 3) := by decide +kernel
theorem dd_Mo_guard_5 : decode cc_Mo_guard 5 = .ok (.ifCond .eq 28, 3) := by decide +kernel
theorem dd_Mo_guard_8 : decode cc_Mo_guard 8 = .ok (.iload_n 2, 1) := by decide +kernel
theorem dd_Mo_guard_9 : decode cc_Mo_guard 9 = .ok (.i2l, 1) := by decide +kernel
theorem dd_Mo_guard_10 : decode cc_Mo_guard 10 = .ok (.lconst 0, 1) := by decide +kernel
theorem dd_Mo_guard_11 : decode cc_Mo_guard 11 = .ok (.ldc2_w 189, 3) := by decide +kernel
theorem dd_Mo_guard_14 : decode cc_Mo_guard 14 = .ok (.invokestatic 69, 3) := by decide +kernel
theorem dd_Mo_guard_17 : decode cc_Mo_guard 17 = .ok (.ifCond .eq 16, 3) := by decide +kernel
theorem dd_Mo_guard_20 : decode cc_Mo_guard 20 = .ok (.aload_n 0, 1) := by decide +kernel
theorem dd_Mo_guard_21 : decode cc_Mo_guard 21 = .ok (.aload_n 0, 1) := by decide +kernel
theorem dd_Mo_guard_22 : decode cc_Mo_guard 22 = .ok (.iload_n 1, 1) := by decide +kernel
theorem dd_Mo_guard_23 : decode cc_Mo_guard 23 = .ok (.iload_n 2, 1) := by decide +kernel
theorem dd_Mo_guard_24 : decode cc_Mo_guard 24 = .ok (.invokevirtual 191, 3) := by decide +kernel
theorem dd_Mo_guard_27 : decode cc_Mo_guard 27 = .ok (.invokevirtual 85, 3) := by decide +kernel
theorem dd_Mo_guard_30 : decode cc_Mo_guard 30 = .ok (.goto 4, 3) := by decide +kernel
theorem dd_Mo_guard_33 : decode cc_Mo_guard 33 = .ok (.iconst (-1), 1) := by decide +kernel
theorem dd_Mo_guard_34 : decode cc_Mo_guard 34 = .ok (.ireturn, 1) := by decide +kernel
set_option maxRecDepth 100000 in
set_option maxHeartbeats 4000000 in
theorem ct_Mo_guard (l : Launch) (E : gf_E) (i w : Int) (μ : gf_M) (hi : gf_R i) (hw : gf_R w) (hok : gm_ok μ)  : gf_Mi l E yy_Mo_guard cc_Mo_guard 3 .int (gf_rm 8 191) 81 gf_ref μ [.ref (gf_ad E 65), .int (gf_i i), .int (gf_i w)] (fun q μ' => (¬ (0 ≤ i ∧ i < μ 71 0 ∧ 0 ≤ w ∧ w < 5) → q = -1 ∧ μ' = μ) ∧ (0 ≤ i ∧ i < μ 71 0 ∧ 0 ≤ w ∧ w < 5 → q = 1 ∧ gm_sc μ' (gm_tl μ (gm_og μ i w)))) := by
  refine gf_mi (by decide +kernel) (Nat.le_of_ble_eq_true rfl) (by decide) (fun X Q hlx C hQ => ?_)
  subst hlx
  replace C : gf_C X E cc_Mo_guard 3 "GuardFiguresModel" (gf_rm 8 191) := C
  show gf_G X E Q 3 gf_φ μ 0 [(0, .ref (gf_ad E 65)), (1, .int (gf_i i)), (2, .int (gf_i w))] []
  obtain ⟨hc, hgs, hn, hx, hd⟩ := id hok
  refine gf_aload_n C dd_Mo_guard_0 0 rfl ?_
  refine gf_iload_n C dd_Mo_guard_1 1 rfl ?_
  refine gf_callVi (st := []) (As := [.int (gf_i i)]) C wk_Mo_183 gf_cl7 (show gf_is 81 65 0 7 26 by decide) (ct_Mo_isGuard (gf_xl X) E i μ (by omega) (by omega)) rfl ⟨rfl, rfl, rfl, rfl⟩ (Nat.le_of_ble_eq_true rfl) rfl dd_Mo_guard_2 (fun r2 m2 hR2 hp2 => ?_)
  have hr2 := hp2.1
  refine gf_pm hp2.2 ?_
  refine gf_if_eq 33 C dd_Mo_guard_5 (by decide) (by omega) (fun h5 => ?_) (fun h5 => ?_)
  · skip
    refine gf_iconst C dd_Mo_guard_33 ?_
    refine gf_iret C hQ dd_Mo_guard_34 (by omega) ?_
    first
    | (exact ⟨fun _ => ⟨rfl, rfl⟩, fun h => absurd h (by omega)⟩)
    | (refine ⟨fun h => absurd h (by omega), fun _ => ⟨hp27.1, ?_⟩⟩
       rw [← h24.1]
       exact gm_sc_tl hp24.2 hp27.2)
  · skip
    refine gf_iload_n C dd_Mo_guard_8 2 rfl ?_
    refine gf_gi2l C dd_Mo_guard_9 (by omega) ?_
    refine gf_lconst 0 C dd_Mo_guard_10 (by decide +kernel) ?_
    refine gf_ldc2 4 C dd_Mo_guard_11 ck_Mo_189 (by decide +kernel) ?_
    refine gf_callSi (st := []) (As := [.long (gf_l w), .long (gf_l 0), .long (gf_l 4)]) C wk_Mo_69 (ct_Mo_in (gf_xl X) E w 0 4 μ (by omega) (by omega) (by omega)) rfl ⟨rfl, rfl, rfl, rfl⟩ (Nat.le_of_ble_eq_true rfl) rfl dd_Mo_guard_14 (fun r14 m14 hR14 hp14 => ?_)
    have hr14 := hp14.1
    refine gf_pm hp14.2 ?_
    refine gf_if_eq 33 C dd_Mo_guard_17 (by decide) (by omega) (fun h17 => ?_) (fun h17 => ?_)
    · skip
      refine gf_iconst C dd_Mo_guard_33 ?_
      refine gf_iret C hQ dd_Mo_guard_34 (by omega) ?_
      first
      | (exact ⟨fun _ => ⟨rfl, rfl⟩, fun h => absurd h (by omega)⟩)
      | (refine ⟨fun h => absurd h (by omega), fun _ => ⟨hp27.1, ?_⟩⟩
         rw [← h24.1]
         exact gm_sc_tl hp24.2 hp27.2)
    · skip
      have hin : 0 ≤ i ∧ i < μ 71 0 := by omega
      have hg := gm_ok_g hok hin
      refine gf_aload_n C dd_Mo_guard_20 0 rfl ?_
      refine gf_aload_n C dd_Mo_guard_21 0 rfl ?_
      refine gf_iload_n C dd_Mo_guard_22 1 rfl ?_
      refine gf_iload_n C dd_Mo_guard_23 2 rfl ?_
      refine gf_callVi (st := [.ref (gf_ad E 65)]) (As := [.int (gf_i i), .int (gf_i w)]) C wk_Mo_191 gf_cl7 (show gf_is 81 65 0 7 26 by decide) (ct_Mo_toldOf (gf_xl X) E i w μ (hg) (by omega) (hn) (hx)) rfl ⟨rfl, rfl, rfl, rfl⟩ (Nat.le_of_ble_eq_true rfl) rfl dd_Mo_guard_24 (fun r24 m24 hR24 hp24 => ?_)
      have h24 := hp24.1
      refine gf_callVi (st := []) (As := [.int (gf_i r24)]) C wk_Mo_85 gf_cl7 (show gf_is 81 65 0 7 26 by decide) (ct_Mo_tells (gf_xl X) E r24 m24 (by omega)) rfl ⟨rfl, rfl, rfl, rfl⟩ (Nat.le_of_ble_eq_true rfl) rfl dd_Mo_guard_27 (fun r27 m27 hR27 hp27 => ?_)
      refine gf_goto 34 C dd_Mo_guard_30 (by decide) ?_
      refine gf_iret C hQ dd_Mo_guard_34 (by omega) ?_
      first
      | (exact ⟨fun _ => ⟨rfl, rfl⟩, fun h => absurd h (by omega)⟩)
      | (refine ⟨fun h => absurd h (by omega), fun _ => ⟨hp27.1, ?_⟩⟩
         rw [← h24.1]
         exact gm_sc_tl hp24.2 hp27.2)

theorem dd_Mo_mark_0 : decode cc_Mo_mark 0 = .ok (.aload_n 0, 1) := by decide +kernel
theorem dd_Mo_mark_1 : decode cc_Mo_mark 1 = .ok (.iload_n 1, 1) := by decide +kernel
theorem dd_Mo_mark_2 : decode cc_Mo_mark 2 = .ok (.invokevirtual 183, 3) := by decide +kernel
theorem dd_Mo_mark_5 : decode cc_Mo_mark 5 = .ok (.ifCond .eq 15, 3) := by decide +kernel
theorem dd_Mo_mark_8 : decode cc_Mo_mark 8 = .ok (.iload_n 2, 1) := by decide +kernel
theorem dd_Mo_mark_9 : decode cc_Mo_mark 9 = .ok (.i2l, 1) := by decide +kernel
theorem dd_Mo_mark_10 : decode cc_Mo_mark 10 = .ok (.lconst 1, 1) := by decide +kernel
theorem dd_Mo_mark_11 : decode cc_Mo_mark 11 = .ok (.ldc2_w 67, 3) := by decide +kernel
theorem dd_Mo_mark_14 : decode cc_Mo_mark 14 = .ok (.invokestatic 69, 3) := by decide +kernel
theorem dd_Mo_mark_17 : decode cc_Mo_mark 17 = .ok (.ifCond .ne 5, 3) := by decide +kernel
theorem dd_Mo_mark_20 : decode cc_Mo_mark 20 = .ok (.iconst (-1), 1) := by decide +kernel
theorem dd_Mo_mark_21 : decode cc_Mo_mark 21 = .ok (.ireturn, 1) := by decide +kernel
theorem dd_Mo_mark_22 : decode cc_Mo_mark 22 = .ok (.aload_n 0, 1) := by decide +kernel
theorem dd_Mo_mark_23 : decode cc_Mo_mark 23 = .ok (.getfield 30, 3) := by decide +kernel
theorem dd_Mo_mark_26 : decode cc_Mo_mark 26 = .ok (.iconst 3, 1) := by decide +kernel
theorem dd_Mo_mark_27 : decode cc_Mo_mark 27 = .ok (.iload_n 1, 1) := by decide +kernel
theorem dd_Mo_mark_28 : decode cc_Mo_mark 28 = .ok (.iadd, 1) := by decide +kernel
theorem dd_Mo_mark_29 : decode cc_Mo_mark 29 = .ok (.iaload, 1) := by decide +kernel
theorem dd_Mo_mark_30 : decode cc_Mo_mark 30 = .ok (.iload_n 2, 1) := by decide +kernel
theorem dd_Mo_mark_31 : decode cc_Mo_mark 31 = .ok (.invokestatic 194, 3) := by decide +kernel
theorem dd_Mo_mark_34 : decode cc_Mo_mark 34 = .ok (.ifCond .ne 9, 3) := by decide +kernel
theorem dd_Mo_mark_37 : decode cc_Mo_mark 37 = .ok (.aload_n 0, 1) := by decide +kernel
theorem dd_Mo_mark_38 : decode cc_Mo_mark 38 = .ok (.iconst 3, 1) := by decide +kernel
theorem dd_Mo_mark_39 : decode cc_Mo_mark 39 = .ok (.invokevirtual 77, 3) := by decide +kernel
theorem dd_Mo_mark_42 : decode cc_Mo_mark 42 = .ok (.ireturn, 1) := by decide +kernel
theorem dd_Mo_mark_43 : decode cc_Mo_mark 43 = .ok (.iload_n 2, 1) := by decide +kernel
theorem dd_Mo_mark_44 : decode cc_Mo_mark 44 = .ok (.iconst 4, 1) := by decide +kernel
theorem dd_Mo_mark_45 : decode cc_Mo_mark 45 = .ok (.if_icmp .ne 7, 3) := by decide +kernel
theorem dd_Mo_mark_48 : decode cc_Mo_mark 48 = .ok (.iconst 1, 1) := by decide +kernel
theorem dd_Mo_mark_49 : decode cc_Mo_mark 49 = .ok (.goto 13, 3) := by decide +kernel
theorem dd_Mo_mark_52 : decode cc_Mo_mark 52 = .ok (.iload_n 2, 1) := by decide +kernel
theorem dd_Mo_mark_53 : decode cc_Mo_mark 53 = .ok (.iconst 5, 1) := by decide +kernel
theorem dd_Mo_mark_54 : decode cc_Mo_mark 54 = .ok (.if_icmp .ne 7, 3) := by decide +kernel
theorem dd_Mo_mark_57 : decode cc_Mo_mark 57 = .ok (.iconst 2, 1) := by decide +kernel
theorem dd_Mo_mark_58 : decode cc_Mo_mark 58 = .ok (.goto 4, 3) := by decide +kernel
theorem dd_Mo_mark_61 : decode cc_Mo_mark 61 = .ok (.iconst 0, 1) := by decide +kernel
theorem dd_Mo_mark_62 : decode cc_Mo_mark 62 = .ok (.istore_n 3, 1) := by decide +kernel
theorem dd_Mo_mark_63 : decode cc_Mo_mark 63 = .ok (.aload_n 0, 1) := by decide +kernel
theorem dd_Mo_mark_64 : decode cc_Mo_mark 64 = .ok (.iload_n 1, 1) := by decide +kernel
theorem dd_Mo_mark_65 : decode cc_Mo_mark 65 = .ok (.invokevirtual 162, 3) := by decide +kernel
theorem dd_Mo_mark_68 : decode cc_Mo_mark 68 = .ok (.aload_n 0, 1) := by decide +kernel
theorem dd_Mo_mark_69 : decode cc_Mo_mark 69 = .ok (.iload_n 1, 1) := by decide +kernel
theorem dd_Mo_mark_70 : decode cc_Mo_mark 70 = .ok (.iload_n 3, 1) := by decide +kernel
theorem dd_Mo_mark_71 : decode cc_Mo_mark 71 = .ok (.aload_n 0, 1) := by decide +kernel
theorem dd_Mo_mark_72 : decode cc_Mo_mark 72 = .ok (.getfield 36, 3) := by decide +kernel
theorem dd_Mo_mark_75 : decode cc_Mo_mark 75 = .ok (.aload_n 0, 1) := by decide +kernel
theorem dd_Mo_mark_76 : decode cc_Mo_mark 76 = .ok (.getfield 146, 3) := by decide +kernel
theorem dd_Mo_mark_79 : decode cc_Mo_mark 79 = .ok (.invokevirtual 143, 3) := by decide +kernel
theorem dd_Mo_mark_82 : decode cc_Mo_mark 82 = .ok (.isub, 1) := by decide +kernel
theorem dd_Mo_mark_83 : decode cc_Mo_mark 83 = .ok (.istore 4, 2) := by decide +kernel
theorem dd_Mo_mark_85 : decode cc_Mo_mark 85 = .ok (.iload 4, 2) := by decide +kernel
theorem dd_Mo_mark_87 : decode cc_Mo_mark 87 = .ok (.ifCond .ge 9, 3) := by decide +kernel
theorem dd_Mo_mark_90 : decode cc_Mo_mark 90 = .ok (.iload 4, 2) := by decide +kernel
theorem dd_Mo_mark_92 : decode cc_Mo_mark 92 = .ok (.ineg, 1) := by decide +kernel
theorem dd_Mo_mark_93 : decode cc_Mo_mark 93 = .ok (.goto 5, 3) := by decide +kernel
theorem dd_Mo_mark_96 : decode cc_Mo_mark 96 = .ok (.iload 4, 2) := by decide +kernel
theorem dd_Mo_mark_98 : decode cc_Mo_mark 98 = .ok (.ireturn, 1) := by decide +kernel
set_option maxRecDepth 100000 in
set_option maxHeartbeats 4000000 in
theorem ct_Mo_mark (l : Launch) (E : gf_E) (i w : Int) (μ : gf_M) (hi : gf_R i) (hw : gf_R w) (hok : gm_ok μ)  : gf_Mi l E yy_Mo_mark cc_Mo_mark 5 .int (gf_rm 5 121) 81 gf_ref μ [.ref (gf_ad E 65), .int (gf_i i), .int (gf_i w)] (fun q μ' => (¬ (0 ≤ i ∧ i < μ 71 0 ∧ 1 ≤ w ∧ w ≤ 5) → q = -1 ∧ μ' = μ) ∧ (0 ≤ i ∧ i < μ 71 0 ∧ 1 ≤ w ∧ w ≤ 5 → (¬ pf_is (μ 71 (3 + i)) w → q = -3 ∧ μ' = gm_fd μ 3) ∧ (pf_is (μ 71 (3 + i)) w → q = gf_abs (gm_rk μ i (gm_x μ) (μ 71 1) - pf_reck (([-1, 0, 0, 0, 1, 2] : List Int).getD w.toNat 0) (μ 71 (10 + i)) (μ 71 (17 + i)) (gm_x μ) (μ 71 1)) ∧ gm_sc μ' μ))) := by
  refine gf_mi (by decide +kernel) (Nat.le_of_ble_eq_true rfl) (by decide) (fun X Q hlx C hQ => ?_)
  subst hlx
  replace C : gf_C X E cc_Mo_mark 5 "GuardFiguresModel" (gf_rm 5 121) := C
  show gf_G X E Q 5 gf_φ μ 0 [(0, .ref (gf_ad E 65)), (1, .int (gf_i i)), (2, .int (gf_i w))] []
  obtain ⟨hc, hgs, hn, hx, hd⟩ := id hok
  refine gf_aload_n C dd_Mo_mark_0 0 rfl ?_
  refine gf_iload_n C dd_Mo_mark_1 1 rfl ?_
  refine gf_callVi (st := []) (As := [.int (gf_i i)]) C wk_Mo_183 gf_cl7 (show gf_is 81 65 0 7 26 by decide) (ct_Mo_isGuard (gf_xl X) E i μ (by omega) (by omega)) rfl ⟨rfl, rfl, rfl, rfl⟩ (Nat.le_of_ble_eq_true rfl) rfl dd_Mo_mark_2 (fun r2 m2 hR2 hp2 => ?_)
  have hr2 := hp2.1
  refine gf_pm hp2.2 ?_
  refine gf_if_eq 20 C dd_Mo_mark_5 (by decide) (by omega) (fun h5 => ?_) (fun h5 => ?_)
  · skip
    refine gf_iconst C dd_Mo_mark_20 ?_
    refine gf_iret C hQ dd_Mo_mark_21 (by omega) ?_
    exact ⟨fun _ => ⟨rfl, rfl⟩, fun h => absurd h (by omega)⟩
  · skip
    refine gf_iload_n C dd_Mo_mark_8 2 rfl ?_
    refine gf_gi2l C dd_Mo_mark_9 (by omega) ?_
    refine gf_lconst 1 C dd_Mo_mark_10 (by decide +kernel) ?_
    refine gf_ldc2 5 C dd_Mo_mark_11 ck_Mo_67 (by decide +kernel) ?_
    refine gf_callSi (st := []) (As := [.long (gf_l w), .long (gf_l 1), .long (gf_l 5)]) C wk_Mo_69 (ct_Mo_in (gf_xl X) E w 1 5 μ (by omega) (by omega) (by omega)) rfl ⟨rfl, rfl, rfl, rfl⟩ (Nat.le_of_ble_eq_true rfl) rfl dd_Mo_mark_14 (fun r14 m14 hR14 hp14 => ?_)
    have hr14 := hp14.1
    refine gf_pm hp14.2 ?_
    refine gf_if_ne 22 C dd_Mo_mark_17 (by decide) (by omega) (fun h17 => ?_) (fun h17 => ?_)
    · skip
      have hin : 0 ≤ i ∧ i < μ 71 0 := by omega
      have hin2 : 1 ≤ w ∧ w ≤ 5 := by omega
      have hg := gm_ok_g hok hin
      have hg0 := hg.1
      have hg1 := hg.2.1
      clear hr2 hr14 hp2 hp14
      have hab := pf_above (x := w) (by omega)
      refine gf_aload_n C dd_Mo_mark_22 0 rfl ?_
      refine gf_getA (r := 71) C gf_cl7 fl_Mo_30 dd_Mo_mark_23 rfl (show gf_is 81 65 0 7 26 by decide) (by decide) (by decide) ?_
      refine gf_iconst C dd_Mo_mark_26 ?_
      refine gf_iload_n C dd_Mo_mark_27 1 rfl ?_
      refine gf_iadd C dd_Mo_mark_28 ?_
      refine gf_iald C dd_Mo_mark_29 (show gf_is 81 71 1 0 392 by decide) (by omega) (fun hv29 => ?_)
      refine gf_iload_n C dd_Mo_mark_30 2 rfl ?_
      refine gf_callSi (st := []) (As := [.int (gf_i (μ 71 (3 + i))), .int (gf_i w)]) C wk_Mo_194 (ct_Mo_isOf (gf_xl X) E (μ 71 (3 + i)) w μ (by omega) (by omega)) rfl ⟨rfl, rfl, rfl, rfl⟩ (Nat.le_of_ble_eq_true rfl) rfl dd_Mo_mark_31 (fun r31 m31 hR31 hp31 => ?_)
      have hr31 := hp31.1
      refine gf_pm hp31.2 ?_
      refine gf_if_ne 43 C dd_Mo_mark_34 (by decide) (by omega) (fun h34 => ?_) (fun h34 => ?_)
      · skip
        have his : pf_is (μ 71 (3 + i)) w := by
          rcases hr31 with h | h
          · exact h.1
          · exfalso; have := h.2; omega
        clear hr31 hp31
        refine gf_iload_n C dd_Mo_mark_43 2 rfl ?_
        refine gf_iconst C dd_Mo_mark_44 ?_
        refine gf_icmp_ne 52 C dd_Mo_mark_45 (by decide) (by omega) (by omega) (fun h45 => ?_) (fun h45 => ?_)
        · skip
          refine gf_iload_n C dd_Mo_mark_52 2 rfl ?_
          refine gf_iconst C dd_Mo_mark_53 ?_
          refine gf_icmp_ne 61 C dd_Mo_mark_54 (by decide) (by omega) (by omega) (fun h54 => ?_) (fun h54 => ?_)
          · skip
            refine gf_iconst C dd_Mo_mark_61 ?_
            refine gf_istore_n (lv' := [(3, .int (gf_i 0)), (0, .ref (gf_ad E 65)), (1, .int (gf_i i)), (2, .int (gf_i w))]) C dd_Mo_mark_62 (by decide) rfl ?_
            refine gf_aload_n C dd_Mo_mark_63 1 rfl ?_
            refine gf_iload_n C dd_Mo_mark_64 2 rfl ?_
            refine gf_callVi (st := []) (As := [.int (gf_i i)]) C wk_Mo_162 gf_cl7 (show gf_is 81 65 0 7 26 by decide) (ct_Mo_now (gf_xl X) E i μ (hg) (hn) (hx)) rfl ⟨rfl, rfl, rfl, rfl⟩ (Nat.le_of_ble_eq_true rfl) rfl dd_Mo_mark_65 (fun r65 m65 hR65 hp65 => ?_)
            obtain ⟨hra, hrw⟩ := hp65
            have hw15 := hrw.1
            have q65 : ∀ b : Int, m65 71 b = μ 71 b := fun b => hrw.2.2 71 b (by omega) (by omega)
            refine gf_aload_n C dd_Mo_mark_68 1 rfl ?_
            refine gf_iload_n C dd_Mo_mark_69 2 rfl ?_
            refine gf_iload_n C dd_Mo_mark_70 0 rfl ?_
            refine gf_aload_n C dd_Mo_mark_71 1 rfl ?_
            refine gf_getA (r := 73) C gf_cl7 fl_Mo_36 dd_Mo_mark_72 rfl (show gf_is 81 65 0 7 26 by decide) (by decide) (by decide) ?_
            refine gf_aload_n C dd_Mo_mark_75 1 rfl ?_
            refine gf_getI (z := 15) C gf_cl7 fl_Mo_146 dd_Mo_mark_76 rfl rfl (show gf_is 81 65 0 7 26 by decide) (fun hv76 => ?_)
            refine gf_callVi (st := [.int (gf_i r65)]) (As := [.int (gf_i i), .int (gf_i 0), .ref (gf_ad E 73), .int (gf_i (m65 65 15))]) C wk_Mo_143 gf_cl7 (show gf_is 81 65 0 7 26 by decide) (ct_Mo_asKind (gf_xl X) E i 0 73 (m65 65 15) 8 m65 (by omega) hg0 (by rw [q65]; exact hg.2.2.1) (by rw [q65]; exact hg.2.2.2) (show gf_is 81 73 1 0 8 by decide) (by omega) (by rw [hw15]; exact gm_wr_x hrw hn hx)) rfl ⟨rfl, rfl, rfl, rfl⟩ (Nat.le_of_ble_eq_true rfl) rfl dd_Mo_mark_79 (fun r79 m79 hR79 hp79 => ?_)
            have hr79 := hp79.1
            refine gf_pm hp79.2 ?_
            refine gf_isub C dd_Mo_mark_82 ?_
            refine gf_nm (fun x83 hx83 => ?_)
            refine gf_istore (lv' := [(4, .int (gf_i x83)), (3, .int (gf_i 0)), (0, .ref (gf_ad E 65)), (1, .int (gf_i i)), (2, .int (gf_i w))]) C dd_Mo_mark_83 (by decide) rfl ?_
            have hra1 := hra.1
            have hr79a := hr79.1
            have eab : 0 = (([-1, 0, 0, 0, 1, 2] : List Int).getD w.toNat 0) := by
              first | (rw [hab.2.1 (by omega)]; done) | (rw [hab.2.2.1 (by omega)]; done) | (rw [hab.2.2.2 (by omega)]; done)
            have hoth : r79 = pf_reck (([-1, 0, 0, 0, 1, 2] : List Int).getD w.toNat 0) (μ 71 (10 + i)) (μ 71 (17 + i)) (gm_x μ) (μ 71 1) := by
              rw [hr79a, q65, q65, hw15, ← eab]
              exact pf_reck_congr (size := μ 71 1) (fun j h0 h1 => hrw.2.1 j h0 (by omega))
            refine gf_iload C dd_Mo_mark_85 0 rfl ?_
            refine gf_if_ge 96 C dd_Mo_mark_87 (by decide) (by omega) (fun h87 => ?_) (fun h87 => ?_)
            · skip
              refine gf_iload C dd_Mo_mark_96 0 rfl ?_
              refine gf_iret C hQ dd_Mo_mark_98 (by omega) ?_
              refine ⟨fun h => absurd h (by omega), fun _ => ⟨fun h => absurd his h, fun _ => ⟨?_, gm_sc_w hrw⟩⟩⟩
              rw [← hra1, ← hoth, ← hx83]
              unfold gf_abs
              first | (rw [if_pos (by omega)]; done) | (rw [if_neg (by omega)]; omega)
            · skip
              refine gf_iload C dd_Mo_mark_90 0 rfl ?_
              refine gf_ineg C dd_Mo_mark_92 ?_
              refine gf_goto 98 C dd_Mo_mark_93 (by decide) ?_
              refine gf_iret C hQ dd_Mo_mark_98 (by omega) ?_
              refine ⟨fun h => absurd h (by omega), fun _ => ⟨fun h => absurd his h, fun _ => ⟨?_, gm_sc_w hrw⟩⟩⟩
              rw [← hra1, ← hoth, ← hx83]
              unfold gf_abs
              first | (rw [if_pos (by omega)]; done) | (rw [if_neg (by omega)]; omega)
          · skip
            refine gf_iconst C dd_Mo_mark_57 ?_
            refine gf_goto 62 C dd_Mo_mark_58 (by decide) ?_
            refine gf_istore_n (lv' := [(3, .int (gf_i 2)), (0, .ref (gf_ad E 65)), (1, .int (gf_i i)), (2, .int (gf_i w))]) C dd_Mo_mark_62 (by decide) rfl ?_
            refine gf_aload_n C dd_Mo_mark_63 1 rfl ?_
            refine gf_iload_n C dd_Mo_mark_64 2 rfl ?_
            refine gf_callVi (st := []) (As := [.int (gf_i i)]) C wk_Mo_162 gf_cl7 (show gf_is 81 65 0 7 26 by decide) (ct_Mo_now (gf_xl X) E i μ (hg) (hn) (hx)) rfl ⟨rfl, rfl, rfl, rfl⟩ (Nat.le_of_ble_eq_true rfl) rfl dd_Mo_mark_65 (fun r65 m65 hR65 hp65 => ?_)
            obtain ⟨hra, hrw⟩ := hp65
            have hw15 := hrw.1
            have q65 : ∀ b : Int, m65 71 b = μ 71 b := fun b => hrw.2.2 71 b (by omega) (by omega)
            refine gf_aload_n C dd_Mo_mark_68 1 rfl ?_
            refine gf_iload_n C dd_Mo_mark_69 2 rfl ?_
            refine gf_iload_n C dd_Mo_mark_70 0 rfl ?_
            refine gf_aload_n C dd_Mo_mark_71 1 rfl ?_
            refine gf_getA (r := 73) C gf_cl7 fl_Mo_36 dd_Mo_mark_72 rfl (show gf_is 81 65 0 7 26 by decide) (by decide) (by decide) ?_
            refine gf_aload_n C dd_Mo_mark_75 1 rfl ?_
            refine gf_getI (z := 15) C gf_cl7 fl_Mo_146 dd_Mo_mark_76 rfl rfl (show gf_is 81 65 0 7 26 by decide) (fun hv76 => ?_)
            refine gf_callVi (st := [.int (gf_i r65)]) (As := [.int (gf_i i), .int (gf_i 2), .ref (gf_ad E 73), .int (gf_i (m65 65 15))]) C wk_Mo_143 gf_cl7 (show gf_is 81 65 0 7 26 by decide) (ct_Mo_asKind (gf_xl X) E i 2 73 (m65 65 15) 8 m65 (by omega) hg0 (by rw [q65]; exact hg.2.2.1) (by rw [q65]; exact hg.2.2.2) (show gf_is 81 73 1 0 8 by decide) (by omega) (by rw [hw15]; exact gm_wr_x hrw hn hx)) rfl ⟨rfl, rfl, rfl, rfl⟩ (Nat.le_of_ble_eq_true rfl) rfl dd_Mo_mark_79 (fun r79 m79 hR79 hp79 => ?_)
            have hr79 := hp79.1
            refine gf_pm hp79.2 ?_
            refine gf_isub C dd_Mo_mark_82 ?_
            refine gf_nm (fun x83 hx83 => ?_)
            refine gf_istore (lv' := [(4, .int (gf_i x83)), (3, .int (gf_i 2)), (0, .ref (gf_ad E 65)), (1, .int (gf_i i)), (2, .int (gf_i w))]) C dd_Mo_mark_83 (by decide) rfl ?_
            have hra1 := hra.1
            have hr79a := hr79.1
            have eab : 2 = (([-1, 0, 0, 0, 1, 2] : List Int).getD w.toNat 0) := by
              first | (rw [hab.2.1 (by omega)]; done) | (rw [hab.2.2.1 (by omega)]; done) | (rw [hab.2.2.2 (by omega)]; done)
            have hoth : r79 = pf_reck (([-1, 0, 0, 0, 1, 2] : List Int).getD w.toNat 0) (μ 71 (10 + i)) (μ 71 (17 + i)) (gm_x μ) (μ 71 1) := by
              rw [hr79a, q65, q65, hw15, ← eab]
              exact pf_reck_congr (size := μ 71 1) (fun j h0 h1 => hrw.2.1 j h0 (by omega))
            refine gf_iload C dd_Mo_mark_85 0 rfl ?_
            refine gf_if_ge 96 C dd_Mo_mark_87 (by decide) (by omega) (fun h87 => ?_) (fun h87 => ?_)
            · skip
              refine gf_iload C dd_Mo_mark_96 0 rfl ?_
              refine gf_iret C hQ dd_Mo_mark_98 (by omega) ?_
              refine ⟨fun h => absurd h (by omega), fun _ => ⟨fun h => absurd his h, fun _ => ⟨?_, gm_sc_w hrw⟩⟩⟩
              rw [← hra1, ← hoth, ← hx83]
              unfold gf_abs
              first | (rw [if_pos (by omega)]; done) | (rw [if_neg (by omega)]; omega)
            · skip
              refine gf_iload C dd_Mo_mark_90 0 rfl ?_
              refine gf_ineg C dd_Mo_mark_92 ?_
              refine gf_goto 98 C dd_Mo_mark_93 (by decide) ?_
              refine gf_iret C hQ dd_Mo_mark_98 (by omega) ?_
              refine ⟨fun h => absurd h (by omega), fun _ => ⟨fun h => absurd his h, fun _ => ⟨?_, gm_sc_w hrw⟩⟩⟩
              rw [← hra1, ← hoth, ← hx83]
              unfold gf_abs
              first | (rw [if_pos (by omega)]; done) | (rw [if_neg (by omega)]; omega)
        · skip
          refine gf_iconst C dd_Mo_mark_48 ?_
          refine gf_goto 62 C dd_Mo_mark_49 (by decide) ?_
          refine gf_istore_n (lv' := [(3, .int (gf_i 1)), (0, .ref (gf_ad E 65)), (1, .int (gf_i i)), (2, .int (gf_i w))]) C dd_Mo_mark_62 (by decide) rfl ?_
          refine gf_aload_n C dd_Mo_mark_63 1 rfl ?_
          refine gf_iload_n C dd_Mo_mark_64 2 rfl ?_
          refine gf_callVi (st := []) (As := [.int (gf_i i)]) C wk_Mo_162 gf_cl7 (show gf_is 81 65 0 7 26 by decide) (ct_Mo_now (gf_xl X) E i μ (hg) (hn) (hx)) rfl ⟨rfl, rfl, rfl, rfl⟩ (Nat.le_of_ble_eq_true rfl) rfl dd_Mo_mark_65 (fun r65 m65 hR65 hp65 => ?_)
          obtain ⟨hra, hrw⟩ := hp65
          have hw15 := hrw.1
          have q65 : ∀ b : Int, m65 71 b = μ 71 b := fun b => hrw.2.2 71 b (by omega) (by omega)
          refine gf_aload_n C dd_Mo_mark_68 1 rfl ?_
          refine gf_iload_n C dd_Mo_mark_69 2 rfl ?_
          refine gf_iload_n C dd_Mo_mark_70 0 rfl ?_
          refine gf_aload_n C dd_Mo_mark_71 1 rfl ?_
          refine gf_getA (r := 73) C gf_cl7 fl_Mo_36 dd_Mo_mark_72 rfl (show gf_is 81 65 0 7 26 by decide) (by decide) (by decide) ?_
          refine gf_aload_n C dd_Mo_mark_75 1 rfl ?_
          refine gf_getI (z := 15) C gf_cl7 fl_Mo_146 dd_Mo_mark_76 rfl rfl (show gf_is 81 65 0 7 26 by decide) (fun hv76 => ?_)
          refine gf_callVi (st := [.int (gf_i r65)]) (As := [.int (gf_i i), .int (gf_i 1), .ref (gf_ad E 73), .int (gf_i (m65 65 15))]) C wk_Mo_143 gf_cl7 (show gf_is 81 65 0 7 26 by decide) (ct_Mo_asKind (gf_xl X) E i 1 73 (m65 65 15) 8 m65 (by omega) hg0 (by rw [q65]; exact hg.2.2.1) (by rw [q65]; exact hg.2.2.2) (show gf_is 81 73 1 0 8 by decide) (by omega) (by rw [hw15]; exact gm_wr_x hrw hn hx)) rfl ⟨rfl, rfl, rfl, rfl⟩ (Nat.le_of_ble_eq_true rfl) rfl dd_Mo_mark_79 (fun r79 m79 hR79 hp79 => ?_)
          have hr79 := hp79.1
          refine gf_pm hp79.2 ?_
          refine gf_isub C dd_Mo_mark_82 ?_
          refine gf_nm (fun x83 hx83 => ?_)
          refine gf_istore (lv' := [(4, .int (gf_i x83)), (3, .int (gf_i 1)), (0, .ref (gf_ad E 65)), (1, .int (gf_i i)), (2, .int (gf_i w))]) C dd_Mo_mark_83 (by decide) rfl ?_
          have hra1 := hra.1
          have hr79a := hr79.1
          have eab : 1 = (([-1, 0, 0, 0, 1, 2] : List Int).getD w.toNat 0) := by
            first | (rw [hab.2.1 (by omega)]; done) | (rw [hab.2.2.1 (by omega)]; done) | (rw [hab.2.2.2 (by omega)]; done)
          have hoth : r79 = pf_reck (([-1, 0, 0, 0, 1, 2] : List Int).getD w.toNat 0) (μ 71 (10 + i)) (μ 71 (17 + i)) (gm_x μ) (μ 71 1) := by
            rw [hr79a, q65, q65, hw15, ← eab]
            exact pf_reck_congr (size := μ 71 1) (fun j h0 h1 => hrw.2.1 j h0 (by omega))
          refine gf_iload C dd_Mo_mark_85 0 rfl ?_
          refine gf_if_ge 96 C dd_Mo_mark_87 (by decide) (by omega) (fun h87 => ?_) (fun h87 => ?_)
          · skip
            refine gf_iload C dd_Mo_mark_96 0 rfl ?_
            refine gf_iret C hQ dd_Mo_mark_98 (by omega) ?_
            refine ⟨fun h => absurd h (by omega), fun _ => ⟨fun h => absurd his h, fun _ => ⟨?_, gm_sc_w hrw⟩⟩⟩
            rw [← hra1, ← hoth, ← hx83]
            unfold gf_abs
            first | (rw [if_pos (by omega)]; done) | (rw [if_neg (by omega)]; omega)
          · skip
            refine gf_iload C dd_Mo_mark_90 0 rfl ?_
            refine gf_ineg C dd_Mo_mark_92 ?_
            refine gf_goto 98 C dd_Mo_mark_93 (by decide) ?_
            refine gf_iret C hQ dd_Mo_mark_98 (by omega) ?_
            refine ⟨fun h => absurd h (by omega), fun _ => ⟨fun h => absurd his h, fun _ => ⟨?_, gm_sc_w hrw⟩⟩⟩
            rw [← hra1, ← hoth, ← hx83]
            unfold gf_abs
            first | (rw [if_pos (by omega)]; done) | (rw [if_neg (by omega)]; omega)
      · skip
        refine gf_aload_n C dd_Mo_mark_37 0 rfl ?_
        refine gf_iconst C dd_Mo_mark_38 ?_
        refine gf_callVi (st := []) (As := [.int (gf_i 3)]) C wk_Mo_77 gf_cl7 (show gf_is 81 65 0 7 26 by decide) (ct_Mo_find (gf_xl X) E 3 μ (by omega)) rfl ⟨rfl, rfl, rfl, rfl⟩ (Nat.le_of_ble_eq_true rfl) rfl dd_Mo_mark_39 (fun r39 m39 hR39 hp39 => ?_)
        refine gf_iret C hQ dd_Mo_mark_42 (by omega) ?_
        have hno : ¬ pf_is (μ 71 (3 + i)) w := by
          rcases hr31 with h | h
          · exfalso; have := h.2; omega
          · exact h.1
        exact ⟨fun h => absurd h (by omega), fun _ => ⟨fun _ => hp39, fun h => absurd h hno⟩⟩
    · skip
      refine gf_iconst C dd_Mo_mark_20 ?_
      refine gf_iret C hQ dd_Mo_mark_21 (by omega) ?_
      exact ⟨fun _ => ⟨rfl, rfl⟩, fun h => absurd h (by omega)⟩

theorem dd_Mo_figure_0 : decode cc_Mo_figure 0 = .ok (.iload_n 1, 1) := by decide +kernel
theorem dd_Mo_figure_1 : decode cc_Mo_figure 1 = .ok (.i2l, 1) := by decide +kernel
theorem dd_Mo_figure_2 : decode cc_Mo_figure 2 = .ok (.lconst 0, 1) := by decide +kernel
theorem dd_Mo_figure_3 : decode cc_Mo_figure 3 = .ok (.aload_n 0, 1) := by decide +kernel
theorem dd_Mo_figure_4 : decode cc_Mo_figure 4 = .ok (.getfield 30, 3) := by decide +kernel
theorem dd_Mo_figure_7 : decode cc_Mo_figure 7 = .ok (.iconst 1, 1) := by decide +kernel
theorem dd_Mo_figure_8 : decode cc_Mo_figure 8 = .ok (.iaload, 1) := by decide +kernel
theorem dd_Mo_figure_9 : decode cc_Mo_figure 9 = .ok (.iconst 1, 1) := by decide +kernel
theorem dd_Mo_figure_10 : decode cc_Mo_figure 10 = .ok (.isub, 1) := by decide +kernel
theorem dd_Mo_figure_11 : decode cc_Mo_figure 11 = .ok (.i2l, 1) := by decide +kernel
theorem dd_Mo_figure_12 : decode cc_Mo_figure 12 = .ok (.invokestatic 69, 3) := by decide +kernel
theorem dd_Mo_figure_15 : decode cc_Mo_figure 15 = .ok (.ifCond .eq 15, 3) := by decide +kernel
theorem dd_Mo_figure_18 : decode cc_Mo_figure 18 = .ok (.aload_n 0, 1) := by decide +kernel
theorem dd_Mo_figure_19 : decode cc_Mo_figure 19 = .ok (.getfield 30, 3) := by decide +kernel
theorem dd_Mo_figure_22 : decode cc_Mo_figure 22 = .ok (.bipush 24, 2) := by decide +kernel
theorem dd_Mo_figure_24 : decode cc_Mo_figure 24 = .ok (.iload_n 1, 1) := by decide +kernel
theorem dd_Mo_figure_25 : decode cc_Mo_figure 25 = .ok (.iadd, 1) := by decide +kernel
theorem dd_Mo_figure_26 : decode cc_Mo_figure 26 = .ok (.iaload, 1) := by decide +kernel
theorem dd_Mo_figure_27 : decode cc_Mo_figure 27 = .ok (.goto 4, 3) := by decide +kernel
theorem dd_Mo_figure_30 : decode cc_Mo_figure 30 = .ok (.iconst (-1), 1) := by decide +kernel
theorem dd_Mo_figure_31 : decode cc_Mo_figure 31 = .ok (.ireturn, 1) := by decide +kernel
set_option maxRecDepth 100000 in
set_option maxHeartbeats 4000000 in
theorem ct_Mo_figure (l : Launch) (E : gf_E) (k : Int) (μ : gf_M) (hk : gf_R k) (hn : 0 ≤ μ 71 1 ∧ μ 71 1 ≤ 8) : gf_Mi l E yy_Mo_figure cc_Mo_figure 2 .int (gf_rm 1 25) 81 gf_ref μ [.ref (gf_ad E 65), .int (gf_i k)] (fun q μ' => ((¬ (0 ≤ k ∧ k < μ 71 1) → q = -1) ∧ (0 ≤ k ∧ k < μ 71 1 → q = μ 71 (24 + k))) ∧ μ' = μ) := by
  refine gf_mi (by decide +kernel) (Nat.le_of_ble_eq_true rfl) (by decide) (fun X Q hlx C hQ => ?_)
  subst hlx
  replace C : gf_C X E cc_Mo_figure 2 "GuardFiguresModel" (gf_rm 1 25) := C
  show gf_G X E Q 2 gf_φ μ 0 [(0, .ref (gf_ad E 65)), (1, .int (gf_i k))] []
  refine gf_iload_n C dd_Mo_figure_0 1 rfl ?_
  refine gf_gi2l C dd_Mo_figure_1 (by omega) ?_
  refine gf_lconst 0 C dd_Mo_figure_2 (by decide +kernel) ?_
  refine gf_aload_n C dd_Mo_figure_3 0 rfl ?_
  refine gf_getA (r := 71) C gf_cl7 fl_Mo_30 dd_Mo_figure_4 rfl (show gf_is 81 65 0 7 26 by decide) (by decide) (by decide) ?_
  refine gf_iconst C dd_Mo_figure_7 ?_
  refine gf_iald C dd_Mo_figure_8 (show gf_is 81 71 1 0 392 by decide) (by omega) (fun hv8 => ?_)
  refine gf_iconst C dd_Mo_figure_9 ?_
  refine gf_isub C dd_Mo_figure_10 ?_
  refine gf_gi2l C dd_Mo_figure_11 (by omega) ?_
  refine gf_callSi (st := []) (As := [.long (gf_l k), .long (gf_l 0), .long (gf_l ((μ 71 1) - 1))]) C wk_Mo_69 (ct_Mo_in (gf_xl X) E k 0 ((μ 71 1) - 1) μ (by omega) (by omega) (by omega)) rfl ⟨rfl, rfl, rfl, rfl⟩ (Nat.le_of_ble_eq_true rfl) rfl dd_Mo_figure_12 (fun r12 m12 hR12 hp12 => ?_)
  have hr12 := hp12.1
  refine gf_pm hp12.2 ?_
  refine gf_if_eq 30 C dd_Mo_figure_15 (by decide) (by omega) (fun h15 => ?_) (fun h15 => ?_)
  · skip
    refine gf_iconst C dd_Mo_figure_30 ?_
    refine gf_iret C hQ dd_Mo_figure_31 (by omega) ?_
    first
    | exact ⟨⟨fun h => absurd h (by omega), fun _ => rfl⟩, rfl⟩
    | exact ⟨⟨fun _ => rfl, fun h => absurd h (by omega)⟩, rfl⟩
  · skip
    refine gf_aload_n C dd_Mo_figure_18 0 rfl ?_
    refine gf_getA (r := 71) C gf_cl7 fl_Mo_30 dd_Mo_figure_19 rfl (show gf_is 81 65 0 7 26 by decide) (by decide) (by decide) ?_
    refine gf_bipush C dd_Mo_figure_22 (by decide +kernel) ?_
    refine gf_iload_n C dd_Mo_figure_24 1 rfl ?_
    refine gf_iadd C dd_Mo_figure_25 ?_
    refine gf_iald C dd_Mo_figure_26 (show gf_is 81 71 1 0 392 by decide) (by omega) (fun hv26 => ?_)
    refine gf_goto 31 C dd_Mo_figure_27 (by decide) ?_
    refine gf_iret C hQ dd_Mo_figure_31 (by omega) ?_
    first
    | exact ⟨⟨fun h => absurd h (by omega), fun _ => rfl⟩, rfl⟩
    | exact ⟨⟨fun _ => rfl, fun h => absurd h (by omega)⟩, rfl⟩
