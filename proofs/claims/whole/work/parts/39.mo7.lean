/-! the reference: what a guard does not notice -/
def gm_uS (μ : gf_M) (i : Int) : List Int := (pf_sl (gm_x μ) (μ 71 1).toNat).filter (fun m => !decide (gm_rk μ i (pf_cps (gm_x μ) m) (μ 71 1) ≠ gm_rk μ i (gm_x μ) (μ 71 1)))
def gm_uX (μ : gf_M) (off i : Int) : List Int := (pf_ex (gm_x μ) off (μ 71 1 - off).toNat).filter (fun k => !decide (gm_rk μ i (pf_cpx (gm_x μ) k off) (μ 71 1) ≠ gm_rk μ i (gm_x μ) (μ 71 1)))
def gm_un (μ : gf_M) (L : List Int) : Prop := μ 65 16 = (L.length : Int) ∧ (L ≠ [] → μ 65 17 = L.head?.getD (-9))
theorem gm_un_f {μ m : gf_M} {L : List Int} (h : gm_un μ L) (e : m 65 16 = μ 65 16) (e2 : m 65 17 = μ 65 17) : gm_un m L := by
  unfold gm_un at h ⊢
  rw [e, e2]
  exact h
theorem gm_okg_f {μ m : gf_M} {i : Int} (hg : gm_okg μ i) (h : ∀ b : Int, m 71 b = μ 71 b) : gm_okg m i := by
  unfold gm_okg at hg ⊢
  rw [h, h, h]
  exact hg
theorem pf_filt {P : Int → Bool} {A B : List Int} {a : Int} : (A ++ (B ++ [a])).filter P = (A ++ B).filter P ++ (if P a = true then [a] else []) := by
  rw [← List.append_assoc, List.filter_append]
  congr 1
  by_cases h : P a = true
  · rw [if_pos h]; simp [h]
  · rw [if_neg h]; simp [h]
theorem pf_filt1 {P : Int → Bool} {A : List Int} {a : Int} : (A ++ [a]).filter P = A.filter P ++ (if P a = true then [a] else []) := by
  have := pf_filt (P := P) (A := A) (B := []) (a := a)
  rw [List.nil_append, List.append_nil] at this
  exact this
theorem gm_n4 {a b : Int} (h : ¬ (a = 65 ∧ (b = 15 ∨ b = 16 ∨ b = 17))) : ¬ (a = 65 ∧ (b = 16 ∨ b = 17)) ∧ ¬ (a = 65 ∧ b = 16) ∧ ¬ (a = 65 ∧ b = 15) := by omega
theorem gm_sc_f4 {μ' μ : gf_M} (h : ∀ a b : Int, ¬ (a = 65 ∧ (b = 15 ∨ b = 16 ∨ b = 17)) → a ≠ 73 → μ' a b = μ a b) : gm_sc μ' μ := fun a b hab => by
  unfold gm_scr at hab
  exact h a b (by omega) (by omega)
theorem gm_sc_w {μ' μ : gf_M} (h : gm_wr μ μ') : gm_sc μ' μ := fun a b hab => by
  unfold gm_scr at hab
  exact h.2.2 a b (by omega) (by omega)
theorem gm_sc_tl {μ' μ m : gf_M} {v : Int} (h : gm_sc m μ) (hm : μ' = gm_tl m v) : gm_sc μ' (gm_tl μ v) := by
  intro a b hab
  rw [hm]
  unfold gm_tl
  by_cases e : a = 65 ∧ b = 4
  · rw [e.1, e.2, gf_up_s, gf_up_s]
  · rw [gf_up_o e, gf_up_o e]; exact h a b hab
theorem gm_sc_71 {μ' μ : gf_M} (h : gm_sc μ' μ) (b : Int) : μ' 71 b = μ 71 b := h 71 b (by unfold gm_scr; omega)
theorem gm_uS_f {μ m : gf_M} (h : ∀ b : Int, m 71 b = μ 71 b) (i : Int) : gm_uS m i = gm_uS μ i := by
  unfold gm_uS
  rw [h 1, show gm_x m = gm_x μ from funext fun j => h _]
  simp only [gm_rk_f h]
theorem gm_uX_f {μ m : gf_M} (h : ∀ b : Int, m 71 b = μ 71 b) (off i : Int) : gm_uX m off i = gm_uX μ off i := by
  unfold gm_uX
  rw [h 1, show gm_x m = gm_x μ from funext fun j => h _]
  simp only [gm_rk_f h]
theorem gm_uS_len {μ : gf_M} (hn : 0 ≤ μ 71 1 ∧ μ 71 1 ≤ 8) (hx : ∀ j : Int, 0 ≤ j → j < μ 71 1 → 0 ≤ μ 71 (24 + j) ∧ μ 71 (24 + j) ≤ 9) (i : Int) : (gm_uS μ i).length ≤ 72 := by
  have h1 := pf_sl_len (f := gm_x μ) (μ 71 1).toNat (fun j h0 h1 => hx j h0 (by omega))
  have h2 := List.length_filter_le (fun m => !decide (gm_rk μ i (pf_cps (gm_x μ) m) (μ 71 1) ≠ gm_rk μ i (gm_x μ) (μ 71 1))) (pf_sl (gm_x μ) (μ 71 1).toNat)
  unfold gm_uS
  omega
theorem gm_uX_len {μ : gf_M} (hn : 0 ≤ μ 71 1 ∧ μ 71 1 ≤ 8) {off : Int} (ho : 0 ≤ off) (i : Int) : (gm_uX μ off i).length ≤ 8 := by
  have h1 := pf_ex_len (gm_x μ) off (μ 71 1 - off).toNat
  have h2 := List.length_filter_le (fun k => !decide (gm_rk μ i (pf_cpx (gm_x μ) k off) (μ 71 1) ≠ gm_rk μ i (gm_x μ) (μ 71 1))) (pf_ex (gm_x μ) off (μ 71 1 - off).toNat)
  unfold gm_uX
  omega
theorem dd_Mo_exchange_0 : decode cc_Mo_exchange 0 = .ok (.aload_n 0, 1) := by decide +kernel
theorem dd_Mo_exchange_1 : decode cc_Mo_exchange 1 = .ok (.getfield 36, 3) := by decide +kernel
theorem dd_Mo_exchange_4 : decode cc_Mo_exchange 4 = .ok (.iload_n 1, 1) := by decide +kernel
theorem dd_Mo_exchange_5 : decode cc_Mo_exchange 5 = .ok (.iaload, 1) := by decide +kernel
theorem dd_Mo_exchange_6 : decode cc_Mo_exchange 6 = .ok (.istore_n 3, 1) := by decide +kernel
theorem dd_Mo_exchange_7 : decode cc_Mo_exchange 7 = .ok (.aload_n 0, 1) := by decide +kernel
theorem dd_Mo_exchange_8 : decode cc_Mo_exchange 8 = .ok (.getfield 36, 3) := by decide +kernel
theorem dd_Mo_exchange_11 : decode cc_Mo_exchange 11 = .ok (.iload_n 1, 1) := by decide +kernel
theorem dd_Mo_exchange_12 : decode cc_Mo_exchange 12 = .ok (.aload_n 0, 1) := by decide +kernel
theorem dd_Mo_exchange_13 : decode cc_Mo_exchange 13 = .ok (.getfield 36, 3) := by decide +kernel
theorem dd_Mo_exchange_16 : decode cc_Mo_exchange 16 = .ok (.iload_n 2, 1) := by decide +kernel
theorem dd_Mo_exchange_17 : decode cc_Mo_exchange 17 = .ok (.iaload, 1) := by decide +kernel
theorem dd_Mo_exchange_18 : decode cc_Mo_exchange 18 = .ok (.iastore, 1) := by decide +kernel
theorem dd_Mo_exchange_19 : decode cc_Mo_exchange 19 = .ok (.aload_n 0, 1) := by decide +kernel
theorem dd_Mo_exchange_20 : decode cc_Mo_exchange 20 = .ok (.getfield 36, 3) := by decide +kernel
theorem dd_Mo_exchange_23 : decode cc_Mo_exchange 23 = .ok (.iload_n 2, 1) := by decide +kernel
theorem dd_Mo_exchange_24 : decode cc_Mo_exchange 24 = .ok (.iload_n 3, 1) := by decide +kernel
theorem dd_Mo_exchange_25 : decode cc_Mo_exchange 25 = .ok (.iastore, 1) := by decide +kernel
theorem dd_Mo_exchange_26 : decode cc_Mo_exchange 26 = .ok (.return_, 1) := by decide +kernel
set_option maxRecDepth 100000 in
set_option maxHeartbeats 4000000 in
theorem ct_Mo_exchange (l : Launch) (E : gf_E) (a b : Int) (μ : gf_M) (ha : 0 ≤ a ∧ a < 8) (hb : 0 ≤ b ∧ b < 8) : gf_Mv l E yy_Mo_exchange cc_Mo_exchange 4 (gf_rm 0 0) 81 gf_ref 0 0 81 gf_ref μ [.ref (gf_ad E 65), .int (gf_i a), .int (gf_i b)] (fun μ' => μ' = gf_up (gf_up μ 73 a (μ 73 b)) 73 b (μ 73 a)) := by
  refine gf_mv (by decide +kernel) (Nat.le_of_ble_eq_true rfl) (by decide) (fun X Q hlx C hname hQ => ?_)
  subst hlx
  replace C : gf_C X E cc_Mo_exchange 4 "GuardFiguresModel" (gf_rm 0 0) := C
  show gf_G X E Q 4 gf_φ μ 0 [(0, .ref (gf_ad E 65)), (1, .int (gf_i a)), (2, .int (gf_i b))] []
  refine gf_aload_n C dd_Mo_exchange_0 0 rfl ?_
  refine gf_getA (r := 73) C gf_cl7 fl_Mo_36 dd_Mo_exchange_1 rfl (show gf_is 81 65 0 7 26 by decide) (by decide) (by decide) ?_
  refine gf_iload_n C dd_Mo_exchange_4 1 rfl ?_
  refine gf_iald C dd_Mo_exchange_5 (show gf_is 81 73 1 0 8 by decide) (by omega) (fun hv5 => ?_)
  refine gf_nm (fun x6 hx6 => ?_)
  refine gf_istore_n (lv' := [(3, .int (gf_i x6)), (0, .ref (gf_ad E 65)), (1, .int (gf_i a)), (2, .int (gf_i b))]) C dd_Mo_exchange_6 (by decide) rfl ?_
  refine gf_aload_n C dd_Mo_exchange_7 1 rfl ?_
  refine gf_getA (r := 73) C gf_cl7 fl_Mo_36 dd_Mo_exchange_8 rfl (show gf_is 81 65 0 7 26 by decide) (by decide) (by decide) ?_
  refine gf_iload_n C dd_Mo_exchange_11 2 rfl ?_
  refine gf_aload_n C dd_Mo_exchange_12 1 rfl ?_
  refine gf_getA (r := 73) C gf_cl7 fl_Mo_36 dd_Mo_exchange_13 rfl (show gf_is 81 65 0 7 26 by decide) (by decide) (by decide) ?_
  refine gf_iload_n C dd_Mo_exchange_16 3 rfl ?_
  refine gf_iald C dd_Mo_exchange_17 (show gf_is 81 73 1 0 8 by decide) (by omega) (fun hv17 => ?_)
  refine gf_iast C dd_Mo_exchange_18 (show gf_is 81 73 1 0 8 by decide) (by omega) (by omega) ?_
  refine gf_nmM (fun m18 hm18 => ?_)
  refine gf_aload_n C dd_Mo_exchange_19 1 rfl ?_
  refine gf_getA (r := 73) C gf_cl7 fl_Mo_36 dd_Mo_exchange_20 rfl (show gf_is 81 65 0 7 26 by decide) (by decide) (by decide) ?_
  refine gf_iload_n C dd_Mo_exchange_23 3 rfl ?_
  refine gf_iload_n C dd_Mo_exchange_24 0 rfl ?_
  refine gf_iast C dd_Mo_exchange_25 (show gf_is 81 73 1 0 8 by decide) (by omega) (by omega) ?_
  refine gf_nmM (fun m25 hm25 => ?_)
  refine gf_vret C hQ dd_Mo_exchange_26 ?_
  rw [hm25, hm18, hx6]

theorem dd_Mo_unnoticed_0 : decode cc_Mo_unnoticed 0 = .ok (.aload_n 0, 1) := by decide +kernel
theorem dd_Mo_unnoticed_1 : decode cc_Mo_unnoticed 1 = .ok (.iload_n 1, 1) := by decide +kernel
theorem dd_Mo_unnoticed_2 : decode cc_Mo_unnoticed 2 = .ok (.aload_n 0, 1) := by decide +kernel
theorem dd_Mo_unnoticed_3 : decode cc_Mo_unnoticed 3 = .ok (.getfield 36, 3) := by decide +kernel
theorem dd_Mo_unnoticed_6 : decode cc_Mo_unnoticed 6 = .ok (.aload_n 0, 1) := by decide +kernel
theorem dd_Mo_unnoticed_7 : decode cc_Mo_unnoticed 7 = .ok (.getfield 146, 3) := by decide +kernel
theorem dd_Mo_unnoticed_10 : decode cc_Mo_unnoticed 10 = .ok (.invokevirtual 152, 3) := by decide +kernel
theorem dd_Mo_unnoticed_13 : decode cc_Mo_unnoticed 13 = .ok (.iload_n 2, 1) := by decide +kernel
theorem dd_Mo_unnoticed_14 : decode cc_Mo_unnoticed 14 = .ok (.if_icmp .ne 32, 3) := by decide +kernel
theorem dd_Mo_unnoticed_17 : decode cc_Mo_unnoticed 17 = .ok (.aload_n 0, 1) := by decide +kernel
theorem dd_Mo_unnoticed_18 : decode cc_Mo_unnoticed 18 = .ok (.aload_n 0, 1) := by decide +kernel
theorem dd_Mo_unnoticed_19 : decode cc_Mo_unnoticed 19 = .ok (.getfield 156, 3) := by decide +kernel
theorem dd_Mo_unnoticed_22 : decode cc_Mo_unnoticed 22 = .ok (.ifCond .ne 7, 3) := by decide +kernel
theorem dd_Mo_unnoticed_25 : decode cc_Mo_unnoticed 25 = .ok (.iload_n 3, 1) := by decide +kernel
theorem dd_Mo_unnoticed_26 : decode cc_Mo_unnoticed 26 = .ok (.goto 7, 3) := by decide +kernel
theorem dd_Mo_unnoticed_29 : decode cc_Mo_unnoticed 29 = .ok (.aload_n 0, 1) := by decide +kernel
theorem dd_Mo_unnoticed_30 : decode cc_Mo_unnoticed 30 = .ok (.getfield 159, 3) := by decide +kernel
theorem dd_Mo_unnoticed_33 : decode cc_Mo_unnoticed 33 = .ok (.putfield 159, 3) := by decide +kernel
theorem dd_Mo_unnoticed_36 : decode cc_Mo_unnoticed 36 = .ok (.aload_n 0, 1) := by decide +kernel
theorem dd_Mo_unnoticed_37 : decode cc_Mo_unnoticed 37 = .ok (.dup, 1) := by decide +kernel
theorem dd_Mo_unnoticed_38 : decode cc_Mo_unnoticed 38 = .ok (.getfield 156, 3) := by decide +kernel
theorem dd_Mo_unnoticed_41 : decode cc_Mo_unnoticed 41 = .ok (.iconst 1, 1) := by decide +kernel
theorem dd_Mo_unnoticed_42 : decode cc_Mo_unnoticed 42 = .ok (.iadd, 1) := by decide +kernel
theorem dd_Mo_unnoticed_43 : decode cc_Mo_unnoticed 43 = .ok (.putfield 156, 3) := by decide +kernel
theorem dd_Mo_unnoticed_46 : decode cc_Mo_unnoticed 46 = .ok (.return_, 1) := by decide +kernel
set_option maxRecDepth 100000 in
set_option maxHeartbeats 4000000 in
theorem ct_Mo_unnoticed (l : Launch) (E : gf_E) (i was what : Int) (L : List Int) (μ : gf_M) (hg : gm_okg μ i) (hn : 0 ≤ μ 65 15 ∧ μ 65 15 ≤ 8) (hF : ∀ j : Int, 0 ≤ j → j < μ 65 15 → 0 ≤ μ 73 j ∧ μ 73 j ≤ 9) (hw : gf_R was) (hwh : gf_R what) (hL : gm_un μ L) (hL2 : L.length ≤ 100) : gf_Mv l E yy_Mo_unnoticed cc_Mo_unnoticed 4 (gf_rm 4 100) 81 gf_ref 0 0 81 gf_ref μ [.ref (gf_ad E 65), .int (gf_i i), .int (gf_i was), .int (gf_i what)] (fun μ' => gm_un μ' (L ++ (if gm_rk μ i (μ 73) (μ 65 15) = was then [what] else [])) ∧ ∀ a b : Int, ¬ (a = 65 ∧ (b = 16 ∨ b = 17)) → μ' a b = μ a b) := by
  refine gf_mv (by decide +kernel) (Nat.le_of_ble_eq_true rfl) (by decide) (fun X Q hlx C hname hQ => ?_)
  subst hlx
  replace C : gf_C X E cc_Mo_unnoticed 4 "GuardFiguresModel" (gf_rm 4 100) := C
  show gf_G X E Q 4 gf_φ μ 0 [(0, .ref (gf_ad E 65)), (1, .int (gf_i i)), (2, .int (gf_i was)), (3, .int (gf_i what))] []
  have hL1 := hL.1
  have hg0 := hg.1
  refine gf_aload_n C dd_Mo_unnoticed_0 0 rfl ?_
  refine gf_iload_n C dd_Mo_unnoticed_1 1 rfl ?_
  refine gf_aload_n C dd_Mo_unnoticed_2 0 rfl ?_
  refine gf_getA (r := 73) C gf_cl7 fl_Mo_36 dd_Mo_unnoticed_3 rfl (show gf_is 81 65 0 7 26 by decide) (by decide) (by decide) ?_
  refine gf_aload_n C dd_Mo_unnoticed_6 0 rfl ?_
  refine gf_getI (z := 15) C gf_cl7 fl_Mo_146 dd_Mo_unnoticed_7 rfl rfl (show gf_is 81 65 0 7 26 by decide) (fun hv7 => ?_)
  refine gf_callVi (st := []) (As := [.int (gf_i i), .ref (gf_ad E 73), .int (gf_i (μ 65 15))]) C wk_Mo_152 gf_cl7 (show gf_is 81 65 0 7 26 by decide) (ct_Mo_byGuard (gf_xl X) E i 73 (μ 65 15) 8 μ hg (show gf_is 81 73 1 0 8 by decide) (by omega) hF) rfl ⟨rfl, rfl, rfl, rfl⟩ (Nat.le_of_ble_eq_true rfl) rfl dd_Mo_unnoticed_10 (fun r10 m10 hR10 hp10 => ?_)
  have hr10 := hp10.1
  refine gf_pm hp10.2 ?_
  refine gf_iload_n C dd_Mo_unnoticed_13 2 rfl ?_
  refine gf_icmp_ne 46 C dd_Mo_unnoticed_14 (by decide) (by omega) (by omega) (fun h14 => ?_) (fun h14 => ?_)
  · skip
    refine gf_vret C hQ dd_Mo_unnoticed_46 ?_
    first
    | exact ⟨by rw [if_neg (by rw [← hr10.1]; exact h14), List.append_nil]; exact hL, fun a b _ => rfl⟩
    | (refine ⟨?_, fun a b h => by rw [hm43, gf_up_o (by omega), hm33, gf_up_o (by omega)]⟩
       rw [if_pos (by rw [← hr10.1]; omega)]
       refine ⟨?_, fun _ => ?_⟩
       · rw [hm43, gf_up_s, e16, hL1, List.length_append]
         show _ = ((L.length + 1 : Nat) : Int)
         omega
       · rw [hm43, gf_up_j (by decide), hm33, gf_up_s]
         cases L with
         | nil =>
           have : (([] : List Int).length : Int) = 0 := rfl
           first | rfl | (exfalso; omega)
         | cons z l =>
           have : ((z :: l).length : Int) = l.length + 1 := by simp
           first | exact hL.2 (by simp) | (exfalso; omega))
  · skip
    refine gf_aload_n C dd_Mo_unnoticed_17 0 rfl ?_
    refine gf_aload_n C dd_Mo_unnoticed_18 0 rfl ?_
    refine gf_getI (z := 16) C gf_cl7 fl_Mo_156 dd_Mo_unnoticed_19 rfl rfl (show gf_is 81 65 0 7 26 by decide) (fun hv19 => ?_)
    refine gf_if_ne 29 C dd_Mo_unnoticed_22 (by decide) (by omega) (fun h22 => ?_) (fun h22 => ?_)
    · skip
      refine gf_aload_n C dd_Mo_unnoticed_29 0 rfl ?_
      refine gf_getI (z := 17) C gf_cl7 fl_Mo_159 dd_Mo_unnoticed_30 rfl rfl (show gf_is 81 65 0 7 26 by decide) (fun hv30 => ?_)
      refine gf_putI (z := 17) C gf_cl7 fl_Mo_159 dd_Mo_unnoticed_33 rfl rfl rfl (by decide +kernel) (show gf_is 81 65 0 7 26 by decide) (by omega) ?_
      refine gf_nmM (fun m33 hm33 => ?_)
      have e16 : m33 65 16 = μ 65 16 := by rw [hm33, gf_up_j (by decide)]
      refine gf_aload_n C dd_Mo_unnoticed_36 0 rfl ?_
      refine gf_dup C dd_Mo_unnoticed_37 rfl ?_
      refine gf_getI (z := 16) C gf_cl7 fl_Mo_156 dd_Mo_unnoticed_38 rfl rfl (show gf_is 81 65 0 7 26 by decide) (fun hv38 => ?_)
      refine gf_iconst C dd_Mo_unnoticed_41 ?_
      refine gf_iadd C dd_Mo_unnoticed_42 ?_
      refine gf_putI (z := 16) C gf_cl7 fl_Mo_156 dd_Mo_unnoticed_43 rfl rfl rfl (by decide +kernel) (show gf_is 81 65 0 7 26 by decide) (by omega) ?_
      refine gf_nmM (fun m43 hm43 => ?_)
      refine gf_vret C hQ dd_Mo_unnoticed_46 ?_
      first
      | exact ⟨by rw [if_neg (by rw [← hr10.1]; exact h14), List.append_nil]; exact hL, fun a b _ => rfl⟩
      | (refine ⟨?_, fun a b h => by rw [hm43, gf_up_o (by omega), hm33, gf_up_o (by omega)]⟩
         rw [if_pos (by rw [← hr10.1]; omega)]
         refine ⟨?_, fun _ => ?_⟩
         · rw [hm43, gf_up_s, e16, hL1, List.length_append]
           show _ = ((L.length + 1 : Nat) : Int)
           omega
         · rw [hm43, gf_up_j (by decide), hm33, gf_up_s]
           cases L with
           | nil =>
             have : (([] : List Int).length : Int) = 0 := rfl
             first | rfl | (exfalso; omega)
           | cons z l =>
             have : ((z :: l).length : Int) = l.length + 1 := by simp
             first | exact hL.2 (by simp) | (exfalso; omega))
    · skip
      refine gf_iload_n C dd_Mo_unnoticed_25 3 rfl ?_
      refine gf_goto 33 C dd_Mo_unnoticed_26 (by decide) ?_
      refine gf_putI (z := 17) C gf_cl7 fl_Mo_159 dd_Mo_unnoticed_33 rfl rfl rfl (by decide +kernel) (show gf_is 81 65 0 7 26 by decide) (by omega) ?_
      refine gf_nmM (fun m33 hm33 => ?_)
      have e16 : m33 65 16 = μ 65 16 := by rw [hm33, gf_up_j (by decide)]
      refine gf_aload_n C dd_Mo_unnoticed_36 0 rfl ?_
      refine gf_dup C dd_Mo_unnoticed_37 rfl ?_
      refine gf_getI (z := 16) C gf_cl7 fl_Mo_156 dd_Mo_unnoticed_38 rfl rfl (show gf_is 81 65 0 7 26 by decide) (fun hv38 => ?_)
      refine gf_iconst C dd_Mo_unnoticed_41 ?_
      refine gf_iadd C dd_Mo_unnoticed_42 ?_
      refine gf_putI (z := 16) C gf_cl7 fl_Mo_156 dd_Mo_unnoticed_43 rfl rfl rfl (by decide +kernel) (show gf_is 81 65 0 7 26 by decide) (by omega) ?_
      refine gf_nmM (fun m43 hm43 => ?_)
      refine gf_vret C hQ dd_Mo_unnoticed_46 ?_
      first
      | exact ⟨by rw [if_neg (by rw [← hr10.1]; exact h14), List.append_nil]; exact hL, fun a b _ => rfl⟩
      | (refine ⟨?_, fun a b h => by rw [hm43, gf_up_o (by omega), hm33, gf_up_o (by omega)]⟩
         rw [if_pos (by rw [← hr10.1]; omega)]
         refine ⟨?_, fun _ => ?_⟩
         · rw [hm43, gf_up_s, e16, hL1, List.length_append]
           show _ = ((L.length + 1 : Nat) : Int)
           omega
         · rw [hm43, gf_up_j (by decide), hm33, gf_up_s]
           cases L with
           | nil =>
             have : (([] : List Int).length : Int) = 0 := rfl
             first | rfl | (exfalso; omega)
           | cons z l =>
             have : ((z :: l).length : Int) = l.length + 1 := by simp
             first | exact hL.2 (by simp) | (exfalso; omega))

theorem dd_Mo_goSlips_0 : decode cc_Mo_goSlips 0 = .ok (.aload_n 0, 1) := by decide +kernel
theorem dd_Mo_goSlips_1 : decode cc_Mo_goSlips 1 = .ok (.iload_n 1, 1) := by decide +kernel
theorem dd_Mo_goSlips_2 : decode cc_Mo_goSlips 2 = .ok (.invokevirtual 162, 3) := by decide +kernel
theorem dd_Mo_goSlips_5 : decode cc_Mo_goSlips 5 = .ok (.istore_n 2, 1) := by decide +kernel
theorem dd_Mo_goSlips_6 : decode cc_Mo_goSlips 6 = .ok (.aload_n 0, 1) := by decide +kernel
theorem dd_Mo_goSlips_7 : decode cc_Mo_goSlips 7 = .ok (.iconst 0, 1) := by decide +kernel
theorem dd_Mo_goSlips_8 : decode cc_Mo_goSlips 8 = .ok (.putfield 156, 3) := by decide +kernel
theorem dd_Mo_goSlips_11 : decode cc_Mo_goSlips 11 = .ok (.iconst 0, 1) := by decide +kernel
theorem dd_Mo_goSlips_12 : decode cc_Mo_goSlips 12 = .ok (.istore_n 3, 1) := by decide +kernel
theorem dd_Mo_goSlips_13 : decode cc_Mo_goSlips 13 = .ok (.iload_n 3, 1) := by decide +kernel
theorem dd_Mo_goSlips_14 : decode cc_Mo_goSlips 14 = .ok (.aload_n 0, 1) := by decide +kernel
theorem dd_Mo_goSlips_15 : decode cc_Mo_goSlips 15 = .ok (.getfield 146, 3) := by decide +kernel
theorem dd_Mo_goSlips_18 : decode cc_Mo_goSlips 18 = .ok (.if_icmp .ge 69, 3) := by decide +kernel
theorem dd_Mo_goSlips_21 : decode cc_Mo_goSlips 21 = .ok (.aload_n 0, 1) := by decide +kernel
theorem dd_Mo_goSlips_22 : decode cc_Mo_goSlips 22 = .ok (.getfield 36, 3) := by decide +kernel
theorem dd_Mo_goSlips_25 : decode cc_Mo_goSlips 25 = .ok (.iload_n 3, 1) := by decide +kernel
theorem dd_Mo_goSlips_26 : decode cc_Mo_goSlips 26 = .ok (.iaload, 1) := by decide +kernel
theorem dd_Mo_goSlips_27 : decode cc_Mo_goSlips 27 = .ok (.istore 4, 2) := by decide +kernel
theorem dd_Mo_goSlips_29 : decode cc_Mo_goSlips 29 = .ok (.iconst 0, 1) := by decide +kernel
theorem dd_Mo_goSlips_30 : decode cc_Mo_goSlips 30 = .ok (.istore 5, 2) := by decide +kernel
theorem dd_Mo_goSlips_32 : decode cc_Mo_goSlips 32 = .ok (.iload 5, 2) := by decide +kernel
theorem dd_Mo_goSlips_34 : decode cc_Mo_goSlips 34 = .ok (.bipush 10, 2) := by decide +kernel
theorem dd_Mo_goSlips_36 : decode cc_Mo_goSlips 36 = .ok (.if_icmp .ge 37, 3) := by decide +kernel
theorem dd_Mo_goSlips_39 : decode cc_Mo_goSlips 39 = .ok (.aload_n 0, 1) := by decide +kernel
theorem dd_Mo_goSlips_40 : decode cc_Mo_goSlips 40 = .ok (.getfield 36, 3) := by decide +kernel
theorem dd_Mo_goSlips_43 : decode cc_Mo_goSlips 43 = .ok (.iload_n 3, 1) := by decide +kernel
theorem dd_Mo_goSlips_44 : decode cc_Mo_goSlips 44 = .ok (.iload 5, 2) := by decide +kernel
theorem dd_Mo_goSlips_46 : decode cc_Mo_goSlips 46 = .ok (.iastore, 1) := by decide +kernel
theorem dd_Mo_goSlips_47 : decode cc_Mo_goSlips 47 = .ok (.iload 5, 2) := by decide +kernel
theorem dd_Mo_goSlips_49 : decode cc_Mo_goSlips 49 = .ok (.iload 4, 2) := by decide +kernel
theorem dd_Mo_goSlips_51 : decode cc_Mo_goSlips 51 = .ok (.if_icmp .eq 16, 3) := by decide +kernel
theorem dd_Mo_goSlips_54 : decode cc_Mo_goSlips 54 = .ok (.aload_n 0, 1) := by decide +kernel
theorem dd_Mo_goSlips_55 : decode cc_Mo_goSlips 55 = .ok (.iload_n 1, 1) := by decide +kernel
theorem dd_Mo_goSlips_56 : decode cc_Mo_goSlips 56 = .ok (.iload_n 2, 1) := by decide +kernel
theorem dd_Mo_goSlips_57 : decode cc_Mo_goSlips 57 = .ok (.bipush 10, 2) := by decide +kernel
theorem dd_Mo_goSlips_59 : decode cc_Mo_goSlips 59 = .ok (.iload_n 3, 1) := by decide +kernel
theorem dd_Mo_goSlips_60 : decode cc_Mo_goSlips 60 = .ok (.imul, 1) := by decide +kernel
theorem dd_Mo_goSlips_61 : decode cc_Mo_goSlips 61 = .ok (.iload 5, 2) := by decide +kernel
theorem dd_Mo_goSlips_63 : decode cc_Mo_goSlips 63 = .ok (.iadd, 1) := by decide +kernel
theorem dd_Mo_goSlips_64 : decode cc_Mo_goSlips 64 = .ok (.invokevirtual 165, 3) := by decide +kernel
theorem dd_Mo_goSlips_67 : decode cc_Mo_goSlips 67 = .ok (.iinc 5 1, 3) := by decide +kernel
theorem dd_Mo_goSlips_70 : decode cc_Mo_goSlips 70 = .ok (.goto (-38), 3) := by decide +kernel
theorem dd_Mo_goSlips_73 : decode cc_Mo_goSlips 73 = .ok (.aload_n 0, 1) := by decide +kernel
theorem dd_Mo_goSlips_74 : decode cc_Mo_goSlips 74 = .ok (.getfield 36, 3) := by decide +kernel
theorem dd_Mo_goSlips_77 : decode cc_Mo_goSlips 77 = .ok (.iload_n 3, 1) := by decide +kernel
theorem dd_Mo_goSlips_78 : decode cc_Mo_goSlips 78 = .ok (.iload 4, 2) := by decide +kernel
theorem dd_Mo_goSlips_80 : decode cc_Mo_goSlips 80 = .ok (.iastore, 1) := by decide +kernel
theorem dd_Mo_goSlips_81 : decode cc_Mo_goSlips 81 = .ok (.iinc 3 1, 3) := by decide +kernel
theorem dd_Mo_goSlips_84 : decode cc_Mo_goSlips 84 = .ok (.goto (-71), 3) := by decide +kernel
theorem dd_Mo_goSlips_87 : decode cc_Mo_goSlips 87 = .ok (.return_, 1) := by decide +kernel
set_option maxRecDepth 100000 in
set_option maxHeartbeats 4000000 in
theorem ct_Mo_goSlips (l : Launch) (E : gf_E) (i : Int) (μ : gf_M) (hg : gm_okg μ i) (hn : 0 ≤ μ 71 1 ∧ μ 71 1 ≤ 8) (hx : ∀ j : Int, 0 ≤ j → j < μ 71 1 → 0 ≤ μ 71 (24 + j) ∧ μ 71 (24 + j) ≤ 9)  : gf_Mv l E yy_Mo_goSlips cc_Mo_goSlips 6 (gf_rm 5 123) 81 gf_ref 0 0 81 gf_ref μ [.ref (gf_ad E 65), .int (gf_i i)] (fun μ' => gm_un μ' (gm_uS μ i) ∧ ∀ a b : Int, ¬ (a = 65 ∧ (b = 15 ∨ b = 16 ∨ b = 17)) → a ≠ 73 → μ' a b = μ a b) := by
  refine gf_mv (by decide +kernel) (Nat.le_of_ble_eq_true rfl) (by decide) (fun X Q hlx C hname hQ => ?_)
  subst hlx
  replace C : gf_C X E cc_Mo_goSlips 6 "GuardFiguresModel" (gf_rm 5 123) := C
  show gf_G X E Q 6 gf_φ μ 0 [(0, .ref (gf_ad E 65)), (1, .int (gf_i i))] []
  have hg0 := hg.1
  obtain ⟨P, hP⟩ : ∃ P : Int → Bool, P = (fun m => !decide (gm_rk μ i (pf_cps (gm_x μ) m) (μ 71 1) ≠ gm_rk μ i (gm_x μ) (μ 71 1))) := ⟨_, rfl⟩
  refine gf_aload_n C dd_Mo_goSlips_0 0 rfl ?_
  refine gf_iload_n C dd_Mo_goSlips_1 1 rfl ?_
  refine gf_callVi (st := []) (As := [.int (gf_i i)]) C wk_Mo_162 gf_cl7 (show gf_is 81 65 0 7 26 by decide) (ct_Mo_now (gf_xl X) E i μ (hg) (hn) (hx)) rfl ⟨rfl, rfl, rfl, rfl⟩ (Nat.le_of_ble_eq_true rfl) rfl dd_Mo_goSlips_2 (fun r2 m2 hR2 hp2 => ?_)
  refine gf_istore_n (lv' := [(2, .int (gf_i r2)), (0, .ref (gf_ad E 65)), (1, .int (gf_i i))]) C dd_Mo_goSlips_5 (by decide) rfl ?_
  obtain ⟨⟨hr2a, hr2b⟩, hw15, hw73, hwf⟩ := hp2
  refine gf_aload_n C dd_Mo_goSlips_6 1 rfl ?_
  refine gf_iconst C dd_Mo_goSlips_7 ?_
  refine gf_putI (z := 16) C gf_cl7 fl_Mo_156 dd_Mo_goSlips_8 rfl rfl rfl (by decide +kernel) (show gf_is 81 65 0 7 26 by decide) (by omega) ?_
  refine gf_nmM (fun m8 hm8 => ?_)
  refine gf_iconst C dd_Mo_goSlips_11 ?_
  refine gf_istore_n (lv' := [(3, .int (gf_i 0)), (2, .int (gf_i r2)), (0, .ref (gf_ad E 65)), (1, .int (gf_i i))]) C dd_Mo_goSlips_12 (by decide) rfl ?_
  have L13_1 : ∀ (N : Nat) (k : Int) (m : gf_M) , (0 ≤ k ∧ k ≤ μ 71 1 ∧ m 65 15 = μ 71 1 ∧ (∀ j : Int, 0 ≤ j → j < 8 → m 73 j = μ 71 (24 + j)) ∧ gm_un m ((pf_sl (gm_x μ) k.toNat).filter P) ∧ ∀ a b : Int, ¬ (a = 65 ∧ (b = 15 ∨ b = 16 ∨ b = 17)) → a ≠ 73 → m a b = μ a b) → (8 - k).toNat < N → gf_G X E Q 6 gf_φ m 13 [(3, .int (gf_i k)), (0, .ref (gf_ad E 65)), (1, .int (gf_i i)), (2, .int (gf_i r2))] [] := by
    intro N
    induction N with
    | zero => intro k m hinv hN; exact absurd hN (Nat.not_lt_zero _)
    | succ N ih13_1 =>
      intro k m hinv hN
      have hinv0 := hinv
      obtain ⟨hk0, hk1, hk15, hk73, hku, hkf⟩ := hinv
      refine gf_iload_n C dd_Mo_goSlips_13 0 rfl ?_
      refine gf_aload_n C dd_Mo_goSlips_14 1 rfl ?_
      refine gf_getI (z := 15) C gf_cl7 fl_Mo_146 dd_Mo_goSlips_15 rfl rfl (show gf_is 81 65 0 7 26 by decide) (fun hv15 => ?_)
      refine gf_icmp_ge 87 C dd_Mo_goSlips_18 (by decide) (by omega) (by omega) (fun h18 => ?_) (fun h18 => ?_)
      · skip
        refine gf_vret C hQ dd_Mo_goSlips_87 ?_
        have ek : k = μ 71 1 := by omega
        rw [ek, hP] at hku
        exact ⟨hku, hkf⟩
      · skip
        refine gf_aload_n C dd_Mo_goSlips_21 1 rfl ?_
        refine gf_getA (r := 73) C gf_cl7 fl_Mo_36 dd_Mo_goSlips_22 rfl (show gf_is 81 65 0 7 26 by decide) (by decide) (by decide) ?_
        refine gf_iload_n C dd_Mo_goSlips_25 0 rfl ?_
        refine gf_iald C dd_Mo_goSlips_26 (show gf_is 81 73 1 0 8 by decide) (by omega) (fun hv26 => ?_)
        refine gf_nm (fun x27 hx27 => ?_)
        refine gf_istore (lv' := [(4, .int (gf_i x27)), (3, .int (gf_i k)), (0, .ref (gf_ad E 65)), (1, .int (gf_i i)), (2, .int (gf_i r2))]) C dd_Mo_goSlips_27 (by decide) rfl ?_
        refine gf_iconst C dd_Mo_goSlips_29 ?_
        refine gf_istore (lv' := [(5, .int (gf_i 0)), (4, .int (gf_i x27)), (3, .int (gf_i k)), (0, .ref (gf_ad E 65)), (1, .int (gf_i i)), (2, .int (gf_i r2))]) C dd_Mo_goSlips_30 (by decide) rfl ?_
        have L32_2 : ∀ (N : Nat) (v : Int) (m3 : gf_M) , (0 ≤ v ∧ v ≤ 10 ∧ m3 65 15 = μ 71 1 ∧ (∀ j : Int, 0 ≤ j → j < 8 → j ≠ k → m3 73 j = μ 71 (24 + j)) ∧ gm_un m3 ((pf_sl (gm_x μ) k.toNat ++ pf_slr x27 k v.toNat).filter P) ∧ ∀ a b : Int, ¬ (a = 65 ∧ (b = 15 ∨ b = 16 ∨ b = 17)) → a ≠ 73 → m3 a b = μ a b) → (10 - v).toNat < N → gf_G X E Q 6 gf_φ m3 32 [(5, .int (gf_i v)), (0, .ref (gf_ad E 65)), (1, .int (gf_i i)), (2, .int (gf_i r2)), (3, .int (gf_i k)), (4, .int (gf_i x27))] [] := by
          intro N
          induction N with
          | zero => intro v m3 hinv hN; exact absurd hN (Nat.not_lt_zero _)
          | succ N ih32_2 =>
            intro v m3 hinv hN
            have hinv0 := hinv
            obtain ⟨hv0, hv1, hv15, hv3, hvu, hvf⟩ := hinv
            skip
            refine gf_iload C dd_Mo_goSlips_32 0 rfl ?_
            refine gf_bipush C dd_Mo_goSlips_34 (by decide +kernel) ?_
            refine gf_icmp_ge 73 C dd_Mo_goSlips_36 (by decide) (by omega) (by omega) (fun h36 => ?_) (fun h36 => ?_)
            · skip
              refine gf_aload_n C dd_Mo_goSlips_73 1 rfl ?_
              refine gf_getA (r := 73) C gf_cl7 fl_Mo_36 dd_Mo_goSlips_74 rfl (show gf_is 81 65 0 7 26 by decide) (by decide) (by decide) ?_
              refine gf_iload_n C dd_Mo_goSlips_77 4 rfl ?_
              refine gf_iload C dd_Mo_goSlips_78 5 rfl ?_
              refine gf_iast C dd_Mo_goSlips_80 (show gf_is 81 73 1 0 8 by decide) (by omega) (by omega) ?_
              refine gf_nmM (fun m80 hm80 => ?_)
              obtain ⟨x81, hx81⟩ : ∃ y : Int, y = k + 1 := ⟨_, rfl⟩
              refine gf_iinc (q := 4) (v := x81) (lv' := [(3, .int (gf_i x81)), (5, .int (gf_i v)), (0, .ref (gf_ad E 65)), (1, .int (gf_i i)), (2, .int (gf_i r2)), (4, .int (gf_i x27))]) C dd_Mo_goSlips_81 rfl hx81 (by decide) rfl ?_
              refine gf_goto 13 C dd_Mo_goSlips_84 (by decide) ?_
              refine gf_lsub [0, 2, 3, 4] rfl ?_
              exact ih13_1 x81 m80 (by
                      have o80 : ∀ a b : Int, a ≠ 73 → m80 a b = m3 a b := fun a b h => by rw [hm80]; exact gf_up_k h
                      refine ⟨by omega, by omega, by rw [o80 65 15 (by decide)]; exact hv15, fun j h0 h1 => ?_, gm_un_f ?_ (o80 65 16 (by decide)) (o80 65 17 (by decide)), fun a b h1 h2 => by rw [o80 a b h2]; exact hvf a b h1 h2⟩
                      · rw [hm80]
                        by_cases e : j = k
                        · rw [e, gf_up_s, hx27]; exact hk73 k (by omega) (by omega)
                        · rw [gf_up_j e]; exact hv3 j h0 h1 e
                      · rw [show x81.toNat = k.toNat + 1 by omega]
                        show gm_un m3 ((pf_sl (gm_x μ) k.toNat ++ pf_slr (gm_x μ ((k.toNat : Nat) : Int)) ((k.toNat : Nat) : Int) 10).filter P)
                        rw [show ((k.toNat : Nat) : Int) = k by omega, show gm_x μ k = x27 by rw [hx27, hk73 k (by omega) (by omega)]; rfl, ← show v.toNat = 10 by omega]
                        exact hvu) (by omega)
            · skip
              refine gf_aload_n C dd_Mo_goSlips_39 1 rfl ?_
              refine gf_getA (r := 73) C gf_cl7 fl_Mo_36 dd_Mo_goSlips_40 rfl (show gf_is 81 65 0 7 26 by decide) (by decide) (by decide) ?_
              refine gf_iload_n C dd_Mo_goSlips_43 4 rfl ?_
              refine gf_iload C dd_Mo_goSlips_44 0 rfl ?_
              refine gf_iast C dd_Mo_goSlips_46 (show gf_is 81 73 1 0 8 by decide) (by omega) (by omega) ?_
              refine gf_nmM (fun m46 hm46 => ?_)
              have f46 : m46 73 k = v := by rw [hm46]; exact gf_up_s
              have g46 : ∀ j : Int, 0 ≤ j → j < 8 → j ≠ k → m46 73 j = μ 71 (24 + j) := fun j h0 h1 h2 => by rw [hm46, gf_up_j h2]; exact hv3 j h0 h1 h2
              have o46 : ∀ a b : Int, a ≠ 73 → m46 a b = m3 a b := fun a b h => by rw [hm46]; exact gf_up_k h
              have e46 : m46 65 15 = μ 71 1 := by rw [o46 65 15 (by decide)]; exact hv15
              have u46 : gm_un m46 ((pf_sl (gm_x μ) k.toNat ++ pf_slr x27 k v.toNat).filter P) := gm_un_f hvu (o46 65 16 (by decide)) (o46 65 17 (by decide))
              have q46 : ∀ b : Int, m46 71 b = μ 71 b := fun b => by rw [o46 71 b (by decide)]; exact hvf 71 b (by omega) (by omega)
              refine gf_iload C dd_Mo_goSlips_47 0 rfl ?_
              refine gf_iload C dd_Mo_goSlips_49 5 rfl ?_
              refine gf_icmp_eq 67 C dd_Mo_goSlips_51 (by decide) (by omega) (by omega) (fun h51 => ?_) (fun h51 => ?_)
              · skip
                obtain ⟨x67, hx67⟩ : ∃ y : Int, y = v + 1 := ⟨_, rfl⟩
                refine gf_iinc (q := 0) (v := x67) (lv' := [(5, .int (gf_i x67)), (0, .ref (gf_ad E 65)), (1, .int (gf_i i)), (2, .int (gf_i r2)), (3, .int (gf_i k)), (4, .int (gf_i x27))]) C dd_Mo_goSlips_67 rfl hx67 (by decide) rfl ?_
                refine gf_goto 32 C dd_Mo_goSlips_70 (by decide) ?_
                refine gf_lsub [0, 1, 2, 3, 4, 5] rfl ?_
                exact ih32_2 x67 m46 (by
                        have e1 : x67.toNat = v.toNat + 1 := by omega
                        have e2 : pf_slr x27 k (v.toNat + 1) = pf_slr x27 k v.toNat ++ (if v = x27 then [] else [k * 10 + v]) := by
                          show _ ++ (if ((v.toNat : Nat) : Int) = x27 then [] else [k * 10 + ((v.toNat : Nat) : Int)]) = _
                          rw [show ((v.toNat : Nat) : Int) = v by omega]
                        first
                        | (refine ⟨by omega, by omega, e46, g46, ?_, fun a b h1 h2 => by rw [o46 a b h2]; exact hvf a b h1 h2⟩
                           rw [e1, e2, if_pos h51, List.append_nil]
                           exact u46)
                        | (obtain ⟨hua, hub⟩ := hp64
                           refine ⟨by omega, by omega, by rw [hub 65 15 (by decide)]; exact e46, fun j h0 h1 h2 => by rw [hub 73 j (by omega)]; exact g46 j h0 h1 h2, ?_, fun a b h1 h2 => by rw [hub a b (gm_n4 h1).1, o46 a b h2]; exact hvf a b h1 h2⟩
                           rw [e1, e2, if_neg h51, pf_filt]
                           rw [hrk, hr2a, show 10 * k + v = k * 10 + v by omega] at hua
                           rw [hP] at hua ⊢
                           by_cases e : gm_rk μ i (pf_cps (gm_x μ) (k * 10 + v)) (μ 71 1) = gm_rk μ i (gm_x μ) (μ 71 1)
                           · rw [if_pos e] at hua
                             rw [if_pos (by simpa using e)]
                             exact hua
                           · rw [if_neg e] at hua
                             rw [if_neg (by simpa using e)]
                             exact hua)) (by omega)
              · skip
                have hl1 := pf_sl_len (f := gm_x μ) k.toNat (fun j h0 h1 => hx j h0 (by omega))
                have hl2 := (pf_slr_len x27 k v.toNat).1
                have hl3 := List.length_filter_le P (pf_sl (gm_x μ) k.toNat ++ pf_slr x27 k v.toNat)
                rw [List.length_append] at hl3
                have hF46 : ∀ j : Int, 0 ≤ j → j < m46 65 15 → 0 ≤ m46 73 j ∧ m46 73 j ≤ 9 := fun j h0 h1 => by
                  by_cases e : j = k
                  · rw [e, f46]; omega
                  · rw [g46 j h0 (by omega) e]; exact hx j h0 (by omega)
                have hrk : gm_rk m46 i (m46 73) (m46 65 15) = gm_rk μ i (pf_cps (gm_x μ) (k * 10 + v)) (μ 71 1) := by
                  rw [e46, gm_rk_f q46]
                  refine gm_rk_congr (fun j h0 h1 => ?_)
                  unfold pf_cps
                  rw [show (k * 10 + v) / 10 = k by omega, show (k * 10 + v) % 10 = v by omega]
                  by_cases e : j = k
                  · rw [if_pos e, e, f46]
                  · rw [if_neg e, g46 j h0 (by omega) e]; rfl
                refine gf_aload_n C dd_Mo_goSlips_54 1 rfl ?_
                refine gf_iload_n C dd_Mo_goSlips_55 2 rfl ?_
                refine gf_iload_n C dd_Mo_goSlips_56 3 rfl ?_
                refine gf_bipush C dd_Mo_goSlips_57 (by decide +kernel) ?_
                refine gf_iload_n C dd_Mo_goSlips_59 4 rfl ?_
                refine gf_imul C dd_Mo_goSlips_60 ?_
                refine gf_iload C dd_Mo_goSlips_61 0 rfl ?_
                refine gf_iadd C dd_Mo_goSlips_63 ?_
                refine gf_callVv (st := []) (As := [.int (gf_i i), .int (gf_i r2), .int (gf_i ((10 * k) + v))]) C wk_Mo_165 gf_cl7 (show gf_is 81 65 0 7 26 by decide) (ct_Mo_unnoticed (gf_xl X) E i r2 (10 * k + v) _ m46 (gm_okg_f hg q46) (by omega) hF46 (by omega) (by omega) u46 (by omega)) rfl ⟨rfl, rfl, rfl, rfl⟩ (Nat.le_of_ble_eq_true rfl) rfl dd_Mo_goSlips_64 (fun m64 hp64 => ?_)
                obtain ⟨x67, hx67⟩ : ∃ y : Int, y = v + 1 := ⟨_, rfl⟩
                refine gf_iinc (q := 0) (v := x67) (lv' := [(5, .int (gf_i x67)), (0, .ref (gf_ad E 65)), (1, .int (gf_i i)), (2, .int (gf_i r2)), (3, .int (gf_i k)), (4, .int (gf_i x27))]) C dd_Mo_goSlips_67 rfl hx67 (by decide) rfl ?_
                refine gf_goto 32 C dd_Mo_goSlips_70 (by decide) ?_
                refine gf_lsub [0, 1, 2, 3, 4, 5] rfl ?_
                exact ih32_2 x67 m64 (by
                        have e1 : x67.toNat = v.toNat + 1 := by omega
                        have e2 : pf_slr x27 k (v.toNat + 1) = pf_slr x27 k v.toNat ++ (if v = x27 then [] else [k * 10 + v]) := by
                          show _ ++ (if ((v.toNat : Nat) : Int) = x27 then [] else [k * 10 + ((v.toNat : Nat) : Int)]) = _
                          rw [show ((v.toNat : Nat) : Int) = v by omega]
                        first
                        | (refine ⟨by omega, by omega, e46, g46, ?_, fun a b h1 h2 => by rw [o46 a b h2]; exact hvf a b h1 h2⟩
                           rw [e1, e2, if_pos h51, List.append_nil]
                           exact u46)
                        | (obtain ⟨hua, hub⟩ := hp64
                           refine ⟨by omega, by omega, by rw [hub 65 15 (by decide)]; exact e46, fun j h0 h1 h2 => by rw [hub 73 j (by omega)]; exact g46 j h0 h1 h2, ?_, fun a b h1 h2 => by rw [hub a b (gm_n4 h1).1, o46 a b h2]; exact hvf a b h1 h2⟩
                           rw [e1, e2, if_neg h51, pf_filt]
                           rw [hrk, hr2a, show 10 * k + v = k * 10 + v by omega] at hua
                           rw [hP] at hua ⊢
                           by_cases e : gm_rk μ i (pf_cps (gm_x μ) (k * 10 + v)) (μ 71 1) = gm_rk μ i (gm_x μ) (μ 71 1)
                           · rw [if_pos e] at hua
                             rw [if_pos (by simpa using e)]
                             exact hua
                           · rw [if_neg e] at hua
                             rw [if_neg (by simpa using e)]
                             exact hua)) (by omega)
        refine gf_lsub [0, 3, 4, 5, 2, 1] rfl ?_
        exact L32_2 _ 0 m (⟨by omega, by omega, hk15, fun j h0 h1 _ => hk73 j h0 h1, by rw [show pf_slr x27 k (0 : Int).toNat = [] from rfl, List.append_nil]; exact hku, hkf⟩) (Nat.lt_succ_self _)
  refine gf_lsub [0, 2, 3, 1] rfl ?_
  exact L13_1 _ 0 m8 (⟨by omega, by omega, by rw [hm8, gf_up_j (by decide)]; exact hw15, fun j h0 h1 => by rw [hm8, gf_up_k (by decide)]; exact hw73 j h0 h1, ⟨by rw [hm8]; exact gf_up_s, fun h => absurd rfl h⟩, fun a b h1 h2 => by rw [hm8, gf_up_o (gm_n4 h1).2.1]; exact hwf a b (gm_n4 h1).2.2 h2⟩) (Nat.lt_succ_self _)

theorem dd_Mo_goSwaps_0 : decode cc_Mo_goSwaps 0 = .ok (.aload_n 0, 1) := by decide +kernel
theorem dd_Mo_goSwaps_1 : decode cc_Mo_goSwaps 1 = .ok (.iload_n 1, 1) := by decide +kernel
theorem dd_Mo_goSwaps_2 : decode cc_Mo_goSwaps 2 = .ok (.invokevirtual 162, 3) := by decide +kernel
theorem dd_Mo_goSwaps_5 : decode cc_Mo_goSwaps 5 = .ok (.istore_n 3, 1) := by decide +kernel
theorem dd_Mo_goSwaps_6 : decode cc_Mo_goSwaps 6 = .ok (.aload_n 0, 1) := by decide +kernel
theorem dd_Mo_goSwaps_7 : decode cc_Mo_goSwaps 7 = .ok (.iconst 0, 1) := by decide +kernel
theorem dd_Mo_goSwaps_8 : decode cc_Mo_goSwaps 8 = .ok (.putfield 156, 3) := by decide +kernel
theorem dd_Mo_goSwaps_11 : decode cc_Mo_goSwaps 11 = .ok (.iconst 0, 1) := by decide +kernel
theorem dd_Mo_goSwaps_12 : decode cc_Mo_goSwaps 12 = .ok (.istore 4, 2) := by decide +kernel
theorem dd_Mo_goSwaps_14 : decode cc_Mo_goSwaps 14 = .ok (.iload 4, 2) := by decide +kernel
theorem dd_Mo_goSwaps_16 : decode cc_Mo_goSwaps 16 = .ok (.iload_n 2, 1) := by decide +kernel
theorem dd_Mo_goSwaps_17 : decode cc_Mo_goSwaps 17 = .ok (.iadd, 1) := by decide +kernel
theorem dd_Mo_goSwaps_18 : decode cc_Mo_goSwaps 18 = .ok (.aload_n 0, 1) := by decide +kernel
theorem dd_Mo_goSwaps_19 : decode cc_Mo_goSwaps 19 = .ok (.getfield 146, 3) := by decide +kernel
theorem dd_Mo_goSwaps_22 : decode cc_Mo_goSwaps 22 = .ok (.if_icmp .ge 56, 3) := by decide +kernel
theorem dd_Mo_goSwaps_25 : decode cc_Mo_goSwaps 25 = .ok (.aload_n 0, 1) := by decide +kernel
theorem dd_Mo_goSwaps_26 : decode cc_Mo_goSwaps 26 = .ok (.getfield 36, 3) := by decide +kernel
theorem dd_Mo_goSwaps_29 : decode cc_Mo_goSwaps 29 = .ok (.iload 4, 2) := by decide +kernel
theorem dd_Mo_goSwaps_31 : decode cc_Mo_goSwaps 31 = .ok (.iaload, 1) := by decide +kernel
theorem dd_Mo_goSwaps_32 : decode cc_Mo_goSwaps 32 = .ok (.aload_n 0, 1) := by decide +kernel
theorem dd_Mo_goSwaps_33 : decode cc_Mo_goSwaps 33 = .ok (.getfield 36, 3) := by decide +kernel
theorem dd_Mo_goSwaps_36 : decode cc_Mo_goSwaps 36 = .ok (.iload 4, 2) := by decide +kernel
theorem dd_Mo_goSwaps_38 : decode cc_Mo_goSwaps 38 = .ok (.iload_n 2, 1) := by decide +kernel
theorem dd_Mo_goSwaps_39 : decode cc_Mo_goSwaps 39 = .ok (.iadd, 1) := by decide +kernel
theorem dd_Mo_goSwaps_40 : decode cc_Mo_goSwaps 40 = .ok (.iaload, 1) := by decide +kernel
theorem dd_Mo_goSwaps_41 : decode cc_Mo_goSwaps 41 = .ok (.if_icmp .eq 31, 3) := by decide +kernel
theorem dd_Mo_goSwaps_44 : decode cc_Mo_goSwaps 44 = .ok (.aload_n 0, 1) := by decide +kernel
theorem dd_Mo_goSwaps_45 : decode cc_Mo_goSwaps 45 = .ok (.iload 4, 2) := by decide +kernel
theorem dd_Mo_goSwaps_47 : decode cc_Mo_goSwaps 47 = .ok (.iload 4, 2) := by decide +kernel
theorem dd_Mo_goSwaps_49 : decode cc_Mo_goSwaps 49 = .ok (.iload_n 2, 1) := by decide +kernel
theorem dd_Mo_goSwaps_50 : decode cc_Mo_goSwaps 50 = .ok (.iadd, 1) := by decide +kernel
theorem dd_Mo_goSwaps_51 : decode cc_Mo_goSwaps 51 = .ok (.invokevirtual 169, 3) := by decide +kernel
theorem dd_Mo_goSwaps_54 : decode cc_Mo_goSwaps 54 = .ok (.aload_n 0, 1) := by decide +kernel
theorem dd_Mo_goSwaps_55 : decode cc_Mo_goSwaps 55 = .ok (.iload_n 1, 1) := by decide +kernel
theorem dd_Mo_goSwaps_56 : decode cc_Mo_goSwaps 56 = .ok (.iload_n 3, 1) := by decide +kernel
theorem dd_Mo_goSwaps_57 : decode cc_Mo_goSwaps 57 = .ok (.iload 4, 2) := by decide +kernel
theorem dd_Mo_goSwaps_59 : decode cc_Mo_goSwaps 59 = .ok (.invokevirtual 165, 3) := by decide +kernel
theorem dd_Mo_goSwaps_62 : decode cc_Mo_goSwaps 62 = .ok (.aload_n 0, 1) := by decide +kernel
theorem dd_Mo_goSwaps_63 : decode cc_Mo_goSwaps 63 = .ok (.iload 4, 2) := by decide +kernel
theorem dd_Mo_goSwaps_65 : decode cc_Mo_goSwaps 65 = .ok (.iload 4, 2) := by decide +kernel
theorem dd_Mo_goSwaps_67 : decode cc_Mo_goSwaps 67 = .ok (.iload_n 2, 1) := by decide +kernel
theorem dd_Mo_goSwaps_68 : decode cc_Mo_goSwaps 68 = .ok (.iadd, 1) := by decide +kernel
theorem dd_Mo_goSwaps_69 : decode cc_Mo_goSwaps 69 = .ok (.invokevirtual 169, 3) := by decide +kernel
theorem dd_Mo_goSwaps_72 : decode cc_Mo_goSwaps 72 = .ok (.iinc 4 1, 3) := by decide +kernel
theorem dd_Mo_goSwaps_75 : decode cc_Mo_goSwaps 75 = .ok (.goto (-61), 3) := by decide +kernel
theorem dd_Mo_goSwaps_78 : decode cc_Mo_goSwaps 78 = .ok (.return_, 1) := by decide +kernel
set_option maxRecDepth 100000 in
set_option maxHeartbeats 4000000 in
theorem ct_Mo_goSwaps (l : Launch) (E : gf_E) (i off : Int) (μ : gf_M) (hg : gm_okg μ i) (ho : 1 ≤ off ∧ off ≤ 2) (hn : 0 ≤ μ 71 1 ∧ μ 71 1 ≤ 8) (hx : ∀ j : Int, 0 ≤ j → j < μ 71 1 → 0 ≤ μ 71 (24 + j) ∧ μ 71 (24 + j) ≤ 9)  : gf_Mv l E yy_Mo_goSwaps cc_Mo_goSwaps 5 (gf_rm 5 123) 81 gf_ref 0 0 81 gf_ref μ [.ref (gf_ad E 65), .int (gf_i i), .int (gf_i off)] (fun μ' => gm_un μ' (gm_uX μ off i) ∧ ∀ a b : Int, ¬ (a = 65 ∧ (b = 15 ∨ b = 16 ∨ b = 17)) → a ≠ 73 → μ' a b = μ a b) := by
  refine gf_mv (by decide +kernel) (Nat.le_of_ble_eq_true rfl) (by decide) (fun X Q hlx C hname hQ => ?_)
  subst hlx
  replace C : gf_C X E cc_Mo_goSwaps 5 "GuardFiguresModel" (gf_rm 5 123) := C
  show gf_G X E Q 5 gf_φ μ 0 [(0, .ref (gf_ad E 65)), (1, .int (gf_i i)), (2, .int (gf_i off))] []
  have hg0 := hg.1
  obtain ⟨P, hP⟩ : ∃ P : Int → Bool, P = (fun k => !decide (gm_rk μ i (pf_cpx (gm_x μ) k off) (μ 71 1) ≠ gm_rk μ i (gm_x μ) (μ 71 1))) := ⟨_, rfl⟩
  refine gf_aload_n C dd_Mo_goSwaps_0 0 rfl ?_
  refine gf_iload_n C dd_Mo_goSwaps_1 1 rfl ?_
  refine gf_callVi (st := []) (As := [.int (gf_i i)]) C wk_Mo_162 gf_cl7 (show gf_is 81 65 0 7 26 by decide) (ct_Mo_now (gf_xl X) E i μ (hg) (hn) (hx)) rfl ⟨rfl, rfl, rfl, rfl⟩ (Nat.le_of_ble_eq_true rfl) rfl dd_Mo_goSwaps_2 (fun r2 m2 hR2 hp2 => ?_)
  refine gf_istore_n (lv' := [(3, .int (gf_i r2)), (0, .ref (gf_ad E 65)), (1, .int (gf_i i)), (2, .int (gf_i off))]) C dd_Mo_goSwaps_5 (by decide) rfl ?_
  obtain ⟨⟨hr2a, hr2b⟩, hw15, hw73, hwf⟩ := hp2
  refine gf_aload_n C dd_Mo_goSwaps_6 1 rfl ?_
  refine gf_iconst C dd_Mo_goSwaps_7 ?_
  refine gf_putI (z := 16) C gf_cl7 fl_Mo_156 dd_Mo_goSwaps_8 rfl rfl rfl (by decide +kernel) (show gf_is 81 65 0 7 26 by decide) (by omega) ?_
  refine gf_nmM (fun m8 hm8 => ?_)
  refine gf_iconst C dd_Mo_goSwaps_11 ?_
  refine gf_istore (lv' := [(4, .int (gf_i 0)), (3, .int (gf_i r2)), (0, .ref (gf_ad E 65)), (1, .int (gf_i i)), (2, .int (gf_i off))]) C dd_Mo_goSwaps_12 (by decide) rfl ?_
  have L14_1 : ∀ (N : Nat) (k : Int) (m : gf_M) , (0 ≤ k ∧ (k = 0 ∨ k + off ≤ μ 71 1) ∧ m 65 15 = μ 71 1 ∧ (∀ j : Int, 0 ≤ j → j < 8 → m 73 j = μ 71 (24 + j)) ∧ gm_un m ((pf_ex (gm_x μ) off k.toNat).filter P) ∧ ∀ a b : Int, ¬ (a = 65 ∧ (b = 15 ∨ b = 16 ∨ b = 17)) → a ≠ 73 → m a b = μ a b) → (8 - k).toNat < N → gf_G X E Q 5 gf_φ m 14 [(4, .int (gf_i k)), (0, .ref (gf_ad E 65)), (1, .int (gf_i i)), (2, .int (gf_i off)), (3, .int (gf_i r2))] [] := by
    intro N
    induction N with
    | zero => intro k m hinv hN; exact absurd hN (Nat.not_lt_zero _)
    | succ N ih14_1 =>
      intro k m hinv hN
      have hinv0 := hinv
      obtain ⟨hk0, hk1, hk15, hk73, hku, hkf⟩ := hinv
      refine gf_iload C dd_Mo_goSwaps_14 0 rfl ?_
      refine gf_iload_n C dd_Mo_goSwaps_16 3 rfl ?_
      refine gf_iadd C dd_Mo_goSwaps_17 ?_
      refine gf_aload_n C dd_Mo_goSwaps_18 1 rfl ?_
      refine gf_getI (z := 15) C gf_cl7 fl_Mo_146 dd_Mo_goSwaps_19 rfl rfl (show gf_is 81 65 0 7 26 by decide) (fun hv19 => ?_)
      refine gf_icmp_ge 78 C dd_Mo_goSwaps_22 (by decide) (by omega) (by omega) (fun h22 => ?_) (fun h22 => ?_)
      · skip
        refine gf_vret C hQ dd_Mo_goSwaps_78 ?_
        have ek : k.toNat = (μ 71 1 - off).toNat := by omega
        rw [ek, hP] at hku
        exact ⟨hku, hkf⟩
      · skip
        refine gf_aload_n C dd_Mo_goSwaps_25 1 rfl ?_
        refine gf_getA (r := 73) C gf_cl7 fl_Mo_36 dd_Mo_goSwaps_26 rfl (show gf_is 81 65 0 7 26 by decide) (by decide) (by decide) ?_
        refine gf_iload C dd_Mo_goSwaps_29 0 rfl ?_
        refine gf_iald C dd_Mo_goSwaps_31 (show gf_is 81 73 1 0 8 by decide) (by omega) (fun hv31 => ?_)
        refine gf_aload_n C dd_Mo_goSwaps_32 1 rfl ?_
        refine gf_getA (r := 73) C gf_cl7 fl_Mo_36 dd_Mo_goSwaps_33 rfl (show gf_is 81 65 0 7 26 by decide) (by decide) (by decide) ?_
        refine gf_iload C dd_Mo_goSwaps_36 0 rfl ?_
        refine gf_iload_n C dd_Mo_goSwaps_38 3 rfl ?_
        refine gf_iadd C dd_Mo_goSwaps_39 ?_
        refine gf_iald C dd_Mo_goSwaps_40 (show gf_is 81 73 1 0 8 by decide) (by omega) (fun hv40 => ?_)
        refine gf_icmp_eq 72 C dd_Mo_goSwaps_41 (by decide) (by omega) (by omega) (fun h41 => ?_) (fun h41 => ?_)
        · skip
          obtain ⟨x72, hx72⟩ : ∃ y : Int, y = k + 1 := ⟨_, rfl⟩
          refine gf_iinc (q := 0) (v := x72) (lv' := [(4, .int (gf_i x72)), (0, .ref (gf_ad E 65)), (1, .int (gf_i i)), (2, .int (gf_i off)), (3, .int (gf_i r2))]) C dd_Mo_goSwaps_72 rfl hx72 (by decide) rfl ?_
          refine gf_goto 14 C dd_Mo_goSwaps_75 (by decide) ?_
          refine gf_lsub [0, 1, 2, 3, 4] rfl ?_
          exact ih14_1 x72 m (by
                  have e1 : x72.toNat = k.toNat + 1 := by omega
                  have e2 : pf_ex (gm_x μ) off (k.toNat + 1) = pf_ex (gm_x μ) off k.toNat ++ (if m 73 k = m 73 (k + off) then [] else [k]) := by
                    show _ ++ (if gm_x μ ((k.toNat : Nat) : Int) = gm_x μ (((k.toNat : Nat) : Int) + off) then [] else [((k.toNat : Nat) : Int)]) = _
                    rw [show ((k.toNat : Nat) : Int) = k by omega, hk73 k (by omega) (by omega), hk73 (k + off) (by omega) (by omega)]
                    rfl
                  first
                  | (refine ⟨by omega, by omega, hk15, hk73, ?_, hkf⟩
                     rw [e1, e2, if_pos h41, List.append_nil]
                     exact hku)
                  | (obtain ⟨hua, hub⟩ := hp59
                     have o69 : ∀ a b : Int, a ≠ 73 → m69 a b = m59 a b := fun a b h => by rw [hp69, gf_up_k h, gf_up_k h]
                     refine ⟨by omega, by omega, by rw [o69 65 15 (by decide), hub 65 15 (by decide)]; exact e51, fun j h0 h1 => ?_, gm_un_f ?_ (o69 65 16 (by decide)) (o69 65 17 (by decide)), fun a b h1 h2 => by rw [o69 a b h2, hub a b (gm_n4 h1).1, o51 a b h2]; exact hkf a b h1 h2⟩
                     · rw [hp69]
                       by_cases ej : j = k + off
                       · rw [ej, gf_up_s, hub 73 k (by omega), hp51, gf_up_j (by omega), gf_up_s]
                         exact hk73 (k + off) (by omega) (by omega)
                       · rw [gf_up_j ej]
                         by_cases ek : j = k
                         · rw [ek, gf_up_s, hub 73 (k + off) (by omega), hp51, gf_up_s]
                           exact hk73 k (by omega) (by omega)
                         · rw [gf_up_j ek, hub 73 j (by omega), hp51, gf_up_j ej, gf_up_j ek]
                           exact hk73 j h0 h1
                     · rw [e1, e2, if_neg h41, pf_filt1]
                       rw [hrk, hr2a] at hua
                       rw [hP] at hua ⊢
                       by_cases e : gm_rk μ i (pf_cpx (gm_x μ) k off) (μ 71 1) = gm_rk μ i (gm_x μ) (μ 71 1)
                       · rw [if_pos e] at hua
                         rw [if_pos (by simpa using e)]
                         exact hua
                       · rw [if_neg e] at hua
                         rw [if_neg (by simpa using e)]
                         exact hua)) (by omega)
        · skip
          refine gf_aload_n C dd_Mo_goSwaps_44 1 rfl ?_
          refine gf_iload C dd_Mo_goSwaps_45 0 rfl ?_
          refine gf_iload C dd_Mo_goSwaps_47 0 rfl ?_
          refine gf_iload_n C dd_Mo_goSwaps_49 3 rfl ?_
          refine gf_iadd C dd_Mo_goSwaps_50 ?_
          refine gf_callVv (st := []) (As := [.int (gf_i k), .int (gf_i (k + off))]) C wk_Mo_169 gf_cl7 (show gf_is 81 65 0 7 26 by decide) (ct_Mo_exchange (gf_xl X) E k (k + off) m (by omega) (by omega)) rfl ⟨rfl, rfl, rfl, rfl⟩ (Nat.le_of_ble_eq_true rfl) rfl dd_Mo_goSwaps_51 (fun m51 hp51 => ?_)
          have o51 : ∀ a b : Int, a ≠ 73 → m51 a b = m a b := fun a b h => by rw [hp51, gf_up_k h, gf_up_k h]
          have f51 : ∀ j : Int, 0 ≤ j → j < 8 → m51 73 j = pf_cpx (gm_x μ) k off j := fun j h0 h1 => by
            unfold pf_cpx
            rw [hp51]
            by_cases e1 : j = k + off
            · rw [if_pos e1, e1, gf_up_s]; exact hk73 k (by omega) (by omega)
            · rw [gf_up_j e1, if_neg e1]
              by_cases e2 : j = k
              · rw [if_pos e2, e2, gf_up_s]; exact hk73 (k + off) (by omega) (by omega)
              · rw [gf_up_j e2, if_neg e2]; exact hk73 j h0 h1
          have e51 : m51 65 15 = μ 71 1 := by rw [o51 65 15 (by decide)]; exact hk15
          have q51 : ∀ b : Int, m51 71 b = μ 71 b := fun b => by rw [o51 71 b (by decide)]; exact hkf 71 b (by omega) (by omega)
          have u51 : gm_un m51 ((pf_ex (gm_x μ) off k.toNat).filter P) := gm_un_f hku (o51 65 16 (by decide)) (o51 65 17 (by decide))
          have hl1 := pf_ex_len (gm_x μ) off k.toNat
          have hl3 := List.length_filter_le P (pf_ex (gm_x μ) off k.toNat)
          have hF51 : ∀ j : Int, 0 ≤ j → j < m51 65 15 → 0 ≤ m51 73 j ∧ m51 73 j ≤ 9 := fun j h0 h1 => by
            rw [f51 j h0 (by omega)]
            unfold pf_cpx
            split
            · exact hx k (by omega) (by omega)
            · split
              · exact hx (k + off) (by omega) (by omega)
              · exact hx j h0 (by omega)
          have hrk : gm_rk m51 i (m51 73) (m51 65 15) = gm_rk μ i (pf_cpx (gm_x μ) k off) (μ 71 1) := by
            rw [e51, gm_rk_f q51]
            exact gm_rk_congr (fun j h0 h1 => f51 j h0 (by omega))
          refine gf_aload_n C dd_Mo_goSwaps_54 1 rfl ?_
          refine gf_iload_n C dd_Mo_goSwaps_55 2 rfl ?_
          refine gf_iload_n C dd_Mo_goSwaps_56 4 rfl ?_
          refine gf_iload C dd_Mo_goSwaps_57 0 rfl ?_
          refine gf_callVv (st := []) (As := [.int (gf_i i), .int (gf_i r2), .int (gf_i k)]) C wk_Mo_165 gf_cl7 (show gf_is 81 65 0 7 26 by decide) (ct_Mo_unnoticed (gf_xl X) E i r2 k _ m51 (gm_okg_f hg q51) (by omega) hF51 (by omega) (by omega) u51 (by omega)) rfl ⟨rfl, rfl, rfl, rfl⟩ (Nat.le_of_ble_eq_true rfl) rfl dd_Mo_goSwaps_59 (fun m59 hp59 => ?_)
          refine gf_aload_n C dd_Mo_goSwaps_62 1 rfl ?_
          refine gf_iload C dd_Mo_goSwaps_63 0 rfl ?_
          refine gf_iload C dd_Mo_goSwaps_65 0 rfl ?_
          refine gf_iload_n C dd_Mo_goSwaps_67 3 rfl ?_
          refine gf_iadd C dd_Mo_goSwaps_68 ?_
          refine gf_callVv (st := []) (As := [.int (gf_i k), .int (gf_i (k + off))]) C wk_Mo_169 gf_cl7 (show gf_is 81 65 0 7 26 by decide) (ct_Mo_exchange (gf_xl X) E k (k + off) m59 (by omega) (by omega)) rfl ⟨rfl, rfl, rfl, rfl⟩ (Nat.le_of_ble_eq_true rfl) rfl dd_Mo_goSwaps_69 (fun m69 hp69 => ?_)
          obtain ⟨x72, hx72⟩ : ∃ y : Int, y = k + 1 := ⟨_, rfl⟩
          refine gf_iinc (q := 0) (v := x72) (lv' := [(4, .int (gf_i x72)), (0, .ref (gf_ad E 65)), (1, .int (gf_i i)), (2, .int (gf_i off)), (3, .int (gf_i r2))]) C dd_Mo_goSwaps_72 rfl hx72 (by decide) rfl ?_
          refine gf_goto 14 C dd_Mo_goSwaps_75 (by decide) ?_
          refine gf_lsub [0, 1, 2, 3, 4] rfl ?_
          exact ih14_1 x72 m69 (by
                  have e1 : x72.toNat = k.toNat + 1 := by omega
                  have e2 : pf_ex (gm_x μ) off (k.toNat + 1) = pf_ex (gm_x μ) off k.toNat ++ (if m 73 k = m 73 (k + off) then [] else [k]) := by
                    show _ ++ (if gm_x μ ((k.toNat : Nat) : Int) = gm_x μ (((k.toNat : Nat) : Int) + off) then [] else [((k.toNat : Nat) : Int)]) = _
                    rw [show ((k.toNat : Nat) : Int) = k by omega, hk73 k (by omega) (by omega), hk73 (k + off) (by omega) (by omega)]
                    rfl
                  first
                  | (refine ⟨by omega, by omega, hk15, hk73, ?_, hkf⟩
                     rw [e1, e2, if_pos h41, List.append_nil]
                     exact hku)
                  | (obtain ⟨hua, hub⟩ := hp59
                     have o69 : ∀ a b : Int, a ≠ 73 → m69 a b = m59 a b := fun a b h => by rw [hp69, gf_up_k h, gf_up_k h]
                     refine ⟨by omega, by omega, by rw [o69 65 15 (by decide), hub 65 15 (by decide)]; exact e51, fun j h0 h1 => ?_, gm_un_f ?_ (o69 65 16 (by decide)) (o69 65 17 (by decide)), fun a b h1 h2 => by rw [o69 a b h2, hub a b (gm_n4 h1).1, o51 a b h2]; exact hkf a b h1 h2⟩
                     · rw [hp69]
                       by_cases ej : j = k + off
                       · rw [ej, gf_up_s, hub 73 k (by omega), hp51, gf_up_j (by omega), gf_up_s]
                         exact hk73 (k + off) (by omega) (by omega)
                       · rw [gf_up_j ej]
                         by_cases ek : j = k
                         · rw [ek, gf_up_s, hub 73 (k + off) (by omega), hp51, gf_up_s]
                           exact hk73 k (by omega) (by omega)
                         · rw [gf_up_j ek, hub 73 j (by omega), hp51, gf_up_j ej, gf_up_j ek]
                           exact hk73 j h0 h1
                     · rw [e1, e2, if_neg h41, pf_filt1]
                       rw [hrk, hr2a] at hua
                       rw [hP] at hua ⊢
                       by_cases e : gm_rk μ i (pf_cpx (gm_x μ) k off) (μ 71 1) = gm_rk μ i (gm_x μ) (μ 71 1)
                       · rw [if_pos e] at hua
                         rw [if_pos (by simpa using e)]
                         exact hua
                       · rw [if_neg e] at hua
                         rw [if_neg (by simpa using e)]
                         exact hua)) (by omega)
  refine gf_lsub [0, 2, 3, 4, 1] rfl ?_
  exact L14_1 _ 0 m8 (⟨by omega, by omega, by rw [hm8, gf_up_j (by decide)]; exact hw15, fun j h0 h1 => by rw [hm8, gf_up_k (by decide)]; exact hw73 j h0 h1, ⟨by rw [hm8]; exact gf_up_s, fun h => absurd rfl h⟩, fun a b h1 h2 => by rw [hm8, gf_up_o (gm_n4 h1).2.1]; exact hwf a b (gm_n4 h1).2.2 h2⟩) (Nat.lt_succ_self _)
