/-! what the watch holds behind a look for the guards a .. b - 1 -/
def gf_lk (μ0 m : gf_M) (a b : Nat) : Prop := m 53 2 = ((pf_T (μ0 42) (μ0 41 1)).length : Int) ∧ (∀ (t : Nat) (q : Int × (Int → Int)), (pf_T (μ0 42) (μ0 41 1))[t]? = some q → m 54 t = q.1 ∧ m 55 t = ((pf_nb (pf_no μ0 (μ0 42) (μ0 41 1) q.2) a (b - a) : Nat) : Int)) ∧ m 56 0 = ((pf_sl (μ0 42) (μ0 41 1).toNat).length : Int) ∧ m 56 1 = ((pf_sl (μ0 42) (μ0 41 1).toNat).length : Int) + ((pf_ex (μ0 42) 1 (μ0 41 1 - 1).toNat).length : Int) ∧ m 56 2 = ((pf_sl (μ0 42) (μ0 41 1).toNat).length : Int) + ((pf_ex (μ0 42) 1 (μ0 41 1 - 1).toNat).length : Int) + ((pf_ex (μ0 42) 2 (μ0 41 1 - 2).toNat).length : Int) ∧ ∀ x y : Int, ¬ (53 ≤ x ∧ x ≤ 58) → m x y = μ0 x y
theorem pf_T_88 {f : Int → Int} {n : Int} (hn : 0 ≤ n ∧ n ≤ 8) (hF : ∀ j : Int, 0 ≤ j → j < n → 0 ≤ f j ∧ f j ≤ 9) : (pf_T f n).length ≤ 85 := by
  have h1 := pf_sl_len (f := f) n.toNat (fun j h0 h1 => hF j h0 (by omega))
  have h2 := pf_ex_len f 1 (n - 1).toNat
  have h3 := pf_ex_len f 2 (n - 2).toNat
  have h4 := pf_T_len f n
  omega
theorem dd_Wa_isNoticed_0 : decode cc_Wa_isNoticed 0 = .ok (.aload_n 0, 1) := by decide +kernel
theorem dd_Wa_isNoticed_1 : decode cc_Wa_isNoticed 1 = .ok (.getfield 15, 3) := by decide +kernel
theorem dd_Wa_isNoticed_4 : decode cc_Wa_isNoticed 4 = .ok (.iload_n 1, 1) := by decide +kernel
theorem dd_Wa_isNoticed_5 : decode cc_Wa_isNoticed 5 = .ok (.iaload, 1) := by decide +kernel
theorem dd_Wa_isNoticed_6 : decode cc_Wa_isNoticed 6 = .ok (.iload_n 2, 1) := by decide +kernel
theorem dd_Wa_isNoticed_7 : decode cc_Wa_isNoticed 7 = .ok (.iand, 1) := by decide +kernel
theorem dd_Wa_isNoticed_8 : decode cc_Wa_isNoticed 8 = .ok (.ifCond .eq 7, 3) := by decide +kernel
theorem dd_Wa_isNoticed_11 : decode cc_Wa_isNoticed 11 = .ok (.iconst 1, 1) := by decide +kernel
theorem dd_Wa_isNoticed_12 : decode cc_Wa_isNoticed 12 = .ok (.goto 4, 3) := by decide +kernel
theorem dd_Wa_isNoticed_15 : decode cc_Wa_isNoticed 15 = .ok (.iconst 0, 1) := by decide +kernel
theorem dd_Wa_isNoticed_16 : decode cc_Wa_isNoticed 16 = .ok (.ireturn, 1) := by decide +kernel
set_option maxRecDepth 100000 in
set_option maxHeartbeats 4000000 in
theorem ct_Wa_isNoticed (l : Launch) (E : gf_E) (t s : Int) (μ : gf_M) (ht : 0 ≤ t ∧ t < 88) (hs : 0 ≤ s) (hn : 0 ≤ μ 55 t) : gf_Mi l E yy_Wa_isNoticed cc_Wa_isNoticed 3 .boolean (gf_rm 0 0) 81 gf_ref μ [.ref (gf_ad E 53), .int (gf_i t), .int (gf_i s)] (fun r μ' => ((gf_and (μ 55 t) s = 0 → r = 0) ∧ (gf_and (μ 55 t) s ≠ 0 → r = 1)) ∧ μ' = μ) := by
  refine gf_mi (by decide +kernel) (Nat.le_of_ble_eq_true rfl) (by decide) (fun X Q hlx C hQ => ?_)
  subst hlx
  replace C : gf_C X E cc_Wa_isNoticed 3 "GuardFigures$Watch" (gf_rm 0 0) := C
  show gf_G X E Q 3 gf_φ μ 0 [(0, .ref (gf_ad E 53)), (1, .int (gf_i t)), (2, .int (gf_i s))] []
  refine gf_aload_n C dd_Wa_isNoticed_0 0 rfl ?_
  refine gf_getA (r := 55) C gf_cl4 fl_Wa_15 dd_Wa_isNoticed_1 rfl (show gf_is 81 53 0 4 6 by decide) (by decide) (by decide) ?_
  refine gf_iload_n C dd_Wa_isNoticed_4 1 rfl ?_
  refine gf_iald C dd_Wa_isNoticed_5 (show gf_is 81 55 1 0 88 by decide) (by omega) (fun hv5 => ?_)
  refine gf_iload_n C dd_Wa_isNoticed_6 2 rfl ?_
  refine gf_iand C dd_Wa_isNoticed_7 (by omega) ?_
  have hab : gf_and (μ 55 t) s ≤ μ 55 t := by unfold gf_and; have := Nat.and_le_left (n := (μ 55 t).toNat) (m := s.toNat); omega
  have hab0 : 0 ≤ gf_and (μ 55 t) s := by unfold gf_and; omega
  refine gf_if_eq 15 C dd_Wa_isNoticed_8 (by decide) (by omega) (fun h8 => ?_) (fun h8 => ?_)
  · skip
    refine gf_iconst C dd_Wa_isNoticed_15 ?_
    refine gf_zret C hQ dd_Wa_isNoticed_16 (by omega) ?_
    exact ⟨⟨by omega, by omega⟩, rfl⟩
  · skip
    refine gf_iconst C dd_Wa_isNoticed_11 ?_
    refine gf_goto 16 C dd_Wa_isNoticed_12 (by decide) ?_
    refine gf_zret C hQ dd_Wa_isNoticed_16 (by omega) ?_
    exact ⟨⟨by omega, by omega⟩, rfl⟩

theorem dd_Wa_startOf_0 : decode cc_Wa_startOf 0 = .ok (.iload_n 1, 1) := by decide +kernel
theorem dd_Wa_startOf_1 : decode cc_Wa_startOf 1 = .ok (.ifCond .ne 7, 3) := by decide +kernel
theorem dd_Wa_startOf_4 : decode cc_Wa_startOf 4 = .ok (.iconst 0, 1) := by decide +kernel
theorem dd_Wa_startOf_5 : decode cc_Wa_startOf 5 = .ok (.goto 11, 3) := by decide +kernel
theorem dd_Wa_startOf_8 : decode cc_Wa_startOf 8 = .ok (.aload_n 0, 1) := by decide +kernel
theorem dd_Wa_startOf_9 : decode cc_Wa_startOf 9 = .ok (.getfield 18, 3) := by decide +kernel
theorem dd_Wa_startOf_12 : decode cc_Wa_startOf 12 = .ok (.iload_n 1, 1) := by decide +kernel
theorem dd_Wa_startOf_13 : decode cc_Wa_startOf 13 = .ok (.iconst 1, 1) := by decide +kernel
theorem dd_Wa_startOf_14 : decode cc_Wa_startOf 14 = .ok (.isub, 1) := by decide +kernel
theorem dd_Wa_startOf_15 : decode cc_Wa_startOf 15 = .ok (.iaload, 1) := by decide +kernel
theorem dd_Wa_startOf_16 : decode cc_Wa_startOf 16 = .ok (.ireturn, 1) := by decide +kernel
set_option maxRecDepth 100000 in
set_option maxHeartbeats 4000000 in
theorem ct_Wa_startOf (l : Launch) (E : gf_E) (s : Int) (μ : gf_M) (hs : 0 ≤ s ∧ s ≤ 2) : gf_Mi l E yy_Wa_startOf cc_Wa_startOf 2 .int (gf_rm 0 0) 81 gf_ref μ [.ref (gf_ad E 53), .int (gf_i s)] (fun r μ' => ((s = 0 → r = 0) ∧ (s ≠ 0 → r = μ 56 (s - 1))) ∧ μ' = μ) := by
  refine gf_mi (by decide +kernel) (Nat.le_of_ble_eq_true rfl) (by decide) (fun X Q hlx C hQ => ?_)
  subst hlx
  replace C : gf_C X E cc_Wa_startOf 2 "GuardFigures$Watch" (gf_rm 0 0) := C
  show gf_G X E Q 2 gf_φ μ 0 [(0, .ref (gf_ad E 53)), (1, .int (gf_i s))] []
  refine gf_iload_n C dd_Wa_startOf_0 1 rfl ?_
  refine gf_if_ne 8 C dd_Wa_startOf_1 (by decide) (by omega) (fun h1 => ?_) (fun h1 => ?_)
  · skip
    refine gf_aload_n C dd_Wa_startOf_8 0 rfl ?_
    refine gf_getA (r := 56) C gf_cl4 fl_Wa_18 dd_Wa_startOf_9 rfl (show gf_is 81 53 0 4 6 by decide) (by decide) (by decide) ?_
    refine gf_iload_n C dd_Wa_startOf_12 1 rfl ?_
    refine gf_iconst C dd_Wa_startOf_13 ?_
    refine gf_isub C dd_Wa_startOf_14 ?_
    refine gf_iald C dd_Wa_startOf_15 (show gf_is 81 56 1 0 3 by decide) (by omega) (fun hv15 => ?_)
    refine gf_iret C hQ dd_Wa_startOf_16 (by omega) ?_
    exact ⟨⟨by first | omega | (intro h; omega), by first | omega | (intro _; rfl)⟩, rfl⟩
  · skip
    refine gf_iconst C dd_Wa_startOf_4 ?_
    refine gf_goto 16 C dd_Wa_startOf_5 (by decide) ?_
    refine gf_iret C hQ dd_Wa_startOf_16 (by omega) ?_
    exact ⟨⟨by first | omega | (intro h; omega), by first | omega | (intro _; rfl)⟩, rfl⟩

theorem dd_Wa_copyWith_0 : decode cc_Wa_copyWith 0 = .ok (.aload_n 2, 1) := by decide +kernel
theorem dd_Wa_copyWith_1 : decode cc_Wa_copyWith 1 = .ok (.getfield 31, 3) := by decide +kernel
theorem dd_Wa_copyWith_4 : decode cc_Wa_copyWith 4 = .ok (.iconst 0, 1) := by decide +kernel
theorem dd_Wa_copyWith_5 : decode cc_Wa_copyWith 5 = .ok (.aload_n 0, 1) := by decide +kernel
theorem dd_Wa_copyWith_6 : decode cc_Wa_copyWith 6 = .ok (.getfield 21, 3) := by decide +kernel
theorem dd_Wa_copyWith_9 : decode cc_Wa_copyWith 9 = .ok (.iconst 0, 1) := by decide +kernel
theorem dd_Wa_copyWith_10 : decode cc_Wa_copyWith 10 = .ok (.aload_n 2, 1) := by decide +kernel
theorem dd_Wa_copyWith_11 : decode cc_Wa_copyWith 11 = .ok (.getfield 36, 3) := by decide +kernel
theorem dd_Wa_copyWith_14 : decode cc_Wa_copyWith 14 = .ok (.invokestatic 73, 3) := by decide +kernel
theorem dd_Wa_copyWith_17 : decode cc_Wa_copyWith 17 = .ok (.iload_n 1, 1) := by decide +kernel
theorem dd_Wa_copyWith_18 : decode cc_Wa_copyWith 18 = .ok (.aload_n 0, 1) := by decide +kernel
theorem dd_Wa_copyWith_19 : decode cc_Wa_copyWith 19 = .ok (.getfield 18, 3) := by decide +kernel
theorem dd_Wa_copyWith_22 : decode cc_Wa_copyWith 22 = .ok (.iconst 0, 1) := by decide +kernel
theorem dd_Wa_copyWith_23 : decode cc_Wa_copyWith 23 = .ok (.iaload, 1) := by decide +kernel
theorem dd_Wa_copyWith_24 : decode cc_Wa_copyWith 24 = .ok (.if_icmp .ge 29, 3) := by decide +kernel
theorem dd_Wa_copyWith_27 : decode cc_Wa_copyWith 27 = .ok (.aload_n 0, 1) := by decide +kernel
theorem dd_Wa_copyWith_28 : decode cc_Wa_copyWith 28 = .ok (.getfield 21, 3) := by decide +kernel
theorem dd_Wa_copyWith_31 : decode cc_Wa_copyWith 31 = .ok (.aload_n 0, 1) := by decide +kernel
theorem dd_Wa_copyWith_32 : decode cc_Wa_copyWith 32 = .ok (.getfield 11, 3) := by decide +kernel
theorem dd_Wa_copyWith_35 : decode cc_Wa_copyWith 35 = .ok (.iload_n 1, 1) := by decide +kernel
theorem dd_Wa_copyWith_36 : decode cc_Wa_copyWith 36 = .ok (.iaload, 1) := by decide +kernel
theorem dd_Wa_copyWith_37 : decode cc_Wa_copyWith 37 = .ok (.bipush 10, 2) := by decide +kernel
theorem dd_Wa_copyWith_39 : decode cc_Wa_copyWith 39 = .ok (.idiv, 1) := by decide +kernel
theorem dd_Wa_copyWith_40 : decode cc_Wa_copyWith 40 = .ok (.aload_n 0, 1) := by decide +kernel
theorem dd_Wa_copyWith_41 : decode cc_Wa_copyWith 41 = .ok (.getfield 11, 3) := by decide +kernel
theorem dd_Wa_copyWith_44 : decode cc_Wa_copyWith 44 = .ok (.iload_n 1, 1) := by decide +kernel
theorem dd_Wa_copyWith_45 : decode cc_Wa_copyWith 45 = .ok (.iaload, 1) := by decide +kernel
theorem dd_Wa_copyWith_46 : decode cc_Wa_copyWith 46 = .ok (.bipush 10, 2) := by decide +kernel
theorem dd_Wa_copyWith_48 : decode cc_Wa_copyWith 48 = .ok (.irem, 1) := by decide +kernel
theorem dd_Wa_copyWith_49 : decode cc_Wa_copyWith 49 = .ok (.iastore, 1) := by decide +kernel
theorem dd_Wa_copyWith_50 : decode cc_Wa_copyWith 50 = .ok (.goto 38, 3) := by decide +kernel
theorem dd_Wa_copyWith_53 : decode cc_Wa_copyWith 53 = .ok (.aload_n 0, 1) := by decide +kernel
theorem dd_Wa_copyWith_54 : decode cc_Wa_copyWith 54 = .ok (.getfield 21, 3) := by decide +kernel
theorem dd_Wa_copyWith_57 : decode cc_Wa_copyWith 57 = .ok (.aload_n 0, 1) := by decide +kernel
theorem dd_Wa_copyWith_58 : decode cc_Wa_copyWith 58 = .ok (.getfield 11, 3) := by decide +kernel
theorem dd_Wa_copyWith_61 : decode cc_Wa_copyWith 61 = .ok (.iload_n 1, 1) := by decide +kernel
theorem dd_Wa_copyWith_62 : decode cc_Wa_copyWith 62 = .ok (.iaload, 1) := by decide +kernel
theorem dd_Wa_copyWith_63 : decode cc_Wa_copyWith 63 = .ok (.aload_n 0, 1) := by decide +kernel
theorem dd_Wa_copyWith_64 : decode cc_Wa_copyWith 64 = .ok (.getfield 11, 3) := by decide +kernel
theorem dd_Wa_copyWith_67 : decode cc_Wa_copyWith 67 = .ok (.iload_n 1, 1) := by decide +kernel
theorem dd_Wa_copyWith_68 : decode cc_Wa_copyWith 68 = .ok (.iaload, 1) := by decide +kernel
theorem dd_Wa_copyWith_69 : decode cc_Wa_copyWith 69 = .ok (.iload_n 1, 1) := by decide +kernel
theorem dd_Wa_copyWith_70 : decode cc_Wa_copyWith 70 = .ok (.aload_n 0, 1) := by decide +kernel
theorem dd_Wa_copyWith_71 : decode cc_Wa_copyWith 71 = .ok (.getfield 18, 3) := by decide +kernel
theorem dd_Wa_copyWith_74 : decode cc_Wa_copyWith 74 = .ok (.iconst 1, 1) := by decide +kernel
theorem dd_Wa_copyWith_75 : decode cc_Wa_copyWith 75 = .ok (.iaload, 1) := by decide +kernel
theorem dd_Wa_copyWith_76 : decode cc_Wa_copyWith 76 = .ok (.if_icmp .ge 7, 3) := by decide +kernel
theorem dd_Wa_copyWith_79 : decode cc_Wa_copyWith 79 = .ok (.iconst 1, 1) := by decide +kernel
theorem dd_Wa_copyWith_80 : decode cc_Wa_copyWith 80 = .ok (.goto 4, 3) := by decide +kernel
theorem dd_Wa_copyWith_83 : decode cc_Wa_copyWith 83 = .ok (.iconst 2, 1) := by decide +kernel
theorem dd_Wa_copyWith_84 : decode cc_Wa_copyWith 84 = .ok (.iadd, 1) := by decide +kernel
theorem dd_Wa_copyWith_85 : decode cc_Wa_copyWith 85 = .ok (.invokestatic 79, 3) := by decide +kernel
theorem dd_Wa_copyWith_88 : decode cc_Wa_copyWith 88 = .ok (.return_, 1) := by decide +kernel
set_option maxRecDepth 100000 in
set_option maxHeartbeats 4000000 in
theorem ct_Wa_copyWith (l : Launch) (E : gf_E) (t : Int) (q : Int × (Int → Int)) (f : Int → Int) (n : Int) (μ : gf_M) (ht : 0 ≤ t) (hq : (pf_T f n)[t.toNat]? = some q) (hn : n = μ 41 1 ∧ 0 ≤ n ∧ n ≤ 8) (hf : ∀ j : Int, 0 ≤ j → j < n → f j = μ 42 j) (hF : ∀ j : Int, 0 ≤ j → j < n → 0 ≤ f j ∧ f j ≤ 9) (hm : μ 54 t = q.1) (h0 : μ 56 0 = ((pf_sl f n.toNat).length : Int)) (h1 : μ 56 1 = ((pf_sl f n.toNat).length : Int) + ((pf_ex f 1 (n - 1).toNat).length : Int)) : gf_Mv l E yy_Wa_copyWith cc_Wa_copyWith 3 (gf_rm 1 30) 81 gf_ref 0 0 81 gf_ref μ [.ref (gf_ad E 53), .int (gf_i t), .ref (gf_ad E 41)] (fun μ' => (∀ j : Int, 0 ≤ j → j < n → μ' 57 j = q.2 j ∧ 0 ≤ q.2 j ∧ q.2 j ≤ 9) ∧ ∀ a b : Int, a ≠ 57 → μ' a b = μ a b) := by
  refine gf_mv (by decide +kernel) (Nat.le_of_ble_eq_true rfl) (by decide) (fun X Q hlx C hname hQ => ?_)
  subst hlx
  replace C : gf_C X E cc_Wa_copyWith 3 "GuardFigures$Watch" (gf_rm 1 30) := C
  show gf_G X E Q 3 gf_φ μ 0 [(0, .ref (gf_ad E 53)), (1, .int (gf_i t)), (2, .ref (gf_ad E 41))] []
  have hlt : t.toNat < (pf_T f n).length := (List.getElem?_eq_some_iff.mp hq).1
  have h88 := pf_T_88 hn.2 hF
  have hT := pf_T_at hq
  have ett : ((t.toNat : Nat) : Int) = t := by omega
  refine gf_aload_n C dd_Wa_copyWith_0 2 rfl ?_
  refine gf_getA (r := 42) C gf_cl5 fl_Wa_31 dd_Wa_copyWith_1 rfl (show gf_is 81 41 0 5 5 by decide) (by decide) (by decide) ?_
  refine gf_iconst C dd_Wa_copyWith_4 ?_
  refine gf_aload_n C dd_Wa_copyWith_5 0 rfl ?_
  refine gf_getA (r := 57) C gf_cl4 fl_Wa_21 dd_Wa_copyWith_6 rfl (show gf_is 81 53 0 4 6 by decide) (by decide) (by decide) ?_
  refine gf_iconst C dd_Wa_copyWith_9 ?_
  refine gf_aload_n C dd_Wa_copyWith_10 2 rfl ?_
  refine gf_getI (z := 1) C gf_cl5 fl_Wa_36 dd_Wa_copyWith_11 rfl rfl (show gf_is 81 41 0 5 5 by decide) (fun hv11 => ?_)
  refine gf_copy (x := 0) (y := 0) (n := (μ 41 1)) rfl C (gf_mem 438 (by decide +kernel) (by decide +kernel)) gf_wCp.1 gf_wCp.2.1 gf_wCp.2.2 (by decide) (by decide +kernel) dd_Wa_copyWith_14 (show gf_is 81 42 1 0 8 by decide) (show gf_is 81 57 1 0 8 by decide) (by omega) ?_
  refine gf_nmM (fun m14 hm14 => ?_)
  have e14 : ∀ a b : Int, a ≠ 57 → m14 a b = μ a b := fun a b h => by rw [hm14]; simp [gf_cp, h]
  have c14 : ∀ j : Int, 0 ≤ j → j < n → m14 57 j = f j := fun j a b => by
    rw [hm14, hf j a b]; unfold gf_cp; rw [if_pos ⟨rfl, by omega, by omega⟩]; congr 1; omega
  have f0 := e14 56 0 (by decide)
  have f1 := e14 56 1 (by decide)
  have f4 := e14 54 t (by decide)
  refine gf_iload_n C dd_Wa_copyWith_17 1 rfl ?_
  refine gf_aload_n C dd_Wa_copyWith_18 0 rfl ?_
  refine gf_getA (r := 56) C gf_cl4 fl_Wa_18 dd_Wa_copyWith_19 rfl (show gf_is 81 53 0 4 6 by decide) (by decide) (by decide) ?_
  refine gf_iconst C dd_Wa_copyWith_22 ?_
  refine gf_iald C dd_Wa_copyWith_23 (show gf_is 81 56 1 0 3 by decide) (by omega) (fun hv23 => ?_)
  refine gf_icmp_ge 53 C dd_Wa_copyWith_24 (by decide) (by omega) (by omega) (fun h24 => ?_) (fun h24 => ?_)
  · skip
    obtain ⟨off, hoff, hoq, hmem, hq2⟩ : ∃ off : Int, (off = 1 ∧ t < μ 56 1 ∨ off = 2 ∧ ¬ t < μ 56 1) ∧ (q.1 + off < n) ∧ 0 ≤ q.1 ∧ q.2 = pf_cpx f q.1 off := by
      rcases hT with h | h | h
      · omega
      · have hz := pf_ex_mem h.2.2.1
        exact ⟨1, Or.inl ⟨rfl, by omega⟩, by omega, by omega, h.2.2.2⟩
      · have hz := pf_ex_mem h.2.1
        exact ⟨2, Or.inr ⟨rfl, by omega⟩, by omega, by omega, h.2.2⟩
    have c14a := c14 q.1 (by omega) (by omega)
    have c14b := c14 (q.1 + off) (by omega) (by omega)
    refine gf_aload_n C dd_Wa_copyWith_53 0 rfl ?_
    refine gf_getA (r := 57) C gf_cl4 fl_Wa_21 dd_Wa_copyWith_54 rfl (show gf_is 81 53 0 4 6 by decide) (by decide) (by decide) ?_
    refine gf_aload_n C dd_Wa_copyWith_57 0 rfl ?_
    refine gf_getA (r := 54) C gf_cl4 fl_Wa_11 dd_Wa_copyWith_58 rfl (show gf_is 81 53 0 4 6 by decide) (by decide) (by decide) ?_
    refine gf_iload_n C dd_Wa_copyWith_61 1 rfl ?_
    refine gf_iald C dd_Wa_copyWith_62 (show gf_is 81 54 1 0 88 by decide) (by omega) (fun hv62 => ?_)
    refine gf_aload_n C dd_Wa_copyWith_63 0 rfl ?_
    refine gf_getA (r := 54) C gf_cl4 fl_Wa_11 dd_Wa_copyWith_64 rfl (show gf_is 81 53 0 4 6 by decide) (by decide) (by decide) ?_
    refine gf_iload_n C dd_Wa_copyWith_67 1 rfl ?_
    refine gf_iald C dd_Wa_copyWith_68 (show gf_is 81 54 1 0 88 by decide) (by omega) (fun hv68 => ?_)
    refine gf_iload_n C dd_Wa_copyWith_69 1 rfl ?_
    refine gf_aload_n C dd_Wa_copyWith_70 0 rfl ?_
    refine gf_getA (r := 56) C gf_cl4 fl_Wa_18 dd_Wa_copyWith_71 rfl (show gf_is 81 53 0 4 6 by decide) (by decide) (by decide) ?_
    refine gf_iconst C dd_Wa_copyWith_74 ?_
    refine gf_iald C dd_Wa_copyWith_75 (show gf_is 81 56 1 0 3 by decide) (by omega) (fun hv75 => ?_)
    refine gf_icmp_ge 83 C dd_Wa_copyWith_76 (by decide) (by omega) (by omega) (fun h76 => ?_) (fun h76 => ?_)
    · skip
      refine gf_iconst C dd_Wa_copyWith_83 ?_
      refine gf_iadd C dd_Wa_copyWith_84 ?_
      refine gf_callNv (st := []) (As := [.ref (gf_ad E 57), .int (gf_i (m14 54 t)), .int (gf_i ((m14 54 t) + 2))]) C im_Fi_exchange C.2.2.2.2.2.2.1.2.2.2.2.2.2.2.2.2.1 (ct_Fi_exchange (gf_xl X) E 57 (m14 54 t) ((m14 54 t) + 2) 8 m14 (show gf_is 81 57 1 0 8 by decide) (by omega) (by omega)) rfl ⟨rfl, rfl, rfl, rfl⟩ (Nat.le_of_ble_eq_true rfl) rfl dd_Wa_copyWith_85 (fun m85 hp85 => ?_)
      refine gf_vret C hQ dd_Wa_copyWith_88 ?_
      first
        | (refine ⟨fun j a b => ?_, fun a b h => by rw [hm49, gf_up_k h]; exact e14 a b h⟩
           have hfj := hF j a b
           rw [hq2, hm49, f4, hm]
           unfold pf_cps
           by_cases e : j = q.1 / 10
           · rw [if_pos e, e, gf_up_s]; omega
           · rw [if_neg e, gf_up_j e, c14 j a b]; omega)
        | (refine ⟨fun j a b => ?_, fun a b h => by rw [hp85, gf_up_k h, gf_up_k h]; exact e14 a b h⟩
           have hfj := hF j a b
           have hfk := hF q.1 (by omega) (by omega)
           have hfo := hF (q.1 + off) (by omega) (by omega)
           have eo : (m14 54 t + 1 = q.1 + off ∨ m14 54 t + 2 = q.1 + off) := by omega
           rw [hq2, hp85]
           unfold pf_cpx
           by_cases e : j = q.1 + off
           · rw [if_pos e, show (gf_up (gf_up m14 57 (m14 54 t) _) 57 _ (m14 57 (m14 54 t))) 57 j = m14 57 (m14 54 t) by rw [e]; first | (rw [show m14 54 t + 1 = q.1 + off by omega]; exact gf_up_s) | (rw [show m14 54 t + 2 = q.1 + off by omega]; exact gf_up_s), f4, hm, c14a]; omega
           · rw [if_neg e, gf_up_j (by omega)]
             by_cases e2 : j = q.1
             · rw [if_pos e2, e2, show q.1 = m14 54 t by omega, gf_up_s]
               first
               | (rw [show m14 54 t + 1 = q.1 + off by omega, show m14 54 t + off = q.1 + off by omega, c14b]; omega)
               | (rw [show m14 54 t + 2 = q.1 + off by omega, show m14 54 t + off = q.1 + off by omega, c14b]; omega)
             · rw [if_neg e2, gf_up_j (by omega), c14 j a b]; omega)
    · skip
      refine gf_iconst C dd_Wa_copyWith_79 ?_
      refine gf_goto 84 C dd_Wa_copyWith_80 (by decide) ?_
      refine gf_iadd C dd_Wa_copyWith_84 ?_
      refine gf_callNv (st := []) (As := [.ref (gf_ad E 57), .int (gf_i (m14 54 t)), .int (gf_i ((m14 54 t) + 1))]) C im_Fi_exchange C.2.2.2.2.2.2.1.2.2.2.2.2.2.2.2.2.1 (ct_Fi_exchange (gf_xl X) E 57 (m14 54 t) ((m14 54 t) + 1) 8 m14 (show gf_is 81 57 1 0 8 by decide) (by omega) (by omega)) rfl ⟨rfl, rfl, rfl, rfl⟩ (Nat.le_of_ble_eq_true rfl) rfl dd_Wa_copyWith_85 (fun m85 hp85 => ?_)
      refine gf_vret C hQ dd_Wa_copyWith_88 ?_
      first
        | (refine ⟨fun j a b => ?_, fun a b h => by rw [hm49, gf_up_k h]; exact e14 a b h⟩
           have hfj := hF j a b
           rw [hq2, hm49, f4, hm]
           unfold pf_cps
           by_cases e : j = q.1 / 10
           · rw [if_pos e, e, gf_up_s]; omega
           · rw [if_neg e, gf_up_j e, c14 j a b]; omega)
        | (refine ⟨fun j a b => ?_, fun a b h => by rw [hp85, gf_up_k h, gf_up_k h]; exact e14 a b h⟩
           have hfj := hF j a b
           have hfk := hF q.1 (by omega) (by omega)
           have hfo := hF (q.1 + off) (by omega) (by omega)
           have eo : (m14 54 t + 1 = q.1 + off ∨ m14 54 t + 2 = q.1 + off) := by omega
           rw [hq2, hp85]
           unfold pf_cpx
           by_cases e : j = q.1 + off
           · rw [if_pos e, show (gf_up (gf_up m14 57 (m14 54 t) _) 57 _ (m14 57 (m14 54 t))) 57 j = m14 57 (m14 54 t) by rw [e]; first | (rw [show m14 54 t + 1 = q.1 + off by omega]; exact gf_up_s) | (rw [show m14 54 t + 2 = q.1 + off by omega]; exact gf_up_s), f4, hm, c14a]; omega
           · rw [if_neg e, gf_up_j (by omega)]
             by_cases e2 : j = q.1
             · rw [if_pos e2, e2, show q.1 = m14 54 t by omega, gf_up_s]
               first
               | (rw [show m14 54 t + 1 = q.1 + off by omega, show m14 54 t + off = q.1 + off by omega, c14b]; omega)
               | (rw [show m14 54 t + 2 = q.1 + off by omega, show m14 54 t + off = q.1 + off by omega, c14b]; omega)
             · rw [if_neg e2, gf_up_j (by omega), c14 j a b]; omega)
  · skip
    obtain ⟨_, hmem, hq2⟩ : t.toNat < (pf_sl f n.toNat).length ∧ q.1 ∈ pf_sl f n.toNat ∧ q.2 = pf_cps f q.1 := by
      rcases hT with h | h | h
      · exact h
      · omega
      · omega
    obtain ⟨si, sj, hs0, hs1, hs2, hs3, hs4, hs5⟩ := pf_sl_mem hmem
    refine gf_aload_n C dd_Wa_copyWith_27 0 rfl ?_
    refine gf_getA (r := 57) C gf_cl4 fl_Wa_21 dd_Wa_copyWith_28 rfl (show gf_is 81 53 0 4 6 by decide) (by decide) (by decide) ?_
    refine gf_aload_n C dd_Wa_copyWith_31 0 rfl ?_
    refine gf_getA (r := 54) C gf_cl4 fl_Wa_11 dd_Wa_copyWith_32 rfl (show gf_is 81 53 0 4 6 by decide) (by decide) (by decide) ?_
    refine gf_iload_n C dd_Wa_copyWith_35 1 rfl ?_
    refine gf_iald C dd_Wa_copyWith_36 (show gf_is 81 54 1 0 88 by decide) (by omega) (fun hv36 => ?_)
    refine gf_bipush C dd_Wa_copyWith_37 (by decide +kernel) ?_
    refine gf_idiv C dd_Wa_copyWith_39 (by omega) ?_
    refine gf_aload_n C dd_Wa_copyWith_40 0 rfl ?_
    refine gf_getA (r := 54) C gf_cl4 fl_Wa_11 dd_Wa_copyWith_41 rfl (show gf_is 81 53 0 4 6 by decide) (by decide) (by decide) ?_
    refine gf_iload_n C dd_Wa_copyWith_44 1 rfl ?_
    refine gf_iald C dd_Wa_copyWith_45 (show gf_is 81 54 1 0 88 by decide) (by omega) (fun hv45 => ?_)
    refine gf_bipush C dd_Wa_copyWith_46 (by decide +kernel) ?_
    refine gf_irem C dd_Wa_copyWith_48 (by omega) ?_
    refine gf_iast C dd_Wa_copyWith_49 (show gf_is 81 57 1 0 8 by decide) (by omega) (by omega) ?_
    refine gf_nmM (fun m49 hm49 => ?_)
    refine gf_goto 88 C dd_Wa_copyWith_50 (by decide) ?_
    refine gf_vret C hQ dd_Wa_copyWith_88 ?_
    first
      | (refine ⟨fun j a b => ?_, fun a b h => by rw [hm49, gf_up_k h]; exact e14 a b h⟩
         have hfj := hF j a b
         rw [hq2, hm49, f4, hm]
         unfold pf_cps
         by_cases e : j = q.1 / 10
         · rw [if_pos e, e, gf_up_s]; omega
         · rw [if_neg e, gf_up_j e, c14 j a b]; omega)
      | (refine ⟨fun j a b => ?_, fun a b h => by rw [hp85, gf_up_k h, gf_up_k h]; exact e14 a b h⟩
         have hfj := hF j a b
         have hfk := hF q.1 (by omega) (by omega)
         have hfo := hF (q.1 + off) (by omega) (by omega)
         have eo : (m14 54 t + 1 = q.1 + off ∨ m14 54 t + 2 = q.1 + off) := by omega
         rw [hq2, hp85]
         unfold pf_cpx
         by_cases e : j = q.1 + off
         · rw [if_pos e, show (gf_up (gf_up m14 57 (m14 54 t) _) 57 _ (m14 57 (m14 54 t))) 57 j = m14 57 (m14 54 t) by rw [e]; first | (rw [show m14 54 t + 1 = q.1 + off by omega]; exact gf_up_s) | (rw [show m14 54 t + 2 = q.1 + off by omega]; exact gf_up_s), f4, hm, c14a]; omega
         · rw [if_neg e, gf_up_j (by omega)]
           by_cases e2 : j = q.1
           · rw [if_pos e2, e2, show q.1 = m14 54 t by omega, gf_up_s]
             first
             | (rw [show m14 54 t + 1 = q.1 + off by omega, show m14 54 t + off = q.1 + off by omega, c14b]; omega)
             | (rw [show m14 54 t + 2 = q.1 + off by omega, show m14 54 t + off = q.1 + off by omega, c14b]; omega)
           · rw [if_neg e2, gf_up_j (by omega), c14 j a b]; omega)
