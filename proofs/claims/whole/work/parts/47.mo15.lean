/-! the reference: counts, findings, lots -/
noncomputable def gm_cn (μ : gf_M) (w : Int) : Int :=
  if w = 0 then μ 71 0 else if w = 1 then μ 71 1 else if w = 2 then μ 71 2 else if w = 3 then pf_num (gm_x μ) (μ 71 1).toNat
  else if w = 4 then pf_sumf (fun j => gm_rk μ j (gm_x μ) (μ 71 1)) (μ 71 0).toNat
  else if w = 5 then pf_set (fun j => (gm_uS μ j).isEmpty) (μ 71 0).toNat
  else if w = 6 then pf_cnt (fun j => decide (0 ≤ μ 66 j)) 6
  else if w = 7 then pf_cnt (fun j => decide (0 ≤ μ 68 j)) 4
  else if w = 8 then pf_cnt (fun j => decide (0 ≤ μ 74 j)) 3
  else if w = 9 then pf_cnt (fun j => @decide (pf_is (μ 71 (3 + j)) 1) (Classical.propDecidable _)) (μ 71 0).toNat
  else pf_cnt (fun j => @decide (pf_is (μ 71 (3 + j)) 2) (Classical.propDecidable _)) (μ 71 0).toNat
def gm_lotW (μ : gf_M) (lot : Int) : gf_M := if lot % 4 < 2 ∧ μ 71 1 < 8 then gm_app μ (lot / 8 % 10) else if lot % 4 = 2 ∧ 0 < μ 71 1 then gm_off μ else if lot % 4 = 3 ∧ lot / 128 % 8 < μ 71 1 then gf_up μ 71 (24 + lot / 128 % 8) (lot / 8 % 10) else μ
def gm_lots (μ : gf_M) (s : Int) : Nat → gf_M
  | 0 => μ
  | n + 1 => gm_lotW (gm_nt (gm_lots μ s n)) (pf_lot s (n + 1))
theorem gm_lotW_1 {μ : gf_M} {lot : Int} (hn : 0 ≤ μ 71 1 ∧ μ 71 1 ≤ 8) : 0 ≤ gm_lotW μ lot 71 1 ∧ gm_lotW μ lot 71 1 ≤ 8 := by
  unfold gm_lotW
  split
  · unfold gm_app; rw [gf_up_s]; omega
  · split
    · unfold gm_off; rw [gf_up_j (by omega), gf_up_s]; omega
    · split
      · rw [gf_up_j (by omega)]; exact hn
      · exact hn
theorem gm_lotW_2 {μ : gf_M} {lot : Int} (hn : 0 ≤ μ 71 1 ∧ μ 71 1 ≤ 8) : gm_lotW μ lot 71 2 = μ 71 2 := by
  unfold gm_lotW
  split
  · unfold gm_app; rw [gf_up_j (by decide), gf_up_j (by omega)]
  · split
    · unfold gm_off; rw [gf_up_j (by omega), gf_up_j (by decide)]
    · split
      · rw [gf_up_j (by omega)]
      · rfl
theorem dd_Mo_asked_0 : decode cc_Mo_asked 0 = .ok (.aload_n 0, 1) := by decide +kernel
theorem dd_Mo_asked_1 : decode cc_Mo_asked 1 = .ok (.getfield 64, 3) := by decide +kernel
theorem dd_Mo_asked_4 : decode cc_Mo_asked 4 = .ok (.ireturn, 1) := by decide +kernel
set_option maxRecDepth 100000 in
set_option maxHeartbeats 4000000 in
theorem ct_Mo_asked (l : Launch) (E : gf_E) (μ : gf_M) : gf_Mi l E yy_Mo_asked cc_Mo_asked 1 .int (gf_rm 0 0) 81 gf_ref μ [.ref (gf_ad E 65)] (fun q μ' => q = μ 65 4 ∧ μ' = μ) := by
  refine gf_mi (by decide +kernel) (Nat.le_of_ble_eq_true rfl) (by decide) (fun X Q hlx C hQ => ?_)
  subst hlx
  replace C : gf_C X E cc_Mo_asked 1 "GuardFiguresModel" (gf_rm 0 0) := C
  show gf_G X E Q 1 gf_φ μ 0 [(0, .ref (gf_ad E 65))] []
  refine gf_aload_n C dd_Mo_asked_0 0 rfl ?_
  refine gf_getI (z := 4) C gf_cl7 fl_Mo_64 dd_Mo_asked_1 rfl rfl (show gf_is 81 65 0 7 26 by decide) (fun hv1 => ?_)
  refine gf_iret C hQ dd_Mo_asked_4 (by omega) ?_
  exact ⟨rfl, rfl⟩

theorem dd_Mo_finding_0 : decode cc_Mo_finding 0 = .ok (.aload_n 0, 1) := by decide +kernel
theorem dd_Mo_finding_1 : decode cc_Mo_finding 1 = .ok (.getfield 60, 3) := by decide +kernel
theorem dd_Mo_finding_4 : decode cc_Mo_finding 4 = .ok (.ireturn, 1) := by decide +kernel
set_option maxRecDepth 100000 in
set_option maxHeartbeats 4000000 in
theorem ct_Mo_finding (l : Launch) (E : gf_E) (μ : gf_M) : gf_Mi l E yy_Mo_finding cc_Mo_finding 1 .int (gf_rm 0 0) 81 gf_ref μ [.ref (gf_ad E 65)] (fun q μ' => q = μ 65 7 ∧ μ' = μ) := by
  refine gf_mi (by decide +kernel) (Nat.le_of_ble_eq_true rfl) (by decide) (fun X Q hlx C hQ => ?_)
  subst hlx
  replace C : gf_C X E cc_Mo_finding 1 "GuardFiguresModel" (gf_rm 0 0) := C
  show gf_G X E Q 1 gf_φ μ 0 [(0, .ref (gf_ad E 65))] []
  refine gf_aload_n C dd_Mo_finding_0 0 rfl ?_
  refine gf_getI (z := 7) C gf_cl7 fl_Mo_60 dd_Mo_finding_1 rfl rfl (show gf_is 81 65 0 7 26 by decide) (fun hv1 => ?_)
  refine gf_iret C hQ dd_Mo_finding_4 (by omega) ?_
  exact ⟨rfl, rfl⟩

theorem dd_Mo_upper_0 : decode cc_Mo_upper 0 = .ok (.aload_n 0, 1) := by decide +kernel
theorem dd_Mo_upper_1 : decode cc_Mo_upper 1 = .ok (.getfield 253, 3) := by decide +kernel
theorem dd_Mo_upper_4 : decode cc_Mo_upper 4 = .ok (.lreturn, 1) := by decide +kernel
set_option maxRecDepth 100000 in
set_option maxHeartbeats 4000000 in
theorem ct_Mo_upper (l : Launch) (E : gf_E) (μ : gf_M) : gf_Ml l E yy_Mo_upper cc_Mo_upper 1 (gf_rm 0 0) 81 gf_ref μ [.ref (gf_ad E 65)] (fun q μ' => q = μ 65 5 ∧ μ' = μ) := by
  refine gf_ml (by decide +kernel) (Nat.le_of_ble_eq_true rfl) (by decide) (fun X Q hlx C hQ => ?_)
  subst hlx
  replace C : gf_C X E cc_Mo_upper 1 "GuardFiguresModel" (gf_rm 0 0) := C
  show gf_G X E Q 1 gf_φ μ 0 [(0, .ref (gf_ad E 65))] []
  refine gf_aload_n C dd_Mo_upper_0 0 rfl ?_
  refine gf_getL (z := 5) C gf_cl7 fl_Mo_253 dd_Mo_upper_1 rfl rfl (show gf_is 81 65 0 7 26 by decide) (fun hv1 => ?_)
  refine gf_lret C hQ dd_Mo_upper_4 (by omega) ?_
  exact ⟨rfl, rfl⟩

theorem dd_Mo_lower_0 : decode cc_Mo_lower 0 = .ok (.aload_n 0, 1) := by decide +kernel
theorem dd_Mo_lower_1 : decode cc_Mo_lower 1 = .ok (.getfield 23, 3) := by decide +kernel
theorem dd_Mo_lower_4 : decode cc_Mo_lower 4 = .ok (.lreturn, 1) := by decide +kernel
set_option maxRecDepth 100000 in
set_option maxHeartbeats 4000000 in
theorem ct_Mo_lower (l : Launch) (E : gf_E) (μ : gf_M) : gf_Ml l E yy_Mo_lower cc_Mo_lower 1 (gf_rm 0 0) 81 gf_ref μ [.ref (gf_ad E 65)] (fun q μ' => q = μ 65 6 ∧ μ' = μ) := by
  refine gf_ml (by decide +kernel) (Nat.le_of_ble_eq_true rfl) (by decide) (fun X Q hlx C hQ => ?_)
  subst hlx
  replace C : gf_C X E cc_Mo_lower 1 "GuardFiguresModel" (gf_rm 0 0) := C
  show gf_G X E Q 1 gf_φ μ 0 [(0, .ref (gf_ad E 65))] []
  refine gf_aload_n C dd_Mo_lower_0 0 rfl ?_
  refine gf_getL (z := 6) C gf_cl7 fl_Mo_23 dd_Mo_lower_1 rfl rfl (show gf_is 81 65 0 7 26 by decide) (fun hv1 => ?_)
  refine gf_lret C hQ dd_Mo_lower_4 (by omega) ?_
  exact ⟨rfl, rfl⟩

theorem dd_Mo_findings_0 : decode cc_Mo_findings 0 = .ok (.iload_n 1, 1) := by decide +kernel
theorem dd_Mo_findings_1 : decode cc_Mo_findings 1 = .ok (.i2l, 1) := by decide +kernel
theorem dd_Mo_findings_2 : decode cc_Mo_findings 2 = .ok (.lconst 1, 1) := by decide +kernel
theorem dd_Mo_findings_3 : decode cc_Mo_findings 3 = .ok (.ldc2_w 67, 3) := by decide +kernel
theorem dd_Mo_findings_6 : decode cc_Mo_findings 6 = .ok (.invokestatic 69, 3) := by decide +kernel
theorem dd_Mo_findings_9 : decode cc_Mo_findings 9 = .ok (.ifCond .eq 12, 3) := by decide +kernel
theorem dd_Mo_findings_12 : decode cc_Mo_findings 12 = .ok (.aload_n 0, 1) := by decide +kernel
theorem dd_Mo_findings_13 : decode cc_Mo_findings 13 = .ok (.getfield 27, 3) := by decide +kernel
theorem dd_Mo_findings_16 : decode cc_Mo_findings 16 = .ok (.iload_n 1, 1) := by decide +kernel
theorem dd_Mo_findings_17 : decode cc_Mo_findings 17 = .ok (.iaload, 1) := by decide +kernel
theorem dd_Mo_findings_18 : decode cc_Mo_findings 18 = .ok (.goto 4, 3) := by decide +kernel
theorem dd_Mo_findings_21 : decode cc_Mo_findings 21 = .ok (.iconst (-1), 1) := by decide +kernel
theorem dd_Mo_findings_22 : decode cc_Mo_findings 22 = .ok (.ireturn, 1) := by decide +kernel
set_option maxRecDepth 100000 in
set_option maxHeartbeats 4000000 in
theorem ct_Mo_findings (l : Launch) (E : gf_E) (f : Int) (μ : gf_M) (hf : gf_R f) : gf_Mi l E yy_Mo_findings cc_Mo_findings 2 .int (gf_rm 1 25) 81 gf_ref μ [.ref (gf_ad E 65), .int (gf_i f)] (fun q μ' => ((¬ (1 ≤ f ∧ f ≤ 5) → q = -1) ∧ (1 ≤ f ∧ f ≤ 5 → q = μ 70 f)) ∧ μ' = μ) := by
  refine gf_mi (by decide +kernel) (Nat.le_of_ble_eq_true rfl) (by decide) (fun X Q hlx C hQ => ?_)
  subst hlx
  replace C : gf_C X E cc_Mo_findings 2 "GuardFiguresModel" (gf_rm 1 25) := C
  show gf_G X E Q 2 gf_φ μ 0 [(0, .ref (gf_ad E 65)), (1, .int (gf_i f))] []
  refine gf_iload_n C dd_Mo_findings_0 1 rfl ?_
  refine gf_gi2l C dd_Mo_findings_1 (by omega) ?_
  refine gf_lconst 1 C dd_Mo_findings_2 (by decide +kernel) ?_
  refine gf_ldc2 5 C dd_Mo_findings_3 ck_Mo_67 (by decide +kernel) ?_
  refine gf_callSi (st := []) (As := [.long (gf_l f), .long (gf_l 1), .long (gf_l 5)]) C wk_Mo_69 (ct_Mo_in (gf_xl X) E f 1 5 μ (by omega) (by omega) (by omega)) rfl ⟨rfl, rfl, rfl, rfl⟩ (Nat.le_of_ble_eq_true rfl) rfl dd_Mo_findings_6 (fun r6 m6 hR6 hp6 => ?_)
  have hr6 := hp6.1
  refine gf_pm hp6.2 ?_
  refine gf_if_eq 21 C dd_Mo_findings_9 (by decide) (by omega) (fun h9 => ?_) (fun h9 => ?_)
  · skip
    refine gf_iconst C dd_Mo_findings_21 ?_
    refine gf_iret C hQ dd_Mo_findings_22 (by omega) ?_
    first
    | exact ⟨⟨fun h => absurd h (by omega), fun _ => rfl⟩, rfl⟩
    | exact ⟨⟨fun _ => rfl, fun h => absurd h (by omega)⟩, rfl⟩
  · skip
    refine gf_aload_n C dd_Mo_findings_12 0 rfl ?_
    refine gf_getA (r := 70) C gf_cl7 fl_Mo_27 dd_Mo_findings_13 rfl (show gf_is 81 65 0 7 26 by decide) (by decide) (by decide) ?_
    refine gf_iload_n C dd_Mo_findings_16 1 rfl ?_
    refine gf_iald C dd_Mo_findings_17 (show gf_is 81 70 1 0 6 by decide) (by omega) (fun hv17 => ?_)
    refine gf_goto 22 C dd_Mo_findings_18 (by decide) ?_
    refine gf_iret C hQ dd_Mo_findings_22 (by omega) ?_
    first
    | exact ⟨⟨fun h => absurd h (by omega), fun _ => rfl⟩, rfl⟩
    | exact ⟨⟨fun _ => rfl, fun h => absurd h (by omega)⟩, rfl⟩

theorem dd_Mo_thereOf_0 : decode cc_Mo_thereOf 0 = .ok (.iconst 0, 1) := by decide +kernel
theorem dd_Mo_thereOf_1 : decode cc_Mo_thereOf 1 = .ok (.istore_n 1, 1) := by decide +kernel
theorem dd_Mo_thereOf_2 : decode cc_Mo_thereOf 2 = .ok (.iconst 0, 1) := by decide +kernel
theorem dd_Mo_thereOf_3 : decode cc_Mo_thereOf 3 = .ok (.istore_n 2, 1) := by decide +kernel
theorem dd_Mo_thereOf_4 : decode cc_Mo_thereOf 4 = .ok (.iload_n 2, 1) := by decide +kernel
theorem dd_Mo_thereOf_5 : decode cc_Mo_thereOf 5 = .ok (.aload_n 0, 1) := by decide +kernel
theorem dd_Mo_thereOf_6 : decode cc_Mo_thereOf 6 = .ok (.arraylength, 1) := by decide +kernel
theorem dd_Mo_thereOf_7 : decode cc_Mo_thereOf 7 = .ok (.if_icmp .ge 23, 3) := by decide +kernel
theorem dd_Mo_thereOf_10 : decode cc_Mo_thereOf 10 = .ok (.iload_n 1, 1) := by decide +kernel
theorem dd_Mo_thereOf_11 : decode cc_Mo_thereOf 11 = .ok (.aload_n 0, 1) := by decide +kernel
theorem dd_Mo_thereOf_12 : decode cc_Mo_thereOf 12 = .ok (.iload_n 2, 1) := by decide +kernel
theorem dd_Mo_thereOf_13 : decode cc_Mo_thereOf 13 = .ok (.iaload, 1) := by decide +kernel
theorem dd_Mo_thereOf_14 : decode cc_Mo_thereOf 14 = .ok (.ifCond .lt 7, 3) := by decide +kernel
theorem dd_Mo_thereOf_17 : decode cc_Mo_thereOf 17 = .ok (.iconst 1, 1) := by decide +kernel
theorem dd_Mo_thereOf_18 : decode cc_Mo_thereOf 18 = .ok (.goto 4, 3) := by decide +kernel
theorem dd_Mo_thereOf_21 : decode cc_Mo_thereOf 21 = .ok (.iconst 0, 1) := by decide +kernel
theorem dd_Mo_thereOf_22 : decode cc_Mo_thereOf 22 = .ok (.iadd, 1) := by decide +kernel
theorem dd_Mo_thereOf_23 : decode cc_Mo_thereOf 23 = .ok (.istore_n 1, 1) := by decide +kernel
theorem dd_Mo_thereOf_24 : decode cc_Mo_thereOf 24 = .ok (.iinc 2 1, 3) := by decide +kernel
theorem dd_Mo_thereOf_27 : decode cc_Mo_thereOf 27 = .ok (.goto (-23), 3) := by decide +kernel
theorem dd_Mo_thereOf_30 : decode cc_Mo_thereOf 30 = .ok (.iload_n 1, 1) := by decide +kernel
theorem dd_Mo_thereOf_31 : decode cc_Mo_thereOf 31 = .ok (.ireturn, 1) := by decide +kernel
set_option maxRecDepth 100000 in
set_option maxHeartbeats 4000000 in
theorem ct_Mo_thereOf (l : Launch) (E : gf_E) (k : Int) (B : Nat) (μ : gf_M) (hk : gf_is 81 k 1 0 B) (hN : B ≤ 6) : gf_Mi l E yy_Mo_thereOf cc_Mo_thereOf 3 .int (gf_rm 0 0) 81 gf_ref μ [.ref (gf_ad E k)] (fun q μ' => (q = pf_cnt (fun j => decide (0 ≤ μ k j)) B ∧ 0 ≤ q ∧ q ≤ 6) ∧ μ' = μ) := by
  refine gf_mi (by decide +kernel) (Nat.le_of_ble_eq_true rfl) (by decide) (fun X Q hlx C hQ => ?_)
  subst hlx
  replace C : gf_C X E cc_Mo_thereOf 3 "GuardFiguresModel" (gf_rm 0 0) := C
  show gf_G X E Q 3 gf_φ μ 0 [(0, .ref (gf_ad E k))] []
  refine gf_iconst C dd_Mo_thereOf_0 ?_
  refine gf_istore_n (lv' := [(1, .int (gf_i 0)), (0, .ref (gf_ad E k))]) C dd_Mo_thereOf_1 (by decide) rfl ?_
  refine gf_iconst C dd_Mo_thereOf_2 ?_
  refine gf_istore_n (lv' := [(2, .int (gf_i 0)), (1, .int (gf_i 0)), (0, .ref (gf_ad E k))]) C dd_Mo_thereOf_3 (by decide) rfl ?_
  have L4_1 : ∀ (N : Nat) (z j : Int) , (0 ≤ j ∧ j ≤ B ∧ z = pf_cnt (fun j => decide (0 ≤ μ k j)) j.toNat) → (6 - j).toNat < N → gf_G X E Q 3 gf_φ μ 4 [(1, .int (gf_i z)), (2, .int (gf_i j)), (0, .ref (gf_ad E k))] [] := by
    intro N
    induction N with
    | zero => intro z j hinv hN; exact absurd hN (Nat.not_lt_zero _)
    | succ N ih4_1 =>
      intro z j hinv hN
      have hinv0 := hinv
      obtain ⟨hj0, hj1, hz⟩ := hinv
      have hzR := pf_cnt_R (fun j => decide (0 ≤ μ k j)) j.toNat
      rw [← hz] at hzR
      refine gf_iload_n C dd_Mo_thereOf_4 1 rfl ?_
      refine gf_aload_n C dd_Mo_thereOf_5 2 rfl ?_
      refine gf_alen 1 C dd_Mo_thereOf_6 hk (by decide) ?_
      refine gf_icmp_ge 30 C dd_Mo_thereOf_7 (by decide) (by omega) (by omega) (fun h7 => ?_) (fun h7 => ?_)
      · skip
        refine gf_iload_n C dd_Mo_thereOf_30 0 rfl ?_
        refine gf_iret C hQ dd_Mo_thereOf_31 (by omega) ?_
        have ej : j.toNat = B := by omega
        rw [ej] at hz hzR
        exact ⟨⟨hz, by omega, by omega⟩, rfl⟩
      · skip
        refine gf_iload_n C dd_Mo_thereOf_10 0 rfl ?_
        refine gf_aload_n C dd_Mo_thereOf_11 2 rfl ?_
        refine gf_iload_n C dd_Mo_thereOf_12 1 rfl ?_
        refine gf_iald C dd_Mo_thereOf_13 hk (by omega) (fun hv13 => ?_)
        refine gf_if_lt 21 C dd_Mo_thereOf_14 (by decide) (by omega) (fun h14 => ?_) (fun h14 => ?_)
        · skip
          refine gf_iconst C dd_Mo_thereOf_21 ?_
          refine gf_iadd C dd_Mo_thereOf_22 ?_
          refine gf_nm (fun x23 hx23 => ?_)
          refine gf_istore_n (lv' := [(1, .int (gf_i x23)), (2, .int (gf_i j)), (0, .ref (gf_ad E k))]) C dd_Mo_thereOf_23 (by decide) rfl ?_
          obtain ⟨x24, hx24⟩ : ∃ y : Int, y = j + 1 := ⟨_, rfl⟩
          refine gf_iinc (q := 1) (v := x24) (lv' := [(2, .int (gf_i x24)), (1, .int (gf_i x23)), (0, .ref (gf_ad E k))]) C dd_Mo_thereOf_24 rfl hx24 (by decide) rfl ?_
          refine gf_goto 4 C dd_Mo_thereOf_27 (by decide) ?_
          refine gf_lsub [1, 0, 2] rfl ?_
          exact ih4_1 x23 x24 (by
                  refine ⟨by omega, by omega, ?_⟩
                  rw [hx24, show (j + 1).toNat = j.toNat + 1 by omega]
                  show _ = pf_cnt _ j.toNat + (if decide (0 ≤ μ k ((j.toNat : Nat) : Int)) = true then 1 else 0)
                  rw [show ((j.toNat : Nat) : Int) = j by omega, ← hz, hx23]
                  first | (rw [if_pos (by simp; omega)]; done) | (rw [if_neg (by simp; omega)]; done)) (by omega)
        · skip
          refine gf_iconst C dd_Mo_thereOf_17 ?_
          refine gf_goto 22 C dd_Mo_thereOf_18 (by decide) ?_
          refine gf_iadd C dd_Mo_thereOf_22 ?_
          refine gf_nm (fun x23 hx23 => ?_)
          refine gf_istore_n (lv' := [(1, .int (gf_i x23)), (2, .int (gf_i j)), (0, .ref (gf_ad E k))]) C dd_Mo_thereOf_23 (by decide) rfl ?_
          obtain ⟨x24, hx24⟩ : ∃ y : Int, y = j + 1 := ⟨_, rfl⟩
          refine gf_iinc (q := 1) (v := x24) (lv' := [(2, .int (gf_i x24)), (1, .int (gf_i x23)), (0, .ref (gf_ad E k))]) C dd_Mo_thereOf_24 rfl hx24 (by decide) rfl ?_
          refine gf_goto 4 C dd_Mo_thereOf_27 (by decide) ?_
          refine gf_lsub [1, 0, 2] rfl ?_
          exact ih4_1 x23 x24 (by
                  refine ⟨by omega, by omega, ?_⟩
                  rw [hx24, show (j + 1).toNat = j.toNat + 1 by omega]
                  show _ = pf_cnt _ j.toNat + (if decide (0 ≤ μ k ((j.toNat : Nat) : Int)) = true then 1 else 0)
                  rw [show ((j.toNat : Nat) : Int) = j by omega, ← hz, hx23]
                  first | (rw [if_pos (by simp; omega)]; done) | (rw [if_neg (by simp; omega)]; done)) (by omega)
  refine gf_lsub [1, 0, 2] rfl ?_
  exact L4_1 _ 0 0 (⟨by omega, by omega, rfl⟩) (Nat.lt_succ_self _)

theorem dd_Mo_ofKind_0 : decode cc_Mo_ofKind 0 = .ok (.iconst 0, 1) := by decide +kernel
theorem dd_Mo_ofKind_1 : decode cc_Mo_ofKind 1 = .ok (.istore_n 2, 1) := by decide +kernel
theorem dd_Mo_ofKind_2 : decode cc_Mo_ofKind 2 = .ok (.iconst 0, 1) := by decide +kernel
theorem dd_Mo_ofKind_3 : decode cc_Mo_ofKind 3 = .ok (.istore_n 3, 1) := by decide +kernel
theorem dd_Mo_ofKind_4 : decode cc_Mo_ofKind 4 = .ok (.iload_n 3, 1) := by decide +kernel
theorem dd_Mo_ofKind_5 : decode cc_Mo_ofKind 5 = .ok (.aload_n 0, 1) := by decide +kernel
theorem dd_Mo_ofKind_6 : decode cc_Mo_ofKind 6 = .ok (.getfield 30, 3) := by decide +kernel
theorem dd_Mo_ofKind_9 : decode cc_Mo_ofKind 9 = .ok (.iconst 0, 1) := by decide +kernel
theorem dd_Mo_ofKind_10 : decode cc_Mo_ofKind 10 = .ok (.iaload, 1) := by decide +kernel
theorem dd_Mo_ofKind_11 : decode cc_Mo_ofKind 11 = .ok (.if_icmp .ge 32, 3) := by decide +kernel
theorem dd_Mo_ofKind_14 : decode cc_Mo_ofKind 14 = .ok (.iload_n 2, 1) := by decide +kernel
theorem dd_Mo_ofKind_15 : decode cc_Mo_ofKind 15 = .ok (.aload_n 0, 1) := by decide +kernel
theorem dd_Mo_ofKind_16 : decode cc_Mo_ofKind 16 = .ok (.getfield 30, 3) := by decide +kernel
theorem dd_Mo_ofKind_19 : decode cc_Mo_ofKind 19 = .ok (.iconst 3, 1) := by decide +kernel
theorem dd_Mo_ofKind_20 : decode cc_Mo_ofKind 20 = .ok (.iload_n 3, 1) := by decide +kernel
theorem dd_Mo_ofKind_21 : decode cc_Mo_ofKind 21 = .ok (.iadd, 1) := by decide +kernel
theorem dd_Mo_ofKind_22 : decode cc_Mo_ofKind 22 = .ok (.iaload, 1) := by decide +kernel
theorem dd_Mo_ofKind_23 : decode cc_Mo_ofKind 23 = .ok (.iload_n 1, 1) := by decide +kernel
theorem dd_Mo_ofKind_24 : decode cc_Mo_ofKind 24 = .ok (.invokestatic 194, 3) := by decide +kernel
theorem dd_Mo_ofKind_27 : decode cc_Mo_ofKind 27 = .ok (.ifCond .eq 7, 3) := by decide +kernel
theorem dd_Mo_ofKind_30 : decode cc_Mo_ofKind 30 = .ok (.iconst 1, 1) := by decide +kernel
theorem dd_Mo_ofKind_31 : decode cc_Mo_ofKind 31 = .ok (.goto 4, 3) := by decide +kernel
theorem dd_Mo_ofKind_34 : decode cc_Mo_ofKind 34 = .ok (.iconst 0, 1) := by decide +kernel
theorem dd_Mo_ofKind_35 : decode cc_Mo_ofKind 35 = .ok (.iadd, 1) := by decide +kernel
theorem dd_Mo_ofKind_36 : decode cc_Mo_ofKind 36 = .ok (.istore_n 2, 1) := by decide +kernel
theorem dd_Mo_ofKind_37 : decode cc_Mo_ofKind 37 = .ok (.iinc 3 1, 3) := by decide +kernel
theorem dd_Mo_ofKind_40 : decode cc_Mo_ofKind 40 = .ok (.goto (-36), 3) := by decide +kernel
theorem dd_Mo_ofKind_43 : decode cc_Mo_ofKind 43 = .ok (.iload_n 2, 1) := by decide +kernel
theorem dd_Mo_ofKind_44 : decode cc_Mo_ofKind 44 = .ok (.ireturn, 1) := by decide +kernel
set_option maxRecDepth 100000 in
set_option maxHeartbeats 4000000 in
theorem ct_Mo_ofKind (l : Launch) (E : gf_E) (w : Int) (μ : gf_M) (hw : 1 ≤ w ∧ w ≤ 5) (hc : 0 ≤ μ 71 0 ∧ μ 71 0 ≤ 7) : gf_Mi l E yy_Mo_ofKind cc_Mo_ofKind 4 .int (gf_rm 1 21) 81 gf_ref μ [.ref (gf_ad E 65), .int (gf_i w)] (fun q μ' => (q = pf_cnt (fun j => @decide (pf_is (μ 71 (3 + j)) w) (Classical.propDecidable _)) (μ 71 0).toNat ∧ 0 ≤ q ∧ q ≤ 7) ∧ μ' = μ) := by
  refine gf_mi (by decide +kernel) (Nat.le_of_ble_eq_true rfl) (by decide) (fun X Q hlx C hQ => ?_)
  subst hlx
  replace C : gf_C X E cc_Mo_ofKind 4 "GuardFiguresModel" (gf_rm 1 21) := C
  show gf_G X E Q 4 gf_φ μ 0 [(0, .ref (gf_ad E 65)), (1, .int (gf_i w))] []
  refine gf_iconst C dd_Mo_ofKind_0 ?_
  refine gf_istore_n (lv' := [(2, .int (gf_i 0)), (0, .ref (gf_ad E 65)), (1, .int (gf_i w))]) C dd_Mo_ofKind_1 (by decide) rfl ?_
  refine gf_iconst C dd_Mo_ofKind_2 ?_
  refine gf_istore_n (lv' := [(3, .int (gf_i 0)), (2, .int (gf_i 0)), (0, .ref (gf_ad E 65)), (1, .int (gf_i w))]) C dd_Mo_ofKind_3 (by decide) rfl ?_
  have L4_1 : ∀ (N : Nat) (z j : Int) , (0 ≤ j ∧ j ≤ μ 71 0 ∧ z = pf_cnt (fun j => @decide (pf_is (μ 71 (3 + j)) w) (Classical.propDecidable _)) j.toNat) → (7 - j).toNat < N → gf_G X E Q 4 gf_φ μ 4 [(2, .int (gf_i z)), (3, .int (gf_i j)), (0, .ref (gf_ad E 65)), (1, .int (gf_i w))] [] := by
    intro N
    induction N with
    | zero => intro z j hinv hN; exact absurd hN (Nat.not_lt_zero _)
    | succ N ih4_1 =>
      intro z j hinv hN
      have hinv0 := hinv
      obtain ⟨hj0, hj1, hz⟩ := hinv
      have hzR := pf_cnt_R (fun j => @decide (pf_is (μ 71 (3 + j)) w) (Classical.propDecidable _)) j.toNat
      rw [← hz] at hzR
      refine gf_iload_n C dd_Mo_ofKind_4 1 rfl ?_
      refine gf_aload_n C dd_Mo_ofKind_5 2 rfl ?_
      refine gf_getA (r := 71) C gf_cl7 fl_Mo_30 dd_Mo_ofKind_6 rfl (show gf_is 81 65 0 7 26 by decide) (by decide) (by decide) ?_
      refine gf_iconst C dd_Mo_ofKind_9 ?_
      refine gf_iald C dd_Mo_ofKind_10 (show gf_is 81 71 1 0 392 by decide) (by omega) (fun hv10 => ?_)
      refine gf_icmp_ge 43 C dd_Mo_ofKind_11 (by decide) (by omega) (by omega) (fun h11 => ?_) (fun h11 => ?_)
      · skip
        refine gf_iload_n C dd_Mo_ofKind_43 0 rfl ?_
        refine gf_iret C hQ dd_Mo_ofKind_44 (by omega) ?_
        have ej : j = μ 71 0 := by omega
        rw [ej] at hz hzR
        exact ⟨⟨hz, by omega, by omega⟩, rfl⟩
      · skip
        refine gf_iload_n C dd_Mo_ofKind_14 0 rfl ?_
        refine gf_aload_n C dd_Mo_ofKind_15 2 rfl ?_
        refine gf_getA (r := 71) C gf_cl7 fl_Mo_30 dd_Mo_ofKind_16 rfl (show gf_is 81 65 0 7 26 by decide) (by decide) (by decide) ?_
        refine gf_iconst C dd_Mo_ofKind_19 ?_
        refine gf_iload_n C dd_Mo_ofKind_20 1 rfl ?_
        refine gf_iadd C dd_Mo_ofKind_21 ?_
        refine gf_iald C dd_Mo_ofKind_22 (show gf_is 81 71 1 0 392 by decide) (by omega) (fun hv22 => ?_)
        refine gf_iload_n C dd_Mo_ofKind_23 3 rfl ?_
        refine gf_callSi (st := [.int (gf_i z)]) (As := [.int (gf_i (μ 71 (3 + j))), .int (gf_i w)]) C wk_Mo_194 (ct_Mo_isOf (gf_xl X) E (μ 71 (3 + j)) w μ (by omega) (by omega)) rfl ⟨rfl, rfl, rfl, rfl⟩ (Nat.le_of_ble_eq_true rfl) rfl dd_Mo_ofKind_24 (fun r24 m24 hR24 hp24 => ?_)
        have hr24 := hp24.1
        refine gf_pm hp24.2 ?_
        have hr01 : r24 = 0 ∨ r24 = 1 := by
          rcases hr24 with h | h
          · exact Or.inr h.2
          · exact Or.inl h.2
        refine gf_if_eq 34 C dd_Mo_ofKind_27 (by decide) (by omega) (fun h27 => ?_) (fun h27 => ?_)
        · skip
          refine gf_iconst C dd_Mo_ofKind_34 ?_
          refine gf_iadd C dd_Mo_ofKind_35 ?_
          refine gf_nm (fun x36 hx36 => ?_)
          refine gf_istore_n (lv' := [(2, .int (gf_i x36)), (3, .int (gf_i j)), (0, .ref (gf_ad E 65)), (1, .int (gf_i w))]) C dd_Mo_ofKind_36 (by decide) rfl ?_
          obtain ⟨x37, hx37⟩ : ∃ y : Int, y = j + 1 := ⟨_, rfl⟩
          refine gf_iinc (q := 1) (v := x37) (lv' := [(3, .int (gf_i x37)), (2, .int (gf_i x36)), (0, .ref (gf_ad E 65)), (1, .int (gf_i w))]) C dd_Mo_ofKind_37 rfl hx37 (by decide) rfl ?_
          refine gf_goto 4 C dd_Mo_ofKind_40 (by decide) ?_
          refine gf_lsub [1, 0, 2, 3] rfl ?_
          exact ih4_1 x36 x37 (by
                  refine ⟨by omega, by omega, ?_⟩
                  rw [hx37, show (j + 1).toNat = j.toNat + 1 by omega]
                  show _ = pf_cnt _ j.toNat + (if @decide (pf_is (μ 71 (3 + ((j.toNat : Nat) : Int))) w) (Classical.propDecidable _) = true then 1 else 0)
                  rw [show ((j.toNat : Nat) : Int) = j by omega, ← hz, hx36]
                  rcases hr24 with h | h
                  · first | (exfalso; have := h.2; omega) | (rw [if_pos (by simpa using h.1)]; done)
                  · first | (exfalso; have := h.2; omega) | (rw [if_neg (by simpa using h.1)]; done)) (by omega)
        · skip
          refine gf_iconst C dd_Mo_ofKind_30 ?_
          refine gf_goto 35 C dd_Mo_ofKind_31 (by decide) ?_
          refine gf_iadd C dd_Mo_ofKind_35 ?_
          refine gf_nm (fun x36 hx36 => ?_)
          refine gf_istore_n (lv' := [(2, .int (gf_i x36)), (3, .int (gf_i j)), (0, .ref (gf_ad E 65)), (1, .int (gf_i w))]) C dd_Mo_ofKind_36 (by decide) rfl ?_
          obtain ⟨x37, hx37⟩ : ∃ y : Int, y = j + 1 := ⟨_, rfl⟩
          refine gf_iinc (q := 1) (v := x37) (lv' := [(3, .int (gf_i x37)), (2, .int (gf_i x36)), (0, .ref (gf_ad E 65)), (1, .int (gf_i w))]) C dd_Mo_ofKind_37 rfl hx37 (by decide) rfl ?_
          refine gf_goto 4 C dd_Mo_ofKind_40 (by decide) ?_
          refine gf_lsub [1, 0, 2, 3] rfl ?_
          exact ih4_1 x36 x37 (by
                  refine ⟨by omega, by omega, ?_⟩
                  rw [hx37, show (j + 1).toNat = j.toNat + 1 by omega]
                  show _ = pf_cnt _ j.toNat + (if @decide (pf_is (μ 71 (3 + ((j.toNat : Nat) : Int))) w) (Classical.propDecidable _) = true then 1 else 0)
                  rw [show ((j.toNat : Nat) : Int) = j by omega, ← hz, hx36]
                  rcases hr24 with h | h
                  · first | (exfalso; have := h.2; omega) | (rw [if_pos (by simpa using h.1)]; done)
                  · first | (exfalso; have := h.2; omega) | (rw [if_neg (by simpa using h.1)]; done)) (by omega)
  refine gf_lsub [1, 0, 2, 3] rfl ?_
  exact L4_1 _ 0 0 (⟨by omega, by omega, rfl⟩) (Nat.lt_succ_self _)

theorem dd_Mo_allReckon_0 : decode cc_Mo_allReckon 0 = .ok (.iconst 0, 1) := by decide +kernel
theorem dd_Mo_allReckon_1 : decode cc_Mo_allReckon 1 = .ok (.istore_n 1, 1) := by decide +kernel
theorem dd_Mo_allReckon_2 : decode cc_Mo_allReckon 2 = .ok (.iconst 0, 1) := by decide +kernel
theorem dd_Mo_allReckon_3 : decode cc_Mo_allReckon 3 = .ok (.istore_n 2, 1) := by decide +kernel
theorem dd_Mo_allReckon_4 : decode cc_Mo_allReckon 4 = .ok (.iload_n 2, 1) := by decide +kernel
theorem dd_Mo_allReckon_5 : decode cc_Mo_allReckon 5 = .ok (.aload_n 0, 1) := by decide +kernel
theorem dd_Mo_allReckon_6 : decode cc_Mo_allReckon 6 = .ok (.getfield 30, 3) := by decide +kernel
theorem dd_Mo_allReckon_9 : decode cc_Mo_allReckon 9 = .ok (.iconst 0, 1) := by decide +kernel
theorem dd_Mo_allReckon_10 : decode cc_Mo_allReckon 10 = .ok (.iaload, 1) := by decide +kernel
theorem dd_Mo_allReckon_11 : decode cc_Mo_allReckon 11 = .ok (.if_icmp .ge 17, 3) := by decide +kernel
theorem dd_Mo_allReckon_14 : decode cc_Mo_allReckon 14 = .ok (.iload_n 1, 1) := by decide +kernel
theorem dd_Mo_allReckon_15 : decode cc_Mo_allReckon 15 = .ok (.aload_n 0, 1) := by decide +kernel
theorem dd_Mo_allReckon_16 : decode cc_Mo_allReckon 16 = .ok (.iload_n 2, 1) := by decide +kernel
theorem dd_Mo_allReckon_17 : decode cc_Mo_allReckon 17 = .ok (.invokevirtual 162, 3) := by decide +kernel
theorem dd_Mo_allReckon_20 : decode cc_Mo_allReckon 20 = .ok (.iadd, 1) := by decide +kernel
theorem dd_Mo_allReckon_21 : decode cc_Mo_allReckon 21 = .ok (.istore_n 1, 1) := by decide +kernel
theorem dd_Mo_allReckon_22 : decode cc_Mo_allReckon 22 = .ok (.iinc 2 1, 3) := by decide +kernel
theorem dd_Mo_allReckon_25 : decode cc_Mo_allReckon 25 = .ok (.goto (-21), 3) := by decide +kernel
theorem dd_Mo_allReckon_28 : decode cc_Mo_allReckon 28 = .ok (.iload_n 1, 1) := by decide +kernel
theorem dd_Mo_allReckon_29 : decode cc_Mo_allReckon 29 = .ok (.ireturn, 1) := by decide +kernel
set_option maxRecDepth 100000 in
set_option maxHeartbeats 4000000 in
theorem ct_Mo_allReckon (l : Launch) (E : gf_E) (μ : gf_M) (hok : gm_ok μ)  : gf_Mi l E yy_Mo_allReckon cc_Mo_allReckon 3 .int (gf_rm 5 121) 81 gf_ref μ [.ref (gf_ad E 65)] (fun q μ' => (q = pf_sumf (fun j => gm_rk μ j (gm_x μ) (μ 71 1)) (μ 71 0).toNat ∧ 0 ≤ q ∧ q ≤ 70) ∧ gm_sc μ' μ) := by
  refine gf_mi (by decide +kernel) (Nat.le_of_ble_eq_true rfl) (by decide) (fun X Q hlx C hQ => ?_)
  subst hlx
  replace C : gf_C X E cc_Mo_allReckon 3 "GuardFiguresModel" (gf_rm 5 121) := C
  show gf_G X E Q 3 gf_φ μ 0 [(0, .ref (gf_ad E 65))] []
  obtain ⟨hc, hgs, hn, hx, hd⟩ := id hok
  refine gf_iconst C dd_Mo_allReckon_0 ?_
  refine gf_istore_n (lv' := [(1, .int (gf_i 0)), (0, .ref (gf_ad E 65))]) C dd_Mo_allReckon_1 (by decide) rfl ?_
  refine gf_iconst C dd_Mo_allReckon_2 ?_
  refine gf_istore_n (lv' := [(2, .int (gf_i 0)), (1, .int (gf_i 0)), (0, .ref (gf_ad E 65))]) C dd_Mo_allReckon_3 (by decide) rfl ?_
  have L4_1 : ∀ (N : Nat) (z j : Int) (m : gf_M) , (0 ≤ j ∧ j ≤ μ 71 0 ∧ z = pf_sumf (fun j => gm_rk μ j (gm_x μ) (μ 71 1)) j.toNat ∧ (0 ≤ z ∧ z ≤ 10 * j) ∧ gm_sc m μ) → (7 - j).toNat < N → gf_G X E Q 3 gf_φ m 4 [(1, .int (gf_i z)), (2, .int (gf_i j)), (0, .ref (gf_ad E 65))] [] := by
    intro N
    induction N with
    | zero => intro z j m hinv hN; exact absurd hN (Nat.not_lt_zero _)
    | succ N ih4_1 =>
      intro z j m hinv hN
      have hinv0 := hinv
      obtain ⟨hj0, hj1, hz, hzR, hsc⟩ := hinv
      have q71 := gm_sc_71 hsc
      have q0 := q71 0
      have hnx := gm_nx_f q71 hn hx
      refine gf_iload_n C dd_Mo_allReckon_4 1 rfl ?_
      refine gf_aload_n C dd_Mo_allReckon_5 2 rfl ?_
      refine gf_getA (r := 71) C gf_cl7 fl_Mo_30 dd_Mo_allReckon_6 rfl (show gf_is 81 65 0 7 26 by decide) (by decide) (by decide) ?_
      refine gf_iconst C dd_Mo_allReckon_9 ?_
      refine gf_iald C dd_Mo_allReckon_10 (show gf_is 81 71 1 0 392 by decide) (by omega) (fun hv10 => ?_)
      refine gf_icmp_ge 28 C dd_Mo_allReckon_11 (by decide) (by omega) (by omega) (fun h11 => ?_) (fun h11 => ?_)
      · skip
        refine gf_iload_n C dd_Mo_allReckon_28 0 rfl ?_
        refine gf_iret C hQ dd_Mo_allReckon_29 (by omega) ?_
        have ej : j = μ 71 0 := by omega
        rw [ej] at hz
        exact ⟨⟨hz, by omega, by omega⟩, hsc⟩
      · skip
        refine gf_iload_n C dd_Mo_allReckon_14 0 rfl ?_
        refine gf_aload_n C dd_Mo_allReckon_15 2 rfl ?_
        refine gf_iload_n C dd_Mo_allReckon_16 1 rfl ?_
        refine gf_callVi (st := [.int (gf_i z)]) (As := [.int (gf_i j)]) C wk_Mo_162 gf_cl7 (show gf_is 81 65 0 7 26 by decide) (ct_Mo_now (gf_xl X) E j m (gm_okg_f (gm_ok_g hok (by omega)) q71) hnx.1 hnx.2) rfl ⟨rfl, rfl, rfl, rfl⟩ (Nat.le_of_ble_eq_true rfl) rfl dd_Mo_allReckon_17 (fun r17 m17 hR17 hp17 => ?_)
        obtain ⟨hr17, hw17⟩ := hp17
        refine gf_iadd C dd_Mo_allReckon_20 ?_
        refine gf_nm (fun x21 hx21 => ?_)
        refine gf_istore_n (lv' := [(1, .int (gf_i x21)), (2, .int (gf_i j)), (0, .ref (gf_ad E 65))]) C dd_Mo_allReckon_21 (by decide) rfl ?_
        obtain ⟨x22, hx22⟩ : ∃ y : Int, y = j + 1 := ⟨_, rfl⟩
        refine gf_iinc (q := 1) (v := x22) (lv' := [(2, .int (gf_i x22)), (1, .int (gf_i x21)), (0, .ref (gf_ad E 65))]) C dd_Mo_allReckon_22 rfl hx22 (by decide) rfl ?_
        refine gf_goto 4 C dd_Mo_allReckon_25 (by decide) ?_
        refine gf_lsub [1, 0, 2] rfl ?_
        exact ih4_1 x21 x22 m17 (by
                have hre := hr17.1
                rw [gm_rk_f q71, q71, show gm_x m = gm_x μ from funext fun j => q71 _] at hre
                refine ⟨by omega, by omega, ?_, by omega, gm_sc_tr (gm_sc_w hw17) hsc⟩
                rw [hx22, show (j + 1).toNat = j.toNat + 1 by omega]
                show _ = pf_sumf _ j.toNat + gm_rk μ ((j.toNat : Nat) : Int) (gm_x μ) (μ 71 1)
                rw [show ((j.toNat : Nat) : Int) = j by omega, ← hz, ← hre]
                exact hx21) (by omega)
  refine gf_lsub [1, 0, 2] rfl ?_
  exact L4_1 _ 0 0 μ (⟨by omega, by omega, rfl, by omega, gm_sc_rf⟩) (Nat.lt_succ_self _)

theorem dd_Mo_allNotice_0 : decode cc_Mo_allNotice 0 = .ok (.iconst 0, 1) := by decide +kernel
theorem dd_Mo_allNotice_1 : decode cc_Mo_allNotice 1 = .ok (.istore_n 1, 1) := by decide +kernel
theorem dd_Mo_allNotice_2 : decode cc_Mo_allNotice 2 = .ok (.iconst 0, 1) := by decide +kernel
theorem dd_Mo_allNotice_3 : decode cc_Mo_allNotice 3 = .ok (.istore_n 2, 1) := by decide +kernel
theorem dd_Mo_allNotice_4 : decode cc_Mo_allNotice 4 = .ok (.iload_n 2, 1) := by decide +kernel
theorem dd_Mo_allNotice_5 : decode cc_Mo_allNotice 5 = .ok (.aload_n 0, 1) := by decide +kernel
theorem dd_Mo_allNotice_6 : decode cc_Mo_allNotice 6 = .ok (.getfield 30, 3) := by decide +kernel
theorem dd_Mo_allNotice_9 : decode cc_Mo_allNotice 9 = .ok (.iconst 0, 1) := by decide +kernel
theorem dd_Mo_allNotice_10 : decode cc_Mo_allNotice 10 = .ok (.iaload, 1) := by decide +kernel
theorem dd_Mo_allNotice_11 : decode cc_Mo_allNotice 11 = .ok (.if_icmp .ge 27, 3) := by decide +kernel
theorem dd_Mo_allNotice_14 : decode cc_Mo_allNotice 14 = .ok (.iload_n 1, 1) := by decide +kernel
theorem dd_Mo_allNotice_15 : decode cc_Mo_allNotice 15 = .ok (.aload_n 0, 1) := by decide +kernel
theorem dd_Mo_allNotice_16 : decode cc_Mo_allNotice 16 = .ok (.iload_n 2, 1) := by decide +kernel
theorem dd_Mo_allNotice_17 : decode cc_Mo_allNotice 17 = .ok (.invokevirtual 177, 3) := by decide +kernel
theorem dd_Mo_allNotice_20 : decode cc_Mo_allNotice 20 = .ok (.ifCond .ne 9, 3) := by decide +kernel
theorem dd_Mo_allNotice_23 : decode cc_Mo_allNotice 23 = .ok (.iconst 1, 1) := by decide +kernel
theorem dd_Mo_allNotice_24 : decode cc_Mo_allNotice 24 = .ok (.iload_n 2, 1) := by decide +kernel
theorem dd_Mo_allNotice_25 : decode cc_Mo_allNotice 25 = .ok (.ishl, 1) := by decide +kernel
theorem dd_Mo_allNotice_26 : decode cc_Mo_allNotice 26 = .ok (.goto 4, 3) := by decide +kernel
theorem dd_Mo_allNotice_29 : decode cc_Mo_allNotice 29 = .ok (.iconst 0, 1) := by decide +kernel
theorem dd_Mo_allNotice_30 : decode cc_Mo_allNotice 30 = .ok (.ior, 1) := by decide +kernel
theorem dd_Mo_allNotice_31 : decode cc_Mo_allNotice 31 = .ok (.istore_n 1, 1) := by decide +kernel
theorem dd_Mo_allNotice_32 : decode cc_Mo_allNotice 32 = .ok (.iinc 2 1, 3) := by decide +kernel
theorem dd_Mo_allNotice_35 : decode cc_Mo_allNotice 35 = .ok (.goto (-31), 3) := by decide +kernel
theorem dd_Mo_allNotice_38 : decode cc_Mo_allNotice 38 = .ok (.iload_n 1, 1) := by decide +kernel
theorem dd_Mo_allNotice_39 : decode cc_Mo_allNotice 39 = .ok (.ireturn, 1) := by decide +kernel
set_option maxRecDepth 100000 in
set_option maxHeartbeats 4000000 in
theorem ct_Mo_allNotice (l : Launch) (E : gf_E) (μ : gf_M) (hok : gm_ok μ)  : gf_Mi l E yy_Mo_allNotice cc_Mo_allNotice 3 .int (gf_rm 7 169) 81 gf_ref μ [.ref (gf_ad E 65)] (fun q μ' => (q = pf_set (fun j => (gm_uS μ j).isEmpty) (μ 71 0).toNat ∧ 0 ≤ q ∧ q ≤ 128) ∧ gm_sc μ' μ) := by
  refine gf_mi (by decide +kernel) (Nat.le_of_ble_eq_true rfl) (by decide) (fun X Q hlx C hQ => ?_)
  subst hlx
  replace C : gf_C X E cc_Mo_allNotice 3 "GuardFiguresModel" (gf_rm 7 169) := C
  show gf_G X E Q 3 gf_φ μ 0 [(0, .ref (gf_ad E 65))] []
  obtain ⟨hc, hgs, hn, hx, hd⟩ := id hok
  refine gf_iconst C dd_Mo_allNotice_0 ?_
  refine gf_istore_n (lv' := [(1, .int (gf_i 0)), (0, .ref (gf_ad E 65))]) C dd_Mo_allNotice_1 (by decide) rfl ?_
  refine gf_iconst C dd_Mo_allNotice_2 ?_
  refine gf_istore_n (lv' := [(2, .int (gf_i 0)), (1, .int (gf_i 0)), (0, .ref (gf_ad E 65))]) C dd_Mo_allNotice_3 (by decide) rfl ?_
  have L4_1 : ∀ (N : Nat) (z j : Int) (m : gf_M) , (0 ≤ j ∧ j ≤ μ 71 0 ∧ z = pf_set (fun j => (gm_uS μ j).isEmpty) j.toNat ∧ gm_sc m μ) → (7 - j).toNat < N → gf_G X E Q 3 gf_φ m 4 [(1, .int (gf_i z)), (2, .int (gf_i j)), (0, .ref (gf_ad E 65))] [] := by
    intro N
    induction N with
    | zero => intro z j m hinv hN; exact absurd hN (Nat.not_lt_zero _)
    | succ N ih4_1 =>
      intro z j m hinv hN
      have hinv0 := hinv
      obtain ⟨hj0, hj1, hz, hsc⟩ := hinv
      have q71 := gm_sc_71 hsc
      have q0 := q71 0
      have hnx := gm_nx_f q71 hn hx
      have hzR := pf_set_R (fun j => (gm_uS μ j).isEmpty) j.toNat
      rw [← hz] at hzR
      have h27 : (2 : Int) ^ j.toNat ≤ 128 := (show ∀ n : Nat, n < 8 → (2 : Int) ^ n ≤ 128 by decide) j.toNat (by omega)
      refine gf_iload_n C dd_Mo_allNotice_4 1 rfl ?_
      refine gf_aload_n C dd_Mo_allNotice_5 2 rfl ?_
      refine gf_getA (r := 71) C gf_cl7 fl_Mo_30 dd_Mo_allNotice_6 rfl (show gf_is 81 65 0 7 26 by decide) (by decide) (by decide) ?_
      refine gf_iconst C dd_Mo_allNotice_9 ?_
      refine gf_iald C dd_Mo_allNotice_10 (show gf_is 81 71 1 0 392 by decide) (by omega) (fun hv10 => ?_)
      refine gf_icmp_ge 38 C dd_Mo_allNotice_11 (by decide) (by omega) (by omega) (fun h11 => ?_) (fun h11 => ?_)
      · skip
        refine gf_iload_n C dd_Mo_allNotice_38 0 rfl ?_
        refine gf_iret C hQ dd_Mo_allNotice_39 (by omega) ?_
        have ej : j = μ 71 0 := by omega
        rw [ej] at hz hzR h27
        exact ⟨⟨hz, by omega, by omega⟩, hsc⟩
      · skip
        refine gf_iload_n C dd_Mo_allNotice_14 0 rfl ?_
        refine gf_aload_n C dd_Mo_allNotice_15 2 rfl ?_
        refine gf_iload_n C dd_Mo_allNotice_16 1 rfl ?_
        refine gf_callVi (st := [.int (gf_i z)]) (As := [.int (gf_i j)]) C wk_Mo_177 gf_cl7 (show gf_is 81 65 0 7 26 by decide) (ct_Mo_slipsOf (gf_xl X) E j m (gm_okg_f (gm_ok_g hok (by omega)) q71) hnx.1 hnx.2) rfl ⟨rfl, rfl, rfl, rfl⟩ (Nat.le_of_ble_eq_true rfl) rfl dd_Mo_allNotice_17 (fun r17 m17 hR17 hp17 => ?_)
        obtain ⟨hr17, hs17⟩ := hp17
        have hsh := gf_shl1 (i := j) (by omega)
        refine gf_if_ne 29 C dd_Mo_allNotice_20 (by decide) (by omega) (fun h20 => ?_) (fun h20 => ?_)
        · skip
          refine gf_iconst C dd_Mo_allNotice_29 ?_
          refine gf_ior C dd_Mo_allNotice_30 (by omega) ?_
          refine gf_nm (fun x31 hx31 => ?_)
          refine gf_istore_n (lv' := [(1, .int (gf_i x31)), (2, .int (gf_i j)), (0, .ref (gf_ad E 65))]) C dd_Mo_allNotice_31 (by decide) rfl ?_
          obtain ⟨x32, hx32⟩ : ∃ y : Int, y = j + 1 := ⟨_, rfl⟩
          refine gf_iinc (q := 1) (v := x32) (lv' := [(2, .int (gf_i x32)), (1, .int (gf_i x31)), (0, .ref (gf_ad E 65))]) C dd_Mo_allNotice_32 rfl hx32 (by decide) rfl ?_
          refine gf_goto 4 C dd_Mo_allNotice_35 (by decide) ?_
          refine gf_lsub [1, 0, 2] rfl ?_
          exact ih4_1 x31 x32 m17 (by
                  have hre := hr17.1
                  rw [gm_uS_f q71] at hre
                  have hem : (gm_uS μ j).isEmpty = true ↔ r17 = 0 := by
                    rw [List.isEmpty_iff, ← List.length_eq_zero_iff]
                    omega
                  refine ⟨by omega, by omega, ?_, gm_sc_tr hs17 hsc⟩
                  rw [hx32, show (j + 1).toNat = j.toNat + 1 by omega]
                  show _ = if (gm_uS μ ((j.toNat : Nat) : Int)).isEmpty = true then gf_or (pf_set _ j.toNat) (gf_shl 1 ((j.toNat : Nat) : Int)) else pf_set _ j.toNat
                  rw [show ((j.toNat : Nat) : Int) = j by omega, ← hz]
                  first
                  | (rw [if_pos (hem.mpr (by omega))]; exact hx31)
                  | (rw [if_neg (fun h => by have := hem.mp h; omega), hx31]; exact gf_or_0 (by omega))) (by omega)
        · skip
          refine gf_iconst C dd_Mo_allNotice_23 ?_
          refine gf_iload_n C dd_Mo_allNotice_24 1 rfl ?_
          refine gf_ishl C dd_Mo_allNotice_25 (by omega) ?_
          refine gf_goto 30 C dd_Mo_allNotice_26 (by decide) ?_
          refine gf_ior C dd_Mo_allNotice_30 (by omega) ?_
          refine gf_nm (fun x31 hx31 => ?_)
          refine gf_istore_n (lv' := [(1, .int (gf_i x31)), (2, .int (gf_i j)), (0, .ref (gf_ad E 65))]) C dd_Mo_allNotice_31 (by decide) rfl ?_
          obtain ⟨x32, hx32⟩ : ∃ y : Int, y = j + 1 := ⟨_, rfl⟩
          refine gf_iinc (q := 1) (v := x32) (lv' := [(2, .int (gf_i x32)), (1, .int (gf_i x31)), (0, .ref (gf_ad E 65))]) C dd_Mo_allNotice_32 rfl hx32 (by decide) rfl ?_
          refine gf_goto 4 C dd_Mo_allNotice_35 (by decide) ?_
          refine gf_lsub [1, 0, 2] rfl ?_
          exact ih4_1 x31 x32 m17 (by
                  have hre := hr17.1
                  rw [gm_uS_f q71] at hre
                  have hem : (gm_uS μ j).isEmpty = true ↔ r17 = 0 := by
                    rw [List.isEmpty_iff, ← List.length_eq_zero_iff]
                    omega
                  refine ⟨by omega, by omega, ?_, gm_sc_tr hs17 hsc⟩
                  rw [hx32, show (j + 1).toNat = j.toNat + 1 by omega]
                  show _ = if (gm_uS μ ((j.toNat : Nat) : Int)).isEmpty = true then gf_or (pf_set _ j.toNat) (gf_shl 1 ((j.toNat : Nat) : Int)) else pf_set _ j.toNat
                  rw [show ((j.toNat : Nat) : Int) = j by omega, ← hz]
                  first
                  | (rw [if_pos (hem.mpr (by omega))]; exact hx31)
                  | (rw [if_neg (fun h => by have := hem.mp h; omega), hx31]; exact gf_or_0 (by omega))) (by omega)
  refine gf_lsub [1, 0, 2] rfl ?_
  exact L4_1 _ 0 0 μ (⟨by omega, by omega, rfl, gm_sc_rf⟩) (Nat.lt_succ_self _)

theorem dd_Mo_count_0 : decode cc_Mo_count 0 = .ok (.iload_n 1, 1) := by decide +kernel
theorem dd_Mo_count_1 : decode cc_Mo_count 1 = .ok (.tableswitch 142 0 10 #[59, 66, 73, 80, 96, 101, 106, 114, 122, 130, 136], 59) := by decide +kernel
theorem dd_Mo_count_60 : decode cc_Mo_count 60 = .ok (.aload_n 0, 1) := by decide +kernel
theorem dd_Mo_count_61 : decode cc_Mo_count 61 = .ok (.getfield 30, 3) := by decide +kernel
theorem dd_Mo_count_64 : decode cc_Mo_count 64 = .ok (.iconst 0, 1) := by decide +kernel
theorem dd_Mo_count_65 : decode cc_Mo_count 65 = .ok (.iaload, 1) := by decide +kernel
theorem dd_Mo_count_66 : decode cc_Mo_count 66 = .ok (.ireturn, 1) := by decide +kernel
theorem dd_Mo_count_67 : decode cc_Mo_count 67 = .ok (.aload_n 0, 1) := by decide +kernel
theorem dd_Mo_count_68 : decode cc_Mo_count 68 = .ok (.getfield 30, 3) := by decide +kernel
theorem dd_Mo_count_71 : decode cc_Mo_count 71 = .ok (.iconst 1, 1) := by decide +kernel
theorem dd_Mo_count_72 : decode cc_Mo_count 72 = .ok (.iaload, 1) := by decide +kernel
theorem dd_Mo_count_73 : decode cc_Mo_count 73 = .ok (.ireturn, 1) := by decide +kernel
theorem dd_Mo_count_74 : decode cc_Mo_count 74 = .ok (.aload_n 0, 1) := by decide +kernel
theorem dd_Mo_count_75 : decode cc_Mo_count 75 = .ok (.getfield 30, 3) := by decide +kernel
theorem dd_Mo_count_78 : decode cc_Mo_count 78 = .ok (.iconst 2, 1) := by decide +kernel
theorem dd_Mo_count_79 : decode cc_Mo_count 79 = .ok (.iaload, 1) := by decide +kernel
theorem dd_Mo_count_80 : decode cc_Mo_count 80 = .ok (.ireturn, 1) := by decide +kernel
theorem dd_Mo_count_81 : decode cc_Mo_count 81 = .ok (.aload_n 0, 1) := by decide +kernel
theorem dd_Mo_count_82 : decode cc_Mo_count 82 = .ok (.invokevirtual 149, 3) := by decide +kernel
theorem dd_Mo_count_85 : decode cc_Mo_count 85 = .ok (.aload_n 0, 1) := by decide +kernel
theorem dd_Mo_count_86 : decode cc_Mo_count 86 = .ok (.getfield 36, 3) := by decide +kernel
theorem dd_Mo_count_89 : decode cc_Mo_count 89 = .ok (.aload_n 0, 1) := by decide +kernel
theorem dd_Mo_count_90 : decode cc_Mo_count 90 = .ok (.getfield 146, 3) := by decide +kernel
theorem dd_Mo_count_93 : decode cc_Mo_count 93 = .ok (.invokestatic 232, 3) := by decide +kernel
theorem dd_Mo_count_96 : decode cc_Mo_count 96 = .ok (.ireturn, 1) := by decide +kernel
theorem dd_Mo_count_97 : decode cc_Mo_count 97 = .ok (.aload_n 0, 1) := by decide +kernel
theorem dd_Mo_count_98 : decode cc_Mo_count 98 = .ok (.invokevirtual 276, 3) := by decide +kernel
theorem dd_Mo_count_101 : decode cc_Mo_count 101 = .ok (.ireturn, 1) := by decide +kernel
theorem dd_Mo_count_102 : decode cc_Mo_count 102 = .ok (.aload_n 0, 1) := by decide +kernel
theorem dd_Mo_count_103 : decode cc_Mo_count 103 = .ok (.invokevirtual 279, 3) := by decide +kernel
theorem dd_Mo_count_106 : decode cc_Mo_count 106 = .ok (.ireturn, 1) := by decide +kernel
theorem dd_Mo_count_107 : decode cc_Mo_count 107 = .ok (.aload_n 0, 1) := by decide +kernel
theorem dd_Mo_count_108 : decode cc_Mo_count 108 = .ok (.getfield 7, 3) := by decide +kernel
theorem dd_Mo_count_111 : decode cc_Mo_count 111 = .ok (.invokestatic 282, 3) := by decide +kernel
theorem dd_Mo_count_114 : decode cc_Mo_count 114 = .ok (.ireturn, 1) := by decide +kernel
theorem dd_Mo_count_115 : decode cc_Mo_count 115 = .ok (.aload_n 0, 1) := by decide +kernel
theorem dd_Mo_count_116 : decode cc_Mo_count 116 = .ok (.getfield 16, 3) := by decide +kernel
theorem dd_Mo_count_119 : decode cc_Mo_count 119 = .ok (.invokestatic 282, 3) := by decide +kernel
theorem dd_Mo_count_122 : decode cc_Mo_count 122 = .ok (.ireturn, 1) := by decide +kernel
theorem dd_Mo_count_123 : decode cc_Mo_count 123 = .ok (.aload_n 0, 1) := by decide +kernel
theorem dd_Mo_count_124 : decode cc_Mo_count 124 = .ok (.getfield 39, 3) := by decide +kernel
theorem dd_Mo_count_127 : decode cc_Mo_count 127 = .ok (.invokestatic 282, 3) := by decide +kernel
theorem dd_Mo_count_130 : decode cc_Mo_count 130 = .ok (.ireturn, 1) := by decide +kernel
theorem dd_Mo_count_131 : decode cc_Mo_count 131 = .ok (.aload_n 0, 1) := by decide +kernel
theorem dd_Mo_count_132 : decode cc_Mo_count 132 = .ok (.iconst 1, 1) := by decide +kernel
theorem dd_Mo_count_133 : decode cc_Mo_count 133 = .ok (.invokevirtual 286, 3) := by decide +kernel
theorem dd_Mo_count_136 : decode cc_Mo_count 136 = .ok (.ireturn, 1) := by decide +kernel
theorem dd_Mo_count_137 : decode cc_Mo_count 137 = .ok (.aload_n 0, 1) := by decide +kernel
theorem dd_Mo_count_138 : decode cc_Mo_count 138 = .ok (.iconst 2, 1) := by decide +kernel
theorem dd_Mo_count_139 : decode cc_Mo_count 139 = .ok (.invokevirtual 286, 3) := by decide +kernel
theorem dd_Mo_count_142 : decode cc_Mo_count 142 = .ok (.ireturn, 1) := by decide +kernel
theorem dd_Mo_count_143 : decode cc_Mo_count 143 = .ok (.iconst (-1), 1) := by decide +kernel
theorem dd_Mo_count_144 : decode cc_Mo_count 144 = .ok (.ireturn, 1) := by decide +kernel
set_option maxRecDepth 100000 in
set_option maxHeartbeats 4000000 in
theorem ct_Mo_count (l : Launch) (E : gf_E) (w : Int) (μ : gf_M) (hw : gf_R w) (hok : gm_ok μ)  : gf_Mi l E yy_Mo_count cc_Mo_count 2 .int (gf_rm 8 191) 81 gf_ref μ [.ref (gf_ad E 65), .int (gf_i w)] (fun q μ' => (¬ (0 ≤ w ∧ w < 11) → q = -1 ∧ μ' = μ) ∧ (0 ≤ w ∧ w < 11 → (q = gm_cn μ w ∧ 0 ≤ q ∧ q ≤ 100000000) ∧ gm_sc μ' μ)) := by
  refine gf_mi (by decide +kernel) (Nat.le_of_ble_eq_true rfl) (by decide) (fun X Q hlx C hQ => ?_)
  subst hlx
  replace C : gf_C X E cc_Mo_count 2 "GuardFiguresModel" (gf_rm 8 191) := C
  show gf_G X E Q 2 gf_φ μ 0 [(0, .ref (gf_ad E 65)), (1, .int (gf_i w))] []
  obtain ⟨hc, hgs, hn, hx, hd⟩ := id hok
  refine gf_iload_n C dd_Mo_count_0 1 rfl ?_
  rcases (show w = 0 ∨ w = 1 ∨ w = 2 ∨ w = 3 ∨ w = 4 ∨ w = 5 ∨ w = 6 ∨ w = 7 ∨ w = 8 ∨ w = 9 ∨ w = 10 ∨ ¬ (0 ≤ w ∧ w ≤ 10) by omega) with hsw1 | hsw1 | hsw1 | hsw1 | hsw1 | hsw1 | hsw1 | hsw1 | hsw1 | hsw1 | hsw1 | hsw1
  · refine gf_cv hsw1 ?_
    refine gf_tblI 60 C dd_Mo_count_1 (by decide) (by decide) (by decide) rfl (by decide) ?_
    refine gf_aload_n C dd_Mo_count_60 0 rfl ?_
    refine gf_getA (r := 71) C gf_cl7 fl_Mo_30 dd_Mo_count_61 rfl (show gf_is 81 65 0 7 26 by decide) (by decide) (by decide) ?_
    refine gf_iconst C dd_Mo_count_64 ?_
    refine gf_iald C dd_Mo_count_65 (show gf_is 81 71 1 0 392 by decide) (by omega) (fun hv65 => ?_)
    refine gf_iret C hQ dd_Mo_count_66 (by omega) ?_
    refine ⟨fun h => absurd h (by omega), fun _ => ⟨⟨?_, by omega, by omega⟩, gm_sc_rf⟩⟩
    unfold gm_cn
    first | (rw [if_pos hsw1]; done)
  · refine gf_cv hsw1 ?_
    refine gf_tblI 67 C dd_Mo_count_1 (by decide) (by decide) (by decide) rfl (by decide) ?_
    refine gf_aload_n C dd_Mo_count_67 0 rfl ?_
    refine gf_getA (r := 71) C gf_cl7 fl_Mo_30 dd_Mo_count_68 rfl (show gf_is 81 65 0 7 26 by decide) (by decide) (by decide) ?_
    refine gf_iconst C dd_Mo_count_71 ?_
    refine gf_iald C dd_Mo_count_72 (show gf_is 81 71 1 0 392 by decide) (by omega) (fun hv72 => ?_)
    refine gf_iret C hQ dd_Mo_count_73 (by omega) ?_
    refine ⟨fun h => absurd h (by omega), fun _ => ⟨⟨?_, by omega, by omega⟩, gm_sc_rf⟩⟩
    unfold gm_cn
    first | (rw [if_neg (by omega)]; rw [if_pos hsw1]; done)
  · refine gf_cv hsw1 ?_
    refine gf_tblI 74 C dd_Mo_count_1 (by decide) (by decide) (by decide) rfl (by decide) ?_
    refine gf_aload_n C dd_Mo_count_74 0 rfl ?_
    refine gf_getA (r := 71) C gf_cl7 fl_Mo_30 dd_Mo_count_75 rfl (show gf_is 81 65 0 7 26 by decide) (by decide) (by decide) ?_
    refine gf_iconst C dd_Mo_count_78 ?_
    refine gf_iald C dd_Mo_count_79 (show gf_is 81 71 1 0 392 by decide) (by omega) (fun hv79 => ?_)
    refine gf_iret C hQ dd_Mo_count_80 (by omega) ?_
    refine ⟨fun h => absurd h (by omega), fun _ => ⟨⟨?_, by omega, by omega⟩, gm_sc_rf⟩⟩
    unfold gm_cn
    first | (rw [if_neg (by omega)]; rw [if_neg (by omega)]; rw [if_pos hsw1]; done)
  · refine gf_cv hsw1 ?_
    refine gf_tblI 81 C dd_Mo_count_1 (by decide) (by decide) (by decide) rfl (by decide) ?_
    refine gf_aload_n C dd_Mo_count_81 0 rfl ?_
    refine gf_callVv (st := []) (As := []) C wk_Mo_149 gf_cl7 (show gf_is 81 65 0 7 26 by decide) (ct_Mo_write (gf_xl X) E μ (by omega)) rfl ⟨rfl, rfl, rfl, rfl⟩ (Nat.le_of_ble_eq_true rfl) rfl dd_Mo_count_82 (fun m82 hp82 => ?_)
    have w15 := hp82.1
    refine gf_aload_n C dd_Mo_count_85 0 rfl ?_
    refine gf_getA (r := 73) C gf_cl7 fl_Mo_36 dd_Mo_count_86 rfl (show gf_is 81 65 0 7 26 by decide) (by decide) (by decide) ?_
    refine gf_aload_n C dd_Mo_count_89 0 rfl ?_
    refine gf_getI (z := 15) C gf_cl7 fl_Mo_146 dd_Mo_count_90 rfl rfl (show gf_is 81 65 0 7 26 by decide) (fun hv90 => ?_)
    refine gf_callSi (st := []) (As := [.ref (gf_ad E 73), .int (gf_i (m82 65 15))]) C wk_Mo_232 (ct_Mo_asNumber (gf_xl X) E 73 (m82 65 15) 8 m82 (show gf_is 81 73 1 0 8 by decide) (by omega) (by rw [w15]; exact gm_wr_x hp82 hn hx)) rfl ⟨rfl, rfl, rfl, rfl⟩ (Nat.le_of_ble_eq_true rfl) rfl dd_Mo_count_93 (fun r93 m93 hR93 hp93 => ?_)
    have hr93 := hp93.1
    refine gf_pm hp93.2 ?_
    refine gf_iret C hQ dd_Mo_count_96 (by omega) ?_
    refine ⟨fun h => absurd h (by omega), fun _ => ⟨⟨?_, by omega, by omega⟩, gm_sc_w hp82⟩⟩
    unfold gm_cn
    rw [if_neg (by omega), if_neg (by omega), if_neg (by omega), if_pos hsw1, hr93.1, hp82.1]
    exact pf_num_congr _ (fun j h0 h1 => hp82.2.1 j h0 (by omega))
  · refine gf_cv hsw1 ?_
    refine gf_tblI 97 C dd_Mo_count_1 (by decide) (by decide) (by decide) rfl (by decide) ?_
    refine gf_aload_n C dd_Mo_count_97 0 rfl ?_
    refine gf_callVi (st := []) (As := []) C wk_Mo_276 gf_cl7 (show gf_is 81 65 0 7 26 by decide) (ct_Mo_allReckon (gf_xl X) E μ (hok)) rfl ⟨rfl, rfl, rfl, rfl⟩ (Nat.le_of_ble_eq_true rfl) rfl dd_Mo_count_98 (fun r98 m98 hR98 hp98 => ?_)
    obtain ⟨hr98, hs98⟩ := hp98
    refine gf_iret C hQ dd_Mo_count_101 (by omega) ?_
    refine ⟨fun h => absurd h (by omega), fun _ => ⟨⟨?_, by omega, by omega⟩, hs98⟩⟩
    unfold gm_cn
    rw [if_neg (by omega), if_neg (by omega), if_neg (by omega), if_neg (by omega), if_pos hsw1]
    exact hr98.1
  · refine gf_cv hsw1 ?_
    refine gf_tblI 102 C dd_Mo_count_1 (by decide) (by decide) (by decide) rfl (by decide) ?_
    refine gf_aload_n C dd_Mo_count_102 0 rfl ?_
    refine gf_callVi (st := []) (As := []) C wk_Mo_279 gf_cl7 (show gf_is 81 65 0 7 26 by decide) (ct_Mo_allNotice (gf_xl X) E μ (hok)) rfl ⟨rfl, rfl, rfl, rfl⟩ (Nat.le_of_ble_eq_true rfl) rfl dd_Mo_count_103 (fun r103 m103 hR103 hp103 => ?_)
    obtain ⟨hr103, hs103⟩ := hp103
    refine gf_iret C hQ dd_Mo_count_106 (by omega) ?_
    refine ⟨fun h => absurd h (by omega), fun _ => ⟨⟨?_, by omega, by omega⟩, hs103⟩⟩
    unfold gm_cn
    rw [if_neg (by omega), if_neg (by omega), if_neg (by omega), if_neg (by omega), if_neg (by omega), if_pos hsw1]
    exact hr103.1
  · refine gf_cv hsw1 ?_
    refine gf_tblI 107 C dd_Mo_count_1 (by decide) (by decide) (by decide) rfl (by decide) ?_
    refine gf_aload_n C dd_Mo_count_107 0 rfl ?_
    refine gf_getA (r := 66) C gf_cl7 fl_Mo_7 dd_Mo_count_108 rfl (show gf_is 81 65 0 7 26 by decide) (by decide) (by decide) ?_
    refine gf_callSi (st := []) (As := [.ref (gf_ad E 66)]) C wk_Mo_282 (ct_Mo_thereOf (gf_xl X) E 66 6 μ ((show gf_is 81 66 1 0 6 by decide)) (by decide)) rfl ⟨rfl, rfl, rfl, rfl⟩ (Nat.le_of_ble_eq_true rfl) rfl dd_Mo_count_111 (fun r111 m111 hR111 hp111 => ?_)
    have hr111 := hp111.1
    refine gf_pm hp111.2 ?_
    refine gf_iret C hQ dd_Mo_count_114 (by omega) ?_
    refine ⟨fun h => absurd h (by omega), fun _ => ⟨⟨?_, by omega, by omega⟩, gm_sc_rf⟩⟩
    unfold gm_cn
    rw [if_neg (by omega), if_neg (by omega), if_neg (by omega), if_neg (by omega), if_neg (by omega), if_neg (by omega), if_pos hsw1]
    exact hr111.1
  · refine gf_cv hsw1 ?_
    refine gf_tblI 115 C dd_Mo_count_1 (by decide) (by decide) (by decide) rfl (by decide) ?_
    refine gf_aload_n C dd_Mo_count_115 0 rfl ?_
    refine gf_getA (r := 68) C gf_cl7 fl_Mo_16 dd_Mo_count_116 rfl (show gf_is 81 65 0 7 26 by decide) (by decide) (by decide) ?_
    refine gf_callSi (st := []) (As := [.ref (gf_ad E 68)]) C wk_Mo_282 (ct_Mo_thereOf (gf_xl X) E 68 4 μ ((show gf_is 81 68 1 0 4 by decide)) (by decide)) rfl ⟨rfl, rfl, rfl, rfl⟩ (Nat.le_of_ble_eq_true rfl) rfl dd_Mo_count_119 (fun r119 m119 hR119 hp119 => ?_)
    have hr119 := hp119.1
    refine gf_pm hp119.2 ?_
    refine gf_iret C hQ dd_Mo_count_122 (by omega) ?_
    refine ⟨fun h => absurd h (by omega), fun _ => ⟨⟨?_, by omega, by omega⟩, gm_sc_rf⟩⟩
    unfold gm_cn
    rw [if_neg (by omega), if_neg (by omega), if_neg (by omega), if_neg (by omega), if_neg (by omega), if_neg (by omega), if_neg (by omega), if_pos hsw1]
    exact hr119.1
  · refine gf_cv hsw1 ?_
    refine gf_tblI 123 C dd_Mo_count_1 (by decide) (by decide) (by decide) rfl (by decide) ?_
    refine gf_aload_n C dd_Mo_count_123 0 rfl ?_
    refine gf_getA (r := 74) C gf_cl7 fl_Mo_39 dd_Mo_count_124 rfl (show gf_is 81 65 0 7 26 by decide) (by decide) (by decide) ?_
    refine gf_callSi (st := []) (As := [.ref (gf_ad E 74)]) C wk_Mo_282 (ct_Mo_thereOf (gf_xl X) E 74 3 μ ((show gf_is 81 74 1 0 3 by decide)) (by decide)) rfl ⟨rfl, rfl, rfl, rfl⟩ (Nat.le_of_ble_eq_true rfl) rfl dd_Mo_count_127 (fun r127 m127 hR127 hp127 => ?_)
    have hr127 := hp127.1
    refine gf_pm hp127.2 ?_
    refine gf_iret C hQ dd_Mo_count_130 (by omega) ?_
    refine ⟨fun h => absurd h (by omega), fun _ => ⟨⟨?_, by omega, by omega⟩, gm_sc_rf⟩⟩
    unfold gm_cn
    rw [if_neg (by omega), if_neg (by omega), if_neg (by omega), if_neg (by omega), if_neg (by omega), if_neg (by omega), if_neg (by omega), if_neg (by omega), if_pos hsw1]
    exact hr127.1
  · refine gf_cv hsw1 ?_
    refine gf_tblI 131 C dd_Mo_count_1 (by decide) (by decide) (by decide) rfl (by decide) ?_
    refine gf_aload_n C dd_Mo_count_131 0 rfl ?_
    refine gf_iconst C dd_Mo_count_132 ?_
    refine gf_callVi (st := []) (As := [.int (gf_i 1)]) C wk_Mo_286 gf_cl7 (show gf_is 81 65 0 7 26 by decide) (ct_Mo_ofKind (gf_xl X) E 1 μ (by omega) (by omega)) rfl ⟨rfl, rfl, rfl, rfl⟩ (Nat.le_of_ble_eq_true rfl) rfl dd_Mo_count_133 (fun r133 m133 hR133 hp133 => ?_)
    have hr133 := hp133.1
    refine gf_pm hp133.2 ?_
    refine gf_iret C hQ dd_Mo_count_136 (by omega) ?_
    refine ⟨fun h => absurd h (by omega), fun _ => ⟨⟨?_, by omega, by omega⟩, gm_sc_rf⟩⟩
    unfold gm_cn
    rw [if_neg (by omega), if_neg (by omega), if_neg (by omega), if_neg (by omega), if_neg (by omega), if_neg (by omega), if_neg (by omega), if_neg (by omega), if_neg (by omega), if_pos hsw1]
    exact hr133.1
  · refine gf_cv hsw1 ?_
    refine gf_tblI 137 C dd_Mo_count_1 (by decide) (by decide) (by decide) rfl (by decide) ?_
    refine gf_aload_n C dd_Mo_count_137 0 rfl ?_
    refine gf_iconst C dd_Mo_count_138 ?_
    refine gf_callVi (st := []) (As := [.int (gf_i 2)]) C wk_Mo_286 gf_cl7 (show gf_is 81 65 0 7 26 by decide) (ct_Mo_ofKind (gf_xl X) E 2 μ (by omega) (by omega)) rfl ⟨rfl, rfl, rfl, rfl⟩ (Nat.le_of_ble_eq_true rfl) rfl dd_Mo_count_139 (fun r139 m139 hR139 hp139 => ?_)
    have hr139 := hp139.1
    refine gf_pm hp139.2 ?_
    refine gf_iret C hQ dd_Mo_count_142 (by omega) ?_
    refine ⟨fun h => absurd h (by omega), fun _ => ⟨⟨?_, by omega, by omega⟩, gm_sc_rf⟩⟩
    unfold gm_cn
    rw [if_neg (by omega), if_neg (by omega), if_neg (by omega), if_neg (by omega), if_neg (by omega), if_neg (by omega), if_neg (by omega), if_neg (by omega), if_neg (by omega), if_neg (by omega)]
    exact hr139.1
  · refine gf_tblO 143 C dd_Mo_count_1 (by omega) (by omega) (by decide) ?_
    refine gf_iconst C dd_Mo_count_143 ?_
    refine gf_iret C hQ dd_Mo_count_144 (by omega) ?_
    exact ⟨fun _ => ⟨rfl, rfl⟩, fun h => absurd h (by omega)⟩
