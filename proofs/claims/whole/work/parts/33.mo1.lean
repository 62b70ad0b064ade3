/-! the reference: rows and texts -/
def gm_fd (μ : gf_M) (f : Int) : gf_M := gf_up (gf_up μ 65 7 f) 70 f (gf_w (μ 70 f + 1))
def gm_tl (μ : gf_M) (v : Int) : gf_M := gf_up μ 65 4 v
def gm_new (μ μ' : gf_M) (s p w r n v : Int) : Prop := μ' s r = n ∧ (∀ j : Int, 0 ≤ j → j < n → μ' p (w * r + j) = v) ∧ ∀ a b : Int, ¬ (a = s ∧ b = r) → ¬ (a = p ∧ w * r ≤ b ∧ b < w * r + n) → μ' a b = μ a b
theorem gf_cp_0 (μ : gf_M) (k x k2 y : Int) : gf_cp μ k x k2 y 0 = μ := by
  funext a b
  unfold gf_cp
  rw [if_neg (by omega)]
theorem gf_cp_up {μ : gf_M} {x y z : Int} (hz : 0 ≤ z) (h : ¬ (y ≤ x + z ∧ x + z < y + z)) : gf_up (gf_cp μ 67 x 67 y z) 67 (y + z) (gf_cp μ 67 x 67 y z 67 (x + z)) = gf_cp μ 67 x 67 y (z + 1) := by
  funext a b
  by_cases e : a = 67 ∧ b = y + z
  · rw [e.1, e.2, gf_up_s]
    unfold gf_cp
    rw [if_neg (by omega), if_pos (by omega), show x + (y + z - y) = x + z by omega]
  · rw [gf_up_o e]
    unfold gf_cp
    by_cases h2 : a = 67 ∧ y ≤ b ∧ b < y + z
    · rw [if_pos h2, if_pos (by omega)]
    · rw [if_neg h2, if_neg (by omega)]
theorem gf_cp_dn {μ : gf_M} {x y z : Int} (hz : 0 ≤ z) (h : ¬ (y ≤ x - 1 ∧ x - 1 < y + z)) : gf_up (gf_cp μ 67 x 67 y z) 67 (y - 1) (gf_cp μ 67 x 67 y z 67 (x - 1)) = gf_cp μ 67 (x - 1) 67 (y - 1) (z + 1) := by
  funext a b
  by_cases e : a = 67 ∧ b = y - 1
  · rw [e.1, e.2, gf_up_s]
    unfold gf_cp
    rw [if_neg (by omega), if_pos (by omega), show x - 1 + (y - 1 - (y - 1)) = x - 1 by omega]
  · rw [gf_up_o e]
    unfold gf_cp
    by_cases h2 : a = 67 ∧ y ≤ b ∧ b < y + z
    · rw [if_pos h2, if_pos (by omega), show x - 1 + (b - (y - 1)) = x + (b - y) by omega]
    · rw [if_neg h2, if_neg (by omega)]
theorem dd_Mo_in_0 : decode cc_Mo_in 0 = .ok (.lload_n 0, 1) := by decide +kernel
theorem dd_Mo_in_1 : decode cc_Mo_in 1 = .ok (.lload_n 2, 1) := by decide +kernel
theorem dd_Mo_in_2 : decode cc_Mo_in 2 = .ok (.lcmp, 1) := by decide +kernel
theorem dd_Mo_in_3 : decode cc_Mo_in 3 = .ok (.ifCond .lt 14, 3) := by decide +kernel
theorem dd_Mo_in_6 : decode cc_Mo_in 6 = .ok (.lload_n 0, 1) := by decide +kernel
theorem dd_Mo_in_7 : decode cc_Mo_in 7 = .ok (.lload 4, 2) := by decide +kernel
theorem dd_Mo_in_9 : decode cc_Mo_in 9 = .ok (.lcmp, 1) := by decide +kernel
theorem dd_Mo_in_10 : decode cc_Mo_in 10 = .ok (.ifCond .gt 7, 3) := by decide +kernel
theorem dd_Mo_in_13 : decode cc_Mo_in 13 = .ok (.iconst 1, 1) := by decide +kernel
theorem dd_Mo_in_14 : decode cc_Mo_in 14 = .ok (.goto 4, 3) := by decide +kernel
theorem dd_Mo_in_17 : decode cc_Mo_in 17 = .ok (.iconst 0, 1) := by decide +kernel
theorem dd_Mo_in_18 : decode cc_Mo_in 18 = .ok (.ireturn, 1) := by decide +kernel
set_option maxRecDepth 100000 in
set_option maxHeartbeats 4000000 in
theorem ct_Mo_in (l : Launch) (E : gf_E) (v a b : Int) (μ : gf_M) (hv : gf_RL v) (ha : gf_RL a) (hb : gf_RL b) : gf_Mi l E yy_Mo_in cc_Mo_in 6 .boolean (gf_rm 0 0) 81 gf_ref μ [.long (gf_l v), .long (gf_l a), .long (gf_l b)] (fun q μ' => ((a ≤ v ∧ v ≤ b ∧ q = 1) ∨ (¬ (a ≤ v ∧ v ≤ b) ∧ q = 0)) ∧ μ' = μ) := by
  refine gf_mi (by decide +kernel) (Nat.le_of_ble_eq_true rfl) (by decide) (fun X Q hlx C hQ => ?_)
  subst hlx
  replace C : gf_C X E cc_Mo_in 6 "GuardFiguresModel" (gf_rm 0 0) := C
  show gf_G X E Q 6 gf_φ μ 0 [(0, .long (gf_l v)), (2, .long (gf_l a)), (4, .long (gf_l b))] []
  refine gf_lload_n C dd_Mo_in_0 0 rfl ?_
  refine gf_lload_n C dd_Mo_in_1 1 rfl ?_
  refine gf_lcmp C dd_Mo_in_2 (by omega) (by omega) (fun c2 hc2a hc2b hc2c => ?_)
  refine gf_if_lt 17 C dd_Mo_in_3 (by decide) (by omega) (fun h3 => ?_) (fun h3 => ?_)
  · skip
    refine gf_iconst C dd_Mo_in_17 ?_
    refine gf_zret C hQ dd_Mo_in_18 (by omega) ?_
    exact ⟨by omega, rfl⟩
  · skip
    refine gf_lload_n C dd_Mo_in_6 0 rfl ?_
    refine gf_lload C dd_Mo_in_7 2 rfl ?_
    refine gf_lcmp C dd_Mo_in_9 (by omega) (by omega) (fun c9 hc9a hc9b hc9c => ?_)
    refine gf_if_gt 17 C dd_Mo_in_10 (by decide) (by omega) (fun h10 => ?_) (fun h10 => ?_)
    · skip
      refine gf_iconst C dd_Mo_in_17 ?_
      refine gf_zret C hQ dd_Mo_in_18 (by omega) ?_
      exact ⟨by omega, rfl⟩
    · skip
      refine gf_iconst C dd_Mo_in_13 ?_
      refine gf_goto 18 C dd_Mo_in_14 (by decide) ?_
      refine gf_zret C hQ dd_Mo_in_18 (by omega) ?_
      exact ⟨by omega, rfl⟩

theorem dd_Mo_isRow_0 : decode cc_Mo_isRow 0 = .ok (.iload_n 0, 1) := by decide +kernel
theorem dd_Mo_isRow_1 : decode cc_Mo_isRow 1 = .ok (.i2l, 1) := by decide +kernel
theorem dd_Mo_isRow_2 : decode cc_Mo_isRow 2 = .ok (.lconst 0, 1) := by decide +kernel
theorem dd_Mo_isRow_3 : decode cc_Mo_isRow 3 = .ok (.ldc2_w 67, 3) := by decide +kernel
theorem dd_Mo_isRow_6 : decode cc_Mo_isRow 6 = .ok (.invokestatic 69, 3) := by decide +kernel
theorem dd_Mo_isRow_9 : decode cc_Mo_isRow 9 = .ok (.ireturn, 1) := by decide +kernel
set_option maxRecDepth 100000 in
set_option maxHeartbeats 4000000 in
theorem ct_Mo_isRow (l : Launch) (E : gf_E) (r : Int) (μ : gf_M) (hr : gf_R r) : gf_Mi l E yy_Mo_isRow cc_Mo_isRow 1 .boolean (gf_rm 1 25) 81 gf_ref μ [.int (gf_i r)] (fun q μ' => ((0 ≤ r ∧ r < 6 ∧ q = 1) ∨ (¬ (0 ≤ r ∧ r < 6) ∧ q = 0)) ∧ μ' = μ) := by
  refine gf_mi (by decide +kernel) (Nat.le_of_ble_eq_true rfl) (by decide) (fun X Q hlx C hQ => ?_)
  subst hlx
  replace C : gf_C X E cc_Mo_isRow 1 "GuardFiguresModel" (gf_rm 1 25) := C
  show gf_G X E Q 1 gf_φ μ 0 [(0, .int (gf_i r))] []
  refine gf_iload_n C dd_Mo_isRow_0 0 rfl ?_
  refine gf_gi2l C dd_Mo_isRow_1 (by omega) ?_
  refine gf_lconst 0 C dd_Mo_isRow_2 (by decide +kernel) ?_
  refine gf_ldc2 5 C dd_Mo_isRow_3 ck_Mo_67 (by decide +kernel) ?_
  refine gf_callSi (st := []) (As := [.long (gf_l r), .long (gf_l 0), .long (gf_l 5)]) C wk_Mo_69 (ct_Mo_in (gf_xl X) E r 0 5 μ (by omega) (by omega) (by omega)) rfl ⟨rfl, rfl, rfl, rfl⟩ (Nat.le_of_ble_eq_true rfl) rfl dd_Mo_isRow_6 (fun r6 m6 hR6 hp6 => ?_)
  have hr6 := hp6.1
  refine gf_pm hp6.2 ?_
  refine gf_zret C hQ dd_Mo_isRow_9 (by omega) ?_
  exact ⟨by omega, rfl⟩

theorem dd_Mo_isText_0 : decode cc_Mo_isText 0 = .ok (.iload_n 0, 1) := by decide +kernel
theorem dd_Mo_isText_1 : decode cc_Mo_isText 1 = .ok (.i2l, 1) := by decide +kernel
theorem dd_Mo_isText_2 : decode cc_Mo_isText 2 = .ok (.lconst 0, 1) := by decide +kernel
theorem dd_Mo_isText_3 : decode cc_Mo_isText 3 = .ok (.ldc2_w 88, 3) := by decide +kernel
theorem dd_Mo_isText_6 : decode cc_Mo_isText 6 = .ok (.invokestatic 69, 3) := by decide +kernel
theorem dd_Mo_isText_9 : decode cc_Mo_isText 9 = .ok (.ireturn, 1) := by decide +kernel
set_option maxRecDepth 100000 in
set_option maxHeartbeats 4000000 in
theorem ct_Mo_isText (l : Launch) (E : gf_E) (r : Int) (μ : gf_M) (hr : gf_R r) : gf_Mi l E yy_Mo_isText cc_Mo_isText 1 .boolean (gf_rm 1 25) 81 gf_ref μ [.int (gf_i r)] (fun q μ' => ((0 ≤ r ∧ r < 4 ∧ q = 1) ∨ (¬ (0 ≤ r ∧ r < 4) ∧ q = 0)) ∧ μ' = μ) := by
  refine gf_mi (by decide +kernel) (Nat.le_of_ble_eq_true rfl) (by decide) (fun X Q hlx C hQ => ?_)
  subst hlx
  replace C : gf_C X E cc_Mo_isText 1 "GuardFiguresModel" (gf_rm 1 25) := C
  show gf_G X E Q 1 gf_φ μ 0 [(0, .int (gf_i r))] []
  refine gf_iload_n C dd_Mo_isText_0 0 rfl ?_
  refine gf_gi2l C dd_Mo_isText_1 (by omega) ?_
  refine gf_lconst 0 C dd_Mo_isText_2 (by decide +kernel) ?_
  refine gf_ldc2 3 C dd_Mo_isText_3 ck_Mo_88 (by decide +kernel) ?_
  refine gf_callSi (st := []) (As := [.long (gf_l r), .long (gf_l 0), .long (gf_l 3)]) C wk_Mo_69 (ct_Mo_in (gf_xl X) E r 0 3 μ (by omega) (by omega) (by omega)) rfl ⟨rfl, rfl, rfl, rfl⟩ (Nat.le_of_ble_eq_true rfl) rfl dd_Mo_isText_6 (fun r6 m6 hR6 hp6 => ?_)
  have hr6 := hp6.1
  refine gf_pm hp6.2 ?_
  refine gf_zret C hQ dd_Mo_isText_9 (by omega) ?_
  exact ⟨by omega, rfl⟩

theorem dd_Mo_isFigure_0 : decode cc_Mo_isFigure 0 = .ok (.iload_n 0, 1) := by decide +kernel
theorem dd_Mo_isFigure_1 : decode cc_Mo_isFigure 1 = .ok (.i2l, 1) := by decide +kernel
theorem dd_Mo_isFigure_2 : decode cc_Mo_isFigure 2 = .ok (.lconst 0, 1) := by decide +kernel
theorem dd_Mo_isFigure_3 : decode cc_Mo_isFigure 3 = .ok (.ldc2_w 129, 3) := by decide +kernel
theorem dd_Mo_isFigure_6 : decode cc_Mo_isFigure 6 = .ok (.invokestatic 69, 3) := by decide +kernel
theorem dd_Mo_isFigure_9 : decode cc_Mo_isFigure 9 = .ok (.ireturn, 1) := by decide +kernel
set_option maxRecDepth 100000 in
set_option maxHeartbeats 4000000 in
theorem ct_Mo_isFigure (l : Launch) (E : gf_E) (r : Int) (μ : gf_M) (hr : gf_R r) : gf_Mi l E yy_Mo_isFigure cc_Mo_isFigure 1 .boolean (gf_rm 1 25) 81 gf_ref μ [.int (gf_i r)] (fun q μ' => ((0 ≤ r ∧ r < 10 ∧ q = 1) ∨ (¬ (0 ≤ r ∧ r < 10) ∧ q = 0)) ∧ μ' = μ) := by
  refine gf_mi (by decide +kernel) (Nat.le_of_ble_eq_true rfl) (by decide) (fun X Q hlx C hQ => ?_)
  subst hlx
  replace C : gf_C X E cc_Mo_isFigure 1 "GuardFiguresModel" (gf_rm 1 25) := C
  show gf_G X E Q 1 gf_φ μ 0 [(0, .int (gf_i r))] []
  refine gf_iload_n C dd_Mo_isFigure_0 0 rfl ?_
  refine gf_gi2l C dd_Mo_isFigure_1 (by omega) ?_
  refine gf_lconst 0 C dd_Mo_isFigure_2 (by decide +kernel) ?_
  refine gf_ldc2 9 C dd_Mo_isFigure_3 ck_Mo_129 (by decide +kernel) ?_
  refine gf_callSi (st := []) (As := [.long (gf_l r), .long (gf_l 0), .long (gf_l 9)]) C wk_Mo_69 (ct_Mo_in (gf_xl X) E r 0 9 μ (by omega) (by omega) (by omega)) rfl ⟨rfl, rfl, rfl, rfl⟩ (Nat.le_of_ble_eq_true rfl) rfl dd_Mo_isFigure_6 (fun r6 m6 hR6 hp6 => ?_)
  have hr6 := hp6.1
  refine gf_pm hp6.2 ?_
  refine gf_zret C hQ dd_Mo_isFigure_9 (by omega) ?_
  exact ⟨by omega, rfl⟩

theorem dd_Mo_find_0 : decode cc_Mo_find 0 = .ok (.aload_n 0, 1) := by decide +kernel
theorem dd_Mo_find_1 : decode cc_Mo_find 1 = .ok (.iload_n 1, 1) := by decide +kernel
theorem dd_Mo_find_2 : decode cc_Mo_find 2 = .ok (.putfield 60, 3) := by decide +kernel
theorem dd_Mo_find_5 : decode cc_Mo_find 5 = .ok (.aload_n 0, 1) := by decide +kernel
theorem dd_Mo_find_6 : decode cc_Mo_find 6 = .ok (.getfield 27, 3) := by decide +kernel
theorem dd_Mo_find_9 : decode cc_Mo_find 9 = .ok (.iload_n 1, 1) := by decide +kernel
theorem dd_Mo_find_10 : decode cc_Mo_find 10 = .ok (.dup2, 1) := by decide +kernel
theorem dd_Mo_find_11 : decode cc_Mo_find 11 = .ok (.iaload, 1) := by decide +kernel
theorem dd_Mo_find_12 : decode cc_Mo_find 12 = .ok (.iconst 1, 1) := by decide +kernel
theorem dd_Mo_find_13 : decode cc_Mo_find 13 = .ok (.iadd, 1) := by decide +kernel
theorem dd_Mo_find_14 : decode cc_Mo_find 14 = .ok (.iastore, 1) := by decide +kernel
theorem dd_Mo_find_15 : decode cc_Mo_find 15 = .ok (.bipush (-3), 2) := by decide +kernel
theorem dd_Mo_find_17 : decode cc_Mo_find 17 = .ok (.ireturn, 1) := by decide +kernel
set_option maxRecDepth 100000 in
set_option maxHeartbeats 4000000 in
theorem ct_Mo_find (l : Launch) (E : gf_E) (f : Int) (μ : gf_M) (hf : 0 ≤ f ∧ f ≤ 5) : gf_Mi l E yy_Mo_find cc_Mo_find 2 .int (gf_rm 0 0) 81 gf_ref μ [.ref (gf_ad E 65), .int (gf_i f)] (fun q μ' => q = -3 ∧ μ' = gm_fd μ f) := by
  refine gf_mi (by decide +kernel) (Nat.le_of_ble_eq_true rfl) (by decide) (fun X Q hlx C hQ => ?_)
  subst hlx
  replace C : gf_C X E cc_Mo_find 2 "GuardFiguresModel" (gf_rm 0 0) := C
  show gf_G X E Q 2 gf_φ μ 0 [(0, .ref (gf_ad E 65)), (1, .int (gf_i f))] []
  refine gf_aload_n C dd_Mo_find_0 0 rfl ?_
  refine gf_iload_n C dd_Mo_find_1 1 rfl ?_
  refine gf_putI (z := 7) C gf_cl7 fl_Mo_60 dd_Mo_find_2 rfl rfl rfl (by decide +kernel) (show gf_is 81 65 0 7 26 by decide) (by omega) ?_
  refine gf_nmM (fun m2 hm2 => ?_)
  refine gf_aload_n C dd_Mo_find_5 0 rfl ?_
  refine gf_getA (r := 70) C gf_cl7 fl_Mo_27 dd_Mo_find_6 rfl (show gf_is 81 65 0 7 26 by decide) (by decide) (by decide) ?_
  refine gf_iload_n C dd_Mo_find_9 1 rfl ?_
  refine gf_dup2 C dd_Mo_find_10 rfl rfl ?_
  refine gf_iald C dd_Mo_find_11 (show gf_is 81 70 1 0 6 by decide) (by omega) (fun hv11 => ?_)
  refine gf_iconst C dd_Mo_find_12 ?_
  refine gf_iadd C dd_Mo_find_13 ?_
  refine gf_iastw C dd_Mo_find_14 (show gf_is 81 70 1 0 6 by decide) (by omega) ?_
  refine gf_nmM (fun m14 hm14 => ?_)
  refine gf_bipush C dd_Mo_find_15 (by decide +kernel) ?_
  refine gf_iret C hQ dd_Mo_find_17 (by omega) ?_
  refine ⟨rfl, ?_⟩
  rw [hm14]
  unfold gm_fd
  rw [hm2, gf_up_k (by decide)]

theorem dd_Mo_tells_0 : decode cc_Mo_tells 0 = .ok (.aload_n 0, 1) := by decide +kernel
theorem dd_Mo_tells_1 : decode cc_Mo_tells 1 = .ok (.iload_n 1, 1) := by decide +kernel
theorem dd_Mo_tells_2 : decode cc_Mo_tells 2 = .ok (.putfield 64, 3) := by decide +kernel
theorem dd_Mo_tells_5 : decode cc_Mo_tells 5 = .ok (.iconst 1, 1) := by decide +kernel
theorem dd_Mo_tells_6 : decode cc_Mo_tells 6 = .ok (.ireturn, 1) := by decide +kernel
set_option maxRecDepth 100000 in
set_option maxHeartbeats 4000000 in
theorem ct_Mo_tells (l : Launch) (E : gf_E) (v : Int) (μ : gf_M) (hv : gf_R v) : gf_Mi l E yy_Mo_tells cc_Mo_tells 2 .int (gf_rm 0 0) 81 gf_ref μ [.ref (gf_ad E 65), .int (gf_i v)] (fun q μ' => q = 1 ∧ μ' = gm_tl μ v) := by
  refine gf_mi (by decide +kernel) (Nat.le_of_ble_eq_true rfl) (by decide) (fun X Q hlx C hQ => ?_)
  subst hlx
  replace C : gf_C X E cc_Mo_tells 2 "GuardFiguresModel" (gf_rm 0 0) := C
  show gf_G X E Q 2 gf_φ μ 0 [(0, .ref (gf_ad E 65)), (1, .int (gf_i v))] []
  refine gf_aload_n C dd_Mo_tells_0 0 rfl ?_
  refine gf_iload_n C dd_Mo_tells_1 1 rfl ?_
  refine gf_putI (z := 4) C gf_cl7 fl_Mo_64 dd_Mo_tells_2 rfl rfl rfl (by decide +kernel) (show gf_is 81 65 0 7 26 by decide) (by omega) ?_
  refine gf_nmM (fun m2 hm2 => ?_)
  refine gf_iconst C dd_Mo_tells_5 ?_
  refine gf_iret C hQ dd_Mo_tells_6 (by omega) ?_
  exact ⟨rfl, hm2⟩

theorem dd_Mo_row_0 : decode cc_Mo_row 0 = .ok (.iload_n 1, 1) := by decide +kernel
theorem dd_Mo_row_1 : decode cc_Mo_row 1 = .ok (.invokestatic 73, 3) := by decide +kernel
theorem dd_Mo_row_4 : decode cc_Mo_row 4 = .ok (.ifCond .eq 9, 3) := by decide +kernel
theorem dd_Mo_row_7 : decode cc_Mo_row 7 = .ok (.iload_n 2, 1) := by decide +kernel
theorem dd_Mo_row_8 : decode cc_Mo_row 8 = .ok (.bipush 40, 2) := by decide +kernel
theorem dd_Mo_row_10 : decode cc_Mo_row 10 = .ok (.if_icmp .le 5, 3) := by decide +kernel
theorem dd_Mo_row_13 : decode cc_Mo_row 13 = .ok (.iconst (-1), 1) := by decide +kernel
theorem dd_Mo_row_14 : decode cc_Mo_row 14 = .ok (.ireturn, 1) := by decide +kernel
theorem dd_Mo_row_15 : decode cc_Mo_row 15 = .ok (.iload_n 2, 1) := by decide +kernel
theorem dd_Mo_row_16 : decode cc_Mo_row 16 = .ok (.ifCond .ge 9, 3) := by decide +kernel
theorem dd_Mo_row_19 : decode cc_Mo_row 19 = .ok (.aload_n 0, 1) := by decide +kernel
theorem dd_Mo_row_20 : decode cc_Mo_row 20 = .ok (.iconst 5, 1) := by decide +kernel
theorem dd_Mo_row_21 : decode cc_Mo_row 21 = .ok (.invokevirtual 77, 3) := by decide +kernel
theorem dd_Mo_row_24 : decode cc_Mo_row 24 = .ok (.ireturn, 1) := by decide +kernel
theorem dd_Mo_row_25 : decode cc_Mo_row 25 = .ok (.aload_n 0, 1) := by decide +kernel
theorem dd_Mo_row_26 : decode cc_Mo_row 26 = .ok (.getfield 7, 3) := by decide +kernel
theorem dd_Mo_row_29 : decode cc_Mo_row 29 = .ok (.iload_n 1, 1) := by decide +kernel
theorem dd_Mo_row_30 : decode cc_Mo_row 30 = .ok (.iload_n 2, 1) := by decide +kernel
theorem dd_Mo_row_31 : decode cc_Mo_row 31 = .ok (.iastore, 1) := by decide +kernel
theorem dd_Mo_row_32 : decode cc_Mo_row 32 = .ok (.iconst 0, 1) := by decide +kernel
theorem dd_Mo_row_33 : decode cc_Mo_row 33 = .ok (.istore_n 3, 1) := by decide +kernel
theorem dd_Mo_row_34 : decode cc_Mo_row 34 = .ok (.iload_n 3, 1) := by decide +kernel
theorem dd_Mo_row_35 : decode cc_Mo_row 35 = .ok (.iload_n 2, 1) := by decide +kernel
theorem dd_Mo_row_36 : decode cc_Mo_row 36 = .ok (.if_icmp .ge 21, 3) := by decide +kernel
theorem dd_Mo_row_39 : decode cc_Mo_row 39 = .ok (.aload_n 0, 1) := by decide +kernel
theorem dd_Mo_row_40 : decode cc_Mo_row 40 = .ok (.getfield 13, 3) := by decide +kernel
theorem dd_Mo_row_43 : decode cc_Mo_row 43 = .ok (.bipush 40, 2) := by decide +kernel
theorem dd_Mo_row_45 : decode cc_Mo_row 45 = .ok (.iload_n 1, 1) := by decide +kernel
theorem dd_Mo_row_46 : decode cc_Mo_row 46 = .ok (.imul, 1) := by decide +kernel
theorem dd_Mo_row_47 : decode cc_Mo_row 47 = .ok (.iload_n 3, 1) := by decide +kernel
theorem dd_Mo_row_48 : decode cc_Mo_row 48 = .ok (.iadd, 1) := by decide +kernel
theorem dd_Mo_row_49 : decode cc_Mo_row 49 = .ok (.iconst 0, 1) := by decide +kernel
theorem dd_Mo_row_50 : decode cc_Mo_row 50 = .ok (.iastore, 1) := by decide +kernel
theorem dd_Mo_row_51 : decode cc_Mo_row 51 = .ok (.iinc 3 1, 3) := by decide +kernel
theorem dd_Mo_row_54 : decode cc_Mo_row 54 = .ok (.goto (-20), 3) := by decide +kernel
theorem dd_Mo_row_57 : decode cc_Mo_row 57 = .ok (.iload_n 2, 1) := by decide +kernel
theorem dd_Mo_row_58 : decode cc_Mo_row 58 = .ok (.ireturn, 1) := by decide +kernel
set_option maxRecDepth 100000 in
set_option maxHeartbeats 4000000 in
theorem ct_Mo_row (l : Launch) (E : gf_E) (r n : Int) (μ : gf_M) (hr : gf_R r) (hn : gf_R n) : gf_Mi l E yy_Mo_row cc_Mo_row 4 .int (gf_rm 2 45) 81 gf_ref μ [.ref (gf_ad E 65), .int (gf_i r), .int (gf_i n)] (fun q μ' => (¬ (0 ≤ r ∧ r < 6) ∨ 40 < n → q = -1 ∧ μ' = μ) ∧ (0 ≤ r ∧ r < 6 ∧ n ≤ 40 → (n < 0 → q = -3 ∧ μ' = gm_fd μ 5) ∧ (0 ≤ n → q = n ∧ gm_new μ μ' 66 67 40 r n 0))) := by
  refine gf_mi (by decide +kernel) (Nat.le_of_ble_eq_true rfl) (by decide) (fun X Q hlx C hQ => ?_)
  subst hlx
  replace C : gf_C X E cc_Mo_row 4 "GuardFiguresModel" (gf_rm 2 45) := C
  show gf_G X E Q 4 gf_φ μ 0 [(0, .ref (gf_ad E 65)), (1, .int (gf_i r)), (2, .int (gf_i n))] []
  refine gf_iload_n C dd_Mo_row_0 1 rfl ?_
  refine gf_callSi (st := []) (As := [.int (gf_i r)]) C wk_Mo_73 (ct_Mo_isRow (gf_xl X) E r μ (by omega)) rfl ⟨rfl, rfl, rfl, rfl⟩ (Nat.le_of_ble_eq_true rfl) rfl dd_Mo_row_1 (fun r1 m1 hR1 hp1 => ?_)
  have hr1 := hp1.1
  refine gf_pm hp1.2 ?_
  refine gf_if_eq 13 C dd_Mo_row_4 (by decide) (by omega) (fun h4 => ?_) (fun h4 => ?_)
  · skip
    refine gf_iconst C dd_Mo_row_13 ?_
    refine gf_iret C hQ dd_Mo_row_14 (by omega) ?_
    exact ⟨fun _ => ⟨rfl, rfl⟩, fun h => absurd h (by omega)⟩
  · skip
    refine gf_iload_n C dd_Mo_row_7 2 rfl ?_
    refine gf_bipush C dd_Mo_row_8 (by decide +kernel) ?_
    refine gf_icmp_le 15 C dd_Mo_row_10 (by decide) (by omega) (by omega) (fun h10 => ?_) (fun h10 => ?_)
    · skip
      refine gf_iload_n C dd_Mo_row_15 2 rfl ?_
      refine gf_if_ge 25 C dd_Mo_row_16 (by decide) (by omega) (fun h16 => ?_) (fun h16 => ?_)
      · skip
        refine gf_aload_n C dd_Mo_row_25 0 rfl ?_
        refine gf_getA (r := 66) C gf_cl7 fl_Mo_7 dd_Mo_row_26 rfl (show gf_is 81 65 0 7 26 by decide) (by decide) (by decide) ?_
        refine gf_iload_n C dd_Mo_row_29 1 rfl ?_
        refine gf_iload_n C dd_Mo_row_30 2 rfl ?_
        refine gf_iast C dd_Mo_row_31 (show gf_is 81 66 1 0 6 by decide) (by omega) (by omega) ?_
        refine gf_nmM (fun m31 hm31 => ?_)
        refine gf_iconst C dd_Mo_row_32 ?_
        refine gf_istore_n (lv' := [(3, .int (gf_i 0)), (0, .ref (gf_ad E 65)), (1, .int (gf_i r)), (2, .int (gf_i n))]) C dd_Mo_row_33 (by decide) rfl ?_
        have L34_1 : ∀ (N : Nat) (i : Int) (m : gf_M) , (0 ≤ i ∧ i ≤ n ∧ m 66 r = n ∧ (∀ j : Int, 0 ≤ j → j < i → m 67 (40 * r + j) = 0) ∧ ∀ a b : Int, ¬ (a = 66 ∧ b = r) → ¬ (a = 67 ∧ 40 * r ≤ b ∧ b < 40 * r + n) → m a b = μ a b) → (40 - i).toNat < N → gf_G X E Q 4 gf_φ m 34 [(3, .int (gf_i i)), (0, .ref (gf_ad E 65)), (1, .int (gf_i r)), (2, .int (gf_i n))] [] := by
          intro N
          induction N with
          | zero => intro i m hinv hN; exact absurd hN (Nat.not_lt_zero _)
          | succ N ih34_1 =>
            intro i m hinv hN
            have hinv0 := hinv
            obtain ⟨hi0, hi1, hsz, hvs, hfr⟩ := hinv
            refine gf_iload_n C dd_Mo_row_34 0 rfl ?_
            refine gf_iload_n C dd_Mo_row_35 3 rfl ?_
            refine gf_icmp_ge 57 C dd_Mo_row_36 (by decide) (by omega) (by omega) (fun h36 => ?_) (fun h36 => ?_)
            · skip
              refine gf_iload_n C dd_Mo_row_57 3 rfl ?_
              refine gf_iret C hQ dd_Mo_row_58 (by omega) ?_
              have e : i = n := by omega
              rw [e] at hvs
              exact ⟨fun h => absurd h (by omega), fun _ => ⟨fun h => absurd h (by omega), fun _ => ⟨rfl, hsz, hvs, hfr⟩⟩⟩
            · skip
              refine gf_aload_n C dd_Mo_row_39 1 rfl ?_
              refine gf_getA (r := 67) C gf_cl7 fl_Mo_13 dd_Mo_row_40 rfl (show gf_is 81 65 0 7 26 by decide) (by decide) (by decide) ?_
              refine gf_bipush C dd_Mo_row_43 (by decide +kernel) ?_
              refine gf_iload_n C dd_Mo_row_45 2 rfl ?_
              refine gf_imul C dd_Mo_row_46 ?_
              refine gf_iload_n C dd_Mo_row_47 0 rfl ?_
              refine gf_iadd C dd_Mo_row_48 ?_
              refine gf_iconst C dd_Mo_row_49 ?_
              refine gf_iast C dd_Mo_row_50 (show gf_is 81 67 1 0 240 by decide) (by omega) (by omega) ?_
              refine gf_nmM (fun m50 hm50 => ?_)
              obtain ⟨x51, hx51⟩ : ∃ y : Int, y = i + 1 := ⟨_, rfl⟩
              refine gf_iinc (q := 0) (v := x51) (lv' := [(3, .int (gf_i x51)), (0, .ref (gf_ad E 65)), (1, .int (gf_i r)), (2, .int (gf_i n))]) C dd_Mo_row_51 rfl hx51 (by decide) rfl ?_
              refine gf_goto 34 C dd_Mo_row_54 (by decide) ?_
              refine gf_lsub [0, 1, 2, 3] rfl ?_
              exact ih34_1 x51 m50 (by
                      refine ⟨by omega, by omega, by rw [hm50, gf_up_k (by decide)]; exact hsz, fun j h0 h1 => ?_, fun a b h1 h2 => by rw [hm50, gf_up_o (by omega)]; exact hfr a b h1 h2⟩
                      rw [hm50]
                      by_cases e : j = i
                      · rw [e]; exact gf_up_s
                      · rw [gf_up_j (by omega)]; exact hvs j h0 (by omega)) (by omega)
        refine gf_lsub [0, 1, 2, 3] rfl ?_
        exact L34_1 _ 0 m31 (⟨by omega, by omega, by rw [hm31]; exact gf_up_s, fun j h0 h1 => by omega, fun a b h _ => by rw [hm31]; exact gf_up_o h⟩) (Nat.lt_succ_self _)
      · skip
        refine gf_aload_n C dd_Mo_row_19 0 rfl ?_
        refine gf_iconst C dd_Mo_row_20 ?_
        refine gf_callVi (st := []) (As := [.int (gf_i 5)]) C wk_Mo_77 gf_cl7 (show gf_is 81 65 0 7 26 by decide) (ct_Mo_find (gf_xl X) E 5 μ (by omega)) rfl ⟨rfl, rfl, rfl, rfl⟩ (Nat.le_of_ble_eq_true rfl) rfl dd_Mo_row_21 (fun r21 m21 hR21 hp21 => ?_)
        refine gf_iret C hQ dd_Mo_row_24 (by omega) ?_
        exact ⟨fun h => absurd h (by omega), fun _ => ⟨fun _ => hp21, fun h => absurd h (by omega)⟩⟩
    · skip
      refine gf_iconst C dd_Mo_row_13 ?_
      refine gf_iret C hQ dd_Mo_row_14 (by omega) ?_
      exact ⟨fun _ => ⟨rfl, rfl⟩, fun h => absurd h (by omega)⟩

theorem dd_Mo_text_0 : decode cc_Mo_text 0 = .ok (.iload_n 1, 1) := by decide +kernel
theorem dd_Mo_text_1 : decode cc_Mo_text 1 = .ok (.invokestatic 90, 3) := by decide +kernel
theorem dd_Mo_text_4 : decode cc_Mo_text 4 = .ok (.ifCond .eq 9, 3) := by decide +kernel
theorem dd_Mo_text_7 : decode cc_Mo_text 7 = .ok (.iload_n 2, 1) := by decide +kernel
theorem dd_Mo_text_8 : decode cc_Mo_text 8 = .ok (.bipush 60, 2) := by decide +kernel
theorem dd_Mo_text_10 : decode cc_Mo_text 10 = .ok (.if_icmp .le 5, 3) := by decide +kernel
theorem dd_Mo_text_13 : decode cc_Mo_text 13 = .ok (.iconst (-1), 1) := by decide +kernel
theorem dd_Mo_text_14 : decode cc_Mo_text 14 = .ok (.ireturn, 1) := by decide +kernel
theorem dd_Mo_text_15 : decode cc_Mo_text 15 = .ok (.iload_n 2, 1) := by decide +kernel
theorem dd_Mo_text_16 : decode cc_Mo_text 16 = .ok (.ifCond .ge 9, 3) := by decide +kernel
theorem dd_Mo_text_19 : decode cc_Mo_text 19 = .ok (.aload_n 0, 1) := by decide +kernel
theorem dd_Mo_text_20 : decode cc_Mo_text 20 = .ok (.iconst 5, 1) := by decide +kernel
theorem dd_Mo_text_21 : decode cc_Mo_text 21 = .ok (.invokevirtual 77, 3) := by decide +kernel
theorem dd_Mo_text_24 : decode cc_Mo_text 24 = .ok (.ireturn, 1) := by decide +kernel
theorem dd_Mo_text_25 : decode cc_Mo_text 25 = .ok (.aload_n 0, 1) := by decide +kernel
theorem dd_Mo_text_26 : decode cc_Mo_text 26 = .ok (.getfield 16, 3) := by decide +kernel
theorem dd_Mo_text_29 : decode cc_Mo_text 29 = .ok (.iload_n 1, 1) := by decide +kernel
theorem dd_Mo_text_30 : decode cc_Mo_text 30 = .ok (.iload_n 2, 1) := by decide +kernel
theorem dd_Mo_text_31 : decode cc_Mo_text 31 = .ok (.iastore, 1) := by decide +kernel
theorem dd_Mo_text_32 : decode cc_Mo_text 32 = .ok (.iconst 0, 1) := by decide +kernel
theorem dd_Mo_text_33 : decode cc_Mo_text 33 = .ok (.istore_n 3, 1) := by decide +kernel
theorem dd_Mo_text_34 : decode cc_Mo_text 34 = .ok (.iload_n 3, 1) := by decide +kernel
theorem dd_Mo_text_35 : decode cc_Mo_text 35 = .ok (.iload_n 2, 1) := by decide +kernel
theorem dd_Mo_text_36 : decode cc_Mo_text 36 = .ok (.if_icmp .ge 22, 3) := by decide +kernel
theorem dd_Mo_text_39 : decode cc_Mo_text 39 = .ok (.aload_n 0, 1) := by decide +kernel
theorem dd_Mo_text_40 : decode cc_Mo_text 40 = .ok (.getfield 19, 3) := by decide +kernel
theorem dd_Mo_text_43 : decode cc_Mo_text 43 = .ok (.bipush 60, 2) := by decide +kernel
theorem dd_Mo_text_45 : decode cc_Mo_text 45 = .ok (.iload_n 1, 1) := by decide +kernel
theorem dd_Mo_text_46 : decode cc_Mo_text 46 = .ok (.imul, 1) := by decide +kernel
theorem dd_Mo_text_47 : decode cc_Mo_text 47 = .ok (.iload_n 3, 1) := by decide +kernel
theorem dd_Mo_text_48 : decode cc_Mo_text 48 = .ok (.iadd, 1) := by decide +kernel
theorem dd_Mo_text_49 : decode cc_Mo_text 49 = .ok (.bipush 32, 2) := by decide +kernel
theorem dd_Mo_text_51 : decode cc_Mo_text 51 = .ok (.bastore, 1) := by decide +kernel
theorem dd_Mo_text_52 : decode cc_Mo_text 52 = .ok (.iinc 3 1, 3) := by decide +kernel
theorem dd_Mo_text_55 : decode cc_Mo_text 55 = .ok (.goto (-21), 3) := by decide +kernel
theorem dd_Mo_text_58 : decode cc_Mo_text 58 = .ok (.iload_n 2, 1) := by decide +kernel
theorem dd_Mo_text_59 : decode cc_Mo_text 59 = .ok (.ireturn, 1) := by decide +kernel
set_option maxRecDepth 100000 in
set_option maxHeartbeats 4000000 in
theorem ct_Mo_text (l : Launch) (E : gf_E) (r n : Int) (μ : gf_M) (hr : gf_R r) (hn : gf_R n) : gf_Mi l E yy_Mo_text cc_Mo_text 4 .int (gf_rm 2 45) 81 gf_ref μ [.ref (gf_ad E 65), .int (gf_i r), .int (gf_i n)] (fun q μ' => (¬ (0 ≤ r ∧ r < 4) ∨ 60 < n → q = -1 ∧ μ' = μ) ∧ (0 ≤ r ∧ r < 4 ∧ n ≤ 60 → (n < 0 → q = -3 ∧ μ' = gm_fd μ 5) ∧ (0 ≤ n → q = n ∧ gm_new μ μ' 68 69 60 r n 32))) := by
  refine gf_mi (by decide +kernel) (Nat.le_of_ble_eq_true rfl) (by decide) (fun X Q hlx C hQ => ?_)
  subst hlx
  replace C : gf_C X E cc_Mo_text 4 "GuardFiguresModel" (gf_rm 2 45) := C
  show gf_G X E Q 4 gf_φ μ 0 [(0, .ref (gf_ad E 65)), (1, .int (gf_i r)), (2, .int (gf_i n))] []
  refine gf_iload_n C dd_Mo_text_0 1 rfl ?_
  refine gf_callSi (st := []) (As := [.int (gf_i r)]) C wk_Mo_90 (ct_Mo_isText (gf_xl X) E r μ (by omega)) rfl ⟨rfl, rfl, rfl, rfl⟩ (Nat.le_of_ble_eq_true rfl) rfl dd_Mo_text_1 (fun r1 m1 hR1 hp1 => ?_)
  have hr1 := hp1.1
  refine gf_pm hp1.2 ?_
  refine gf_if_eq 13 C dd_Mo_text_4 (by decide) (by omega) (fun h4 => ?_) (fun h4 => ?_)
  · skip
    refine gf_iconst C dd_Mo_text_13 ?_
    refine gf_iret C hQ dd_Mo_text_14 (by omega) ?_
    exact ⟨fun _ => ⟨rfl, rfl⟩, fun h => absurd h (by omega)⟩
  · skip
    refine gf_iload_n C dd_Mo_text_7 2 rfl ?_
    refine gf_bipush C dd_Mo_text_8 (by decide +kernel) ?_
    refine gf_icmp_le 15 C dd_Mo_text_10 (by decide) (by omega) (by omega) (fun h10 => ?_) (fun h10 => ?_)
    · skip
      refine gf_iload_n C dd_Mo_text_15 2 rfl ?_
      refine gf_if_ge 25 C dd_Mo_text_16 (by decide) (by omega) (fun h16 => ?_) (fun h16 => ?_)
      · skip
        refine gf_aload_n C dd_Mo_text_25 0 rfl ?_
        refine gf_getA (r := 68) C gf_cl7 fl_Mo_16 dd_Mo_text_26 rfl (show gf_is 81 65 0 7 26 by decide) (by decide) (by decide) ?_
        refine gf_iload_n C dd_Mo_text_29 1 rfl ?_
        refine gf_iload_n C dd_Mo_text_30 2 rfl ?_
        refine gf_iast C dd_Mo_text_31 (show gf_is 81 68 1 0 4 by decide) (by omega) (by omega) ?_
        refine gf_nmM (fun m31 hm31 => ?_)
        refine gf_iconst C dd_Mo_text_32 ?_
        refine gf_istore_n (lv' := [(3, .int (gf_i 0)), (0, .ref (gf_ad E 65)), (1, .int (gf_i r)), (2, .int (gf_i n))]) C dd_Mo_text_33 (by decide) rfl ?_
        have L34_1 : ∀ (N : Nat) (i : Int) (m : gf_M) , (0 ≤ i ∧ i ≤ n ∧ m 68 r = n ∧ (∀ j : Int, 0 ≤ j → j < i → m 69 (60 * r + j) = 32) ∧ ∀ a b : Int, ¬ (a = 68 ∧ b = r) → ¬ (a = 69 ∧ 60 * r ≤ b ∧ b < 60 * r + n) → m a b = μ a b) → (60 - i).toNat < N → gf_G X E Q 4 gf_φ m 34 [(3, .int (gf_i i)), (0, .ref (gf_ad E 65)), (1, .int (gf_i r)), (2, .int (gf_i n))] [] := by
          intro N
          induction N with
          | zero => intro i m hinv hN; exact absurd hN (Nat.not_lt_zero _)
          | succ N ih34_1 =>
            intro i m hinv hN
            have hinv0 := hinv
            obtain ⟨hi0, hi1, hsz, hvs, hfr⟩ := hinv
            refine gf_iload_n C dd_Mo_text_34 0 rfl ?_
            refine gf_iload_n C dd_Mo_text_35 3 rfl ?_
            refine gf_icmp_ge 58 C dd_Mo_text_36 (by decide) (by omega) (by omega) (fun h36 => ?_) (fun h36 => ?_)
            · skip
              refine gf_iload_n C dd_Mo_text_58 3 rfl ?_
              refine gf_iret C hQ dd_Mo_text_59 (by omega) ?_
              have e : i = n := by omega
              rw [e] at hvs
              exact ⟨fun h => absurd h (by omega), fun _ => ⟨fun h => absurd h (by omega), fun _ => ⟨rfl, hsz, hvs, hfr⟩⟩⟩
            · skip
              refine gf_aload_n C dd_Mo_text_39 1 rfl ?_
              refine gf_getA (r := 69) C gf_cl7 fl_Mo_19 dd_Mo_text_40 rfl (show gf_is 81 65 0 7 26 by decide) (by decide) (by decide) ?_
              refine gf_bipush C dd_Mo_text_43 (by decide +kernel) ?_
              refine gf_iload_n C dd_Mo_text_45 2 rfl ?_
              refine gf_imul C dd_Mo_text_46 ?_
              refine gf_iload_n C dd_Mo_text_47 0 rfl ?_
              refine gf_iadd C dd_Mo_text_48 ?_
              refine gf_bipush C dd_Mo_text_49 (by decide +kernel) ?_
              refine gf_bast rfl C dd_Mo_text_51 (show gf_is 81 69 3 2 240 by decide) (by omega) ?_
              refine gf_nmM (fun m51 hm51 => ?_)
              obtain ⟨x52, hx52⟩ : ∃ y : Int, y = i + 1 := ⟨_, rfl⟩
              refine gf_iinc (q := 0) (v := x52) (lv' := [(3, .int (gf_i x52)), (0, .ref (gf_ad E 65)), (1, .int (gf_i r)), (2, .int (gf_i n))]) C dd_Mo_text_52 rfl hx52 (by decide) rfl ?_
              refine gf_goto 34 C dd_Mo_text_55 (by decide) ?_
              refine gf_lsub [0, 1, 2, 3] rfl ?_
              exact ih34_1 x52 m51 (by
                      refine ⟨by omega, by omega, by rw [hm51, gf_up_k (by decide)]; exact hsz, fun j h0 h1 => ?_, fun a b h1 h2 => by rw [hm51, gf_up_o (by omega)]; exact hfr a b h1 h2⟩
                      rw [hm51]
                      by_cases e : j = i
                      · rw [e, show gf_b 32 = 32 by decide]; exact gf_up_s
                      · rw [gf_up_j (by omega)]; exact hvs j h0 (by omega)) (by omega)
        refine gf_lsub [0, 1, 2, 3] rfl ?_
        exact L34_1 _ 0 m31 (⟨by omega, by omega, by rw [hm31]; exact gf_up_s, fun j h0 h1 => by omega, fun a b h _ => by rw [hm31]; exact gf_up_o h⟩) (Nat.lt_succ_self _)
      · skip
        refine gf_aload_n C dd_Mo_text_19 0 rfl ?_
        refine gf_iconst C dd_Mo_text_20 ?_
        refine gf_callVi (st := []) (As := [.int (gf_i 5)]) C wk_Mo_77 gf_cl7 (show gf_is 81 65 0 7 26 by decide) (ct_Mo_find (gf_xl X) E 5 μ (by omega)) rfl ⟨rfl, rfl, rfl, rfl⟩ (Nat.le_of_ble_eq_true rfl) rfl dd_Mo_text_21 (fun r21 m21 hR21 hp21 => ?_)
        refine gf_iret C hQ dd_Mo_text_24 (by omega) ?_
        exact ⟨fun h => absurd h (by omega), fun _ => ⟨fun _ => hp21, fun h => absurd h (by omega)⟩⟩
    · skip
      refine gf_iconst C dd_Mo_text_13 ?_
      refine gf_iret C hQ dd_Mo_text_14 (by omega) ?_
      exact ⟨fun _ => ⟨rfl, rfl⟩, fun h => absurd h (by omega)⟩

theorem dd_Mo_lacksPlace_0 : decode cc_Mo_lacksPlace 0 = .ok (.iload_n 1, 1) := by decide +kernel
theorem dd_Mo_lacksPlace_1 : decode cc_Mo_lacksPlace 1 = .ok (.invokestatic 73, 3) := by decide +kernel
theorem dd_Mo_lacksPlace_4 : decode cc_Mo_lacksPlace 4 = .ok (.ifCond .ne 5, 3) := by decide +kernel
theorem dd_Mo_lacksPlace_7 : decode cc_Mo_lacksPlace 7 = .ok (.iconst (-1), 1) := by decide +kernel
theorem dd_Mo_lacksPlace_8 : decode cc_Mo_lacksPlace 8 = .ok (.ireturn, 1) := by decide +kernel
theorem dd_Mo_lacksPlace_9 : decode cc_Mo_lacksPlace 9 = .ok (.aload_n 0, 1) := by decide +kernel
theorem dd_Mo_lacksPlace_10 : decode cc_Mo_lacksPlace 10 = .ok (.getfield 7, 3) := by decide +kernel
theorem dd_Mo_lacksPlace_13 : decode cc_Mo_lacksPlace 13 = .ok (.iload_n 1, 1) := by decide +kernel
theorem dd_Mo_lacksPlace_14 : decode cc_Mo_lacksPlace 14 = .ok (.iaload, 1) := by decide +kernel
theorem dd_Mo_lacksPlace_15 : decode cc_Mo_lacksPlace 15 = .ok (.ifCond .ge 9, 3) := by decide +kernel
theorem dd_Mo_lacksPlace_18 : decode cc_Mo_lacksPlace 18 = .ok (.aload_n 0, 1) := by decide +kernel
theorem dd_Mo_lacksPlace_19 : decode cc_Mo_lacksPlace 19 = .ok (.iconst 1, 1) := by decide +kernel
theorem dd_Mo_lacksPlace_20 : decode cc_Mo_lacksPlace 20 = .ok (.invokevirtual 77, 3) := by decide +kernel
theorem dd_Mo_lacksPlace_23 : decode cc_Mo_lacksPlace 23 = .ok (.ireturn, 1) := by decide +kernel
theorem dd_Mo_lacksPlace_24 : decode cc_Mo_lacksPlace 24 = .ok (.iload_n 2, 1) := by decide +kernel
theorem dd_Mo_lacksPlace_25 : decode cc_Mo_lacksPlace 25 = .ok (.i2l, 1) := by decide +kernel
theorem dd_Mo_lacksPlace_26 : decode cc_Mo_lacksPlace 26 = .ok (.lconst 0, 1) := by decide +kernel
theorem dd_Mo_lacksPlace_27 : decode cc_Mo_lacksPlace 27 = .ok (.aload_n 0, 1) := by decide +kernel
theorem dd_Mo_lacksPlace_28 : decode cc_Mo_lacksPlace 28 = .ok (.getfield 7, 3) := by decide +kernel
theorem dd_Mo_lacksPlace_31 : decode cc_Mo_lacksPlace 31 = .ok (.iload_n 1, 1) := by decide +kernel
theorem dd_Mo_lacksPlace_32 : decode cc_Mo_lacksPlace 32 = .ok (.iaload, 1) := by decide +kernel
theorem dd_Mo_lacksPlace_33 : decode cc_Mo_lacksPlace 33 = .ok (.iconst 1, 1) := by decide +kernel
theorem dd_Mo_lacksPlace_34 : decode cc_Mo_lacksPlace 34 = .ok (.isub, 1) := by decide +kernel
theorem dd_Mo_lacksPlace_35 : decode cc_Mo_lacksPlace 35 = .ok (.i2l, 1) := by decide +kernel
theorem dd_Mo_lacksPlace_36 : decode cc_Mo_lacksPlace 36 = .ok (.invokestatic 69, 3) := by decide +kernel
theorem dd_Mo_lacksPlace_39 : decode cc_Mo_lacksPlace 39 = .ok (.ifCond .eq 7, 3) := by decide +kernel
theorem dd_Mo_lacksPlace_42 : decode cc_Mo_lacksPlace 42 = .ok (.iconst 0, 1) := by decide +kernel
theorem dd_Mo_lacksPlace_43 : decode cc_Mo_lacksPlace 43 = .ok (.goto 8, 3) := by decide +kernel
theorem dd_Mo_lacksPlace_46 : decode cc_Mo_lacksPlace 46 = .ok (.aload_n 0, 1) := by decide +kernel
theorem dd_Mo_lacksPlace_47 : decode cc_Mo_lacksPlace 47 = .ok (.iconst 2, 1) := by decide +kernel
theorem dd_Mo_lacksPlace_48 : decode cc_Mo_lacksPlace 48 = .ok (.invokevirtual 77, 3) := by decide +kernel
theorem dd_Mo_lacksPlace_51 : decode cc_Mo_lacksPlace 51 = .ok (.ireturn, 1) := by decide +kernel
set_option maxRecDepth 100000 in
set_option maxHeartbeats 4000000 in
theorem ct_Mo_lacksPlace (l : Launch) (E : gf_E) (r i : Int) (μ : gf_M) (hr : gf_R r) (hi : gf_R i) (hrs : ∀ r : Int, 0 ≤ r → r < 6 → -1 ≤ μ 66 r ∧ μ 66 r ≤ 40)  : gf_Mi l E yy_Mo_lacksPlace cc_Mo_lacksPlace 3 .int (gf_rm 2 45) 81 gf_ref μ [.ref (gf_ad E 65), .int (gf_i r), .int (gf_i i)] (fun q μ' => (¬ (0 ≤ r ∧ r < 6) → q = -1 ∧ μ' = μ) ∧ (0 ≤ r ∧ r < 6 → (μ 66 r = -1 → q = -3 ∧ μ' = gm_fd μ 1) ∧ (μ 66 r ≠ -1 → (¬ (0 ≤ i ∧ i < μ 66 r) → q = -3 ∧ μ' = gm_fd μ 2) ∧ (0 ≤ i ∧ i < μ 66 r → q = 0 ∧ μ' = μ)))) := by
  refine gf_mi (by decide +kernel) (Nat.le_of_ble_eq_true rfl) (by decide) (fun X Q hlx C hQ => ?_)
  subst hlx
  replace C : gf_C X E cc_Mo_lacksPlace 3 "GuardFiguresModel" (gf_rm 2 45) := C
  show gf_G X E Q 3 gf_φ μ 0 [(0, .ref (gf_ad E 65)), (1, .int (gf_i r)), (2, .int (gf_i i))] []
  refine gf_iload_n C dd_Mo_lacksPlace_0 1 rfl ?_
  refine gf_callSi (st := []) (As := [.int (gf_i r)]) C wk_Mo_73 (ct_Mo_isRow (gf_xl X) E r μ (by omega)) rfl ⟨rfl, rfl, rfl, rfl⟩ (Nat.le_of_ble_eq_true rfl) rfl dd_Mo_lacksPlace_1 (fun r1 m1 hR1 hp1 => ?_)
  have hr1 := hp1.1
  refine gf_pm hp1.2 ?_
  refine gf_if_ne 9 C dd_Mo_lacksPlace_4 (by decide) (by omega) (fun h4 => ?_) (fun h4 => ?_)
  · skip
    have hin : 0 ≤ r ∧ r < 6 := by omega
    have hrr := hrs r hin.1 hin.2
    refine gf_aload_n C dd_Mo_lacksPlace_9 0 rfl ?_
    refine gf_getA (r := 66) C gf_cl7 fl_Mo_7 dd_Mo_lacksPlace_10 rfl (show gf_is 81 65 0 7 26 by decide) (by decide) (by decide) ?_
    refine gf_iload_n C dd_Mo_lacksPlace_13 1 rfl ?_
    refine gf_iald C dd_Mo_lacksPlace_14 (show gf_is 81 66 1 0 6 by decide) (by omega) (fun hv14 => ?_)
    refine gf_if_ge 24 C dd_Mo_lacksPlace_15 (by decide) (by omega) (fun h15 => ?_) (fun h15 => ?_)
    · skip
      refine gf_iload_n C dd_Mo_lacksPlace_24 2 rfl ?_
      refine gf_gi2l C dd_Mo_lacksPlace_25 (by omega) ?_
      refine gf_lconst 0 C dd_Mo_lacksPlace_26 (by decide +kernel) ?_
      refine gf_aload_n C dd_Mo_lacksPlace_27 0 rfl ?_
      refine gf_getA (r := 66) C gf_cl7 fl_Mo_7 dd_Mo_lacksPlace_28 rfl (show gf_is 81 65 0 7 26 by decide) (by decide) (by decide) ?_
      refine gf_iload_n C dd_Mo_lacksPlace_31 1 rfl ?_
      refine gf_iald C dd_Mo_lacksPlace_32 (show gf_is 81 66 1 0 6 by decide) (by omega) (fun hv32 => ?_)
      refine gf_iconst C dd_Mo_lacksPlace_33 ?_
      refine gf_isub C dd_Mo_lacksPlace_34 ?_
      refine gf_gi2l C dd_Mo_lacksPlace_35 (by omega) ?_
      refine gf_callSi (st := []) (As := [.long (gf_l i), .long (gf_l 0), .long (gf_l ((μ 66 r) - 1))]) C wk_Mo_69 (ct_Mo_in (gf_xl X) E i 0 ((μ 66 r) - 1) μ (by omega) (by omega) (by omega)) rfl ⟨rfl, rfl, rfl, rfl⟩ (Nat.le_of_ble_eq_true rfl) rfl dd_Mo_lacksPlace_36 (fun r36 m36 hR36 hp36 => ?_)
      have hr36 := hp36.1
      refine gf_pm hp36.2 ?_
      refine gf_if_eq 46 C dd_Mo_lacksPlace_39 (by decide) (by omega) (fun h39 => ?_) (fun h39 => ?_)
      · skip
        refine gf_aload_n C dd_Mo_lacksPlace_46 0 rfl ?_
        refine gf_iconst C dd_Mo_lacksPlace_47 ?_
        refine gf_callVi (st := []) (As := [.int (gf_i 2)]) C wk_Mo_77 gf_cl7 (show gf_is 81 65 0 7 26 by decide) (ct_Mo_find (gf_xl X) E 2 μ (by omega)) rfl ⟨rfl, rfl, rfl, rfl⟩ (Nat.le_of_ble_eq_true rfl) rfl dd_Mo_lacksPlace_48 (fun r48 m48 hR48 hp48 => ?_)
        refine gf_iret C hQ dd_Mo_lacksPlace_51 (by omega) ?_
        first
        | exact ⟨fun h => absurd h (by omega), fun _ => ⟨fun h => absurd h (by omega), fun _ => ⟨fun _ => hp48, fun h => absurd h (by omega)⟩⟩⟩
        | exact ⟨fun h => absurd h (by omega), fun _ => ⟨fun h => absurd h (by omega), fun _ => ⟨fun h => absurd h (by omega), fun _ => ⟨rfl, rfl⟩⟩⟩⟩
      · skip
        refine gf_iconst C dd_Mo_lacksPlace_42 ?_
        refine gf_goto 51 C dd_Mo_lacksPlace_43 (by decide) ?_
        refine gf_iret C hQ dd_Mo_lacksPlace_51 (by omega) ?_
        first
        | exact ⟨fun h => absurd h (by omega), fun _ => ⟨fun h => absurd h (by omega), fun _ => ⟨fun _ => hp48, fun h => absurd h (by omega)⟩⟩⟩
        | exact ⟨fun h => absurd h (by omega), fun _ => ⟨fun h => absurd h (by omega), fun _ => ⟨fun h => absurd h (by omega), fun _ => ⟨rfl, rfl⟩⟩⟩⟩
    · skip
      refine gf_aload_n C dd_Mo_lacksPlace_18 0 rfl ?_
      refine gf_iconst C dd_Mo_lacksPlace_19 ?_
      refine gf_callVi (st := []) (As := [.int (gf_i 1)]) C wk_Mo_77 gf_cl7 (show gf_is 81 65 0 7 26 by decide) (ct_Mo_find (gf_xl X) E 1 μ (by omega)) rfl ⟨rfl, rfl, rfl, rfl⟩ (Nat.le_of_ble_eq_true rfl) rfl dd_Mo_lacksPlace_20 (fun r20 m20 hR20 hp20 => ?_)
      refine gf_iret C hQ dd_Mo_lacksPlace_23 (by omega) ?_
      exact ⟨fun h => absurd h (by omega), fun _ => ⟨fun _ => hp20, fun h => absurd h (by omega)⟩⟩
  · skip
    refine gf_iconst C dd_Mo_lacksPlace_7 ?_
    refine gf_iret C hQ dd_Mo_lacksPlace_8 (by omega) ?_
    exact ⟨fun _ => ⟨rfl, rfl⟩, fun h => absurd h (by omega)⟩

theorem dd_Mo_lay_0 : decode cc_Mo_lay 0 = .ok (.aload_n 0, 1) := by decide +kernel
theorem dd_Mo_lay_1 : decode cc_Mo_lay 1 = .ok (.iload_n 1, 1) := by decide +kernel
theorem dd_Mo_lay_2 : decode cc_Mo_lay 2 = .ok (.iload_n 2, 1) := by decide +kernel
theorem dd_Mo_lay_3 : decode cc_Mo_lay 3 = .ok (.invokevirtual 81, 3) := by decide +kernel
theorem dd_Mo_lay_6 : decode cc_Mo_lay 6 = .ok (.istore 4, 2) := by decide +kernel
theorem dd_Mo_lay_8 : decode cc_Mo_lay 8 = .ok (.iload 4, 2) := by decide +kernel
theorem dd_Mo_lay_10 : decode cc_Mo_lay 10 = .ok (.ifCond .ge 6, 3) := by decide +kernel
theorem dd_Mo_lay_13 : decode cc_Mo_lay 13 = .ok (.iload 4, 2) := by decide +kernel
theorem dd_Mo_lay_15 : decode cc_Mo_lay 15 = .ok (.ireturn, 1) := by decide +kernel
theorem dd_Mo_lay_16 : decode cc_Mo_lay 16 = .ok (.aload_n 0, 1) := by decide +kernel
theorem dd_Mo_lay_17 : decode cc_Mo_lay 17 = .ok (.getfield 13, 3) := by decide +kernel
theorem dd_Mo_lay_20 : decode cc_Mo_lay 20 = .ok (.bipush 40, 2) := by decide +kernel
theorem dd_Mo_lay_22 : decode cc_Mo_lay 22 = .ok (.iload_n 1, 1) := by decide +kernel
theorem dd_Mo_lay_23 : decode cc_Mo_lay 23 = .ok (.imul, 1) := by decide +kernel
theorem dd_Mo_lay_24 : decode cc_Mo_lay 24 = .ok (.iload_n 2, 1) := by decide +kernel
theorem dd_Mo_lay_25 : decode cc_Mo_lay 25 = .ok (.iadd, 1) := by decide +kernel
theorem dd_Mo_lay_26 : decode cc_Mo_lay 26 = .ok (.iaload, 1) := by decide +kernel
theorem dd_Mo_lay_27 : decode cc_Mo_lay 27 = .ok (.istore 5, 2) := by decide +kernel
theorem dd_Mo_lay_29 : decode cc_Mo_lay 29 = .ok (.aload_n 0, 1) := by decide +kernel
theorem dd_Mo_lay_30 : decode cc_Mo_lay 30 = .ok (.getfield 13, 3) := by decide +kernel
theorem dd_Mo_lay_33 : decode cc_Mo_lay 33 = .ok (.bipush 40, 2) := by decide +kernel
theorem dd_Mo_lay_35 : decode cc_Mo_lay 35 = .ok (.iload_n 1, 1) := by decide +kernel
theorem dd_Mo_lay_36 : decode cc_Mo_lay 36 = .ok (.imul, 1) := by decide +kernel
theorem dd_Mo_lay_37 : decode cc_Mo_lay 37 = .ok (.iload_n 2, 1) := by decide +kernel
theorem dd_Mo_lay_38 : decode cc_Mo_lay 38 = .ok (.iadd, 1) := by decide +kernel
theorem dd_Mo_lay_39 : decode cc_Mo_lay 39 = .ok (.iload_n 3, 1) := by decide +kernel
theorem dd_Mo_lay_40 : decode cc_Mo_lay 40 = .ok (.iastore, 1) := by decide +kernel
theorem dd_Mo_lay_41 : decode cc_Mo_lay 41 = .ok (.aload_n 0, 1) := by decide +kernel
theorem dd_Mo_lay_42 : decode cc_Mo_lay 42 = .ok (.iload 5, 2) := by decide +kernel
theorem dd_Mo_lay_44 : decode cc_Mo_lay 44 = .ok (.invokevirtual 85, 3) := by decide +kernel
theorem dd_Mo_lay_47 : decode cc_Mo_lay 47 = .ok (.ireturn, 1) := by decide +kernel
set_option maxRecDepth 100000 in
set_option maxHeartbeats 4000000 in
theorem ct_Mo_lay (l : Launch) (E : gf_E) (r i v : Int) (μ : gf_M) (hr : gf_R r) (hi : gf_R i) (hv : gf_R v) (hrs : ∀ r : Int, 0 ≤ r → r < 6 → -1 ≤ μ 66 r ∧ μ 66 r ≤ 40)  : gf_Mi l E yy_Mo_lay cc_Mo_lay 6 .int (gf_rm 3 67) 81 gf_ref μ [.ref (gf_ad E 65), .int (gf_i r), .int (gf_i i), .int (gf_i v)] (fun q μ' => (¬ (0 ≤ r ∧ r < 6) → q = -1 ∧ μ' = μ) ∧ (0 ≤ r ∧ r < 6 → (μ 66 r = -1 → q = -3 ∧ μ' = gm_fd μ 1) ∧ (μ 66 r ≠ -1 → (¬ (0 ≤ i ∧ i < μ 66 r) → q = -3 ∧ μ' = gm_fd μ 2) ∧ (0 ≤ i ∧ i < μ 66 r → q = 1 ∧ μ' = gm_tl (gf_up μ 67 (40 * r + i) v) (μ 67 (40 * r + i)))))) := by
  refine gf_mi (by decide +kernel) (Nat.le_of_ble_eq_true rfl) (by decide) (fun X Q hlx C hQ => ?_)
  subst hlx
  replace C : gf_C X E cc_Mo_lay 6 "GuardFiguresModel" (gf_rm 3 67) := C
  show gf_G X E Q 6 gf_φ μ 0 [(0, .ref (gf_ad E 65)), (1, .int (gf_i r)), (2, .int (gf_i i)), (3, .int (gf_i v))] []
  refine gf_aload_n C dd_Mo_lay_0 0 rfl ?_
  refine gf_iload_n C dd_Mo_lay_1 1 rfl ?_
  refine gf_iload_n C dd_Mo_lay_2 2 rfl ?_
  refine gf_callVi (st := []) (As := [.int (gf_i r), .int (gf_i i)]) C wk_Mo_81 gf_cl7 (show gf_is 81 65 0 7 26 by decide) (ct_Mo_lacksPlace (gf_xl X) E r i μ (by omega) (by omega) (hrs)) rfl ⟨rfl, rfl, rfl, rfl⟩ (Nat.le_of_ble_eq_true rfl) rfl dd_Mo_lay_3 (fun r3 m3 hR3 hp3 => ?_)
  refine gf_istore (lv' := [(4, .int (gf_i r3)), (0, .ref (gf_ad E 65)), (1, .int (gf_i r)), (2, .int (gf_i i)), (3, .int (gf_i v))]) C dd_Mo_lay_6 (by decide) rfl ?_
  refine gf_iload C dd_Mo_lay_8 0 rfl ?_
  refine gf_if_ge 16 C dd_Mo_lay_10 (by decide) (by omega) (fun h10 => ?_) (fun h10 => ?_)
  · skip
    have hin : 0 ≤ r ∧ r < 6 := by
      rcases Classical.em (0 ≤ r ∧ r < 6) with h | h
      · exact h
      · have := (hp3.1 h).1; omega
    have h2 := hp3.2 hin
    have hth : μ 66 r ≠ -1 := fun h => by have := (h2.1 h).1; omega
    have h3 := h2.2 hth
    have hpl : 0 ≤ i ∧ i < μ 66 r := by
      rcases Classical.em (0 ≤ i ∧ i < μ 66 r) with h | h
      · exact h
      · have := (h3.1 h).1; omega
    have hm3 := (h3.2 hpl).2
    have hrr := hrs r hin.1 hin.2
    clear hp3 h2 h3
    refine gf_aload_n C dd_Mo_lay_16 1 rfl ?_
    refine gf_getA (r := 67) C gf_cl7 fl_Mo_13 dd_Mo_lay_17 rfl (show gf_is 81 65 0 7 26 by decide) (by decide) (by decide) ?_
    refine gf_bipush C dd_Mo_lay_20 (by decide +kernel) ?_
    refine gf_iload_n C dd_Mo_lay_22 2 rfl ?_
    refine gf_imul C dd_Mo_lay_23 ?_
    refine gf_iload_n C dd_Mo_lay_24 3 rfl ?_
    refine gf_iadd C dd_Mo_lay_25 ?_
    refine gf_iald C dd_Mo_lay_26 (show gf_is 81 67 1 0 240 by decide) (by omega) (fun hv26 => ?_)
    refine gf_nm (fun x27 hx27 => ?_)
    refine gf_istore (lv' := [(5, .int (gf_i x27)), (4, .int (gf_i r3)), (0, .ref (gf_ad E 65)), (1, .int (gf_i r)), (2, .int (gf_i i)), (3, .int (gf_i v))]) C dd_Mo_lay_27 (by decide) rfl ?_
    refine gf_aload_n C dd_Mo_lay_29 2 rfl ?_
    refine gf_getA (r := 67) C gf_cl7 fl_Mo_13 dd_Mo_lay_30 rfl (show gf_is 81 65 0 7 26 by decide) (by decide) (by decide) ?_
    refine gf_bipush C dd_Mo_lay_33 (by decide +kernel) ?_
    refine gf_iload_n C dd_Mo_lay_35 3 rfl ?_
    refine gf_imul C dd_Mo_lay_36 ?_
    refine gf_iload_n C dd_Mo_lay_37 4 rfl ?_
    refine gf_iadd C dd_Mo_lay_38 ?_
    refine gf_iload_n C dd_Mo_lay_39 5 rfl ?_
    refine gf_iast C dd_Mo_lay_40 (show gf_is 81 67 1 0 240 by decide) (by omega) (by omega) ?_
    refine gf_nmM (fun m40 hm40 => ?_)
    refine gf_aload_n C dd_Mo_lay_41 2 rfl ?_
    refine gf_iload C dd_Mo_lay_42 0 rfl ?_
    refine gf_callVi (st := []) (As := [.int (gf_i x27)]) C wk_Mo_85 gf_cl7 (show gf_is 81 65 0 7 26 by decide) (ct_Mo_tells (gf_xl X) E x27 m40 (by omega)) rfl ⟨rfl, rfl, rfl, rfl⟩ (Nat.le_of_ble_eq_true rfl) rfl dd_Mo_lay_44 (fun r44 m44 hR44 hp44 => ?_)
    refine gf_iret C hQ dd_Mo_lay_47 (by omega) ?_
    refine ⟨fun h => absurd hin h, fun _ => ⟨fun h => absurd h hth, fun _ => ⟨fun h => absurd hpl h, fun _ => ⟨hp44.1, ?_⟩⟩⟩⟩
    rw [hp44.2, hx27, hm40, hm3]
  · skip
    refine gf_iload C dd_Mo_lay_13 0 rfl ?_
    refine gf_iret C hQ dd_Mo_lay_15 (by omega) ?_
    have hne : ¬ (r3 = 0) := by omega
    exact ⟨hp3.1, fun hin => ⟨(hp3.2 hin).1, fun hth => ⟨((hp3.2 hin).2 hth).1, fun hpl => absurd (((hp3.2 hin).2 hth).2 hpl).1 hne⟩⟩⟩

theorem dd_Mo_at_0 : decode cc_Mo_at 0 = .ok (.aload_n 0, 1) := by decide +kernel
theorem dd_Mo_at_1 : decode cc_Mo_at 1 = .ok (.iload_n 1, 1) := by decide +kernel
theorem dd_Mo_at_2 : decode cc_Mo_at 2 = .ok (.iload_n 2, 1) := by decide +kernel
theorem dd_Mo_at_3 : decode cc_Mo_at 3 = .ok (.invokevirtual 81, 3) := by decide +kernel
theorem dd_Mo_at_6 : decode cc_Mo_at 6 = .ok (.istore_n 3, 1) := by decide +kernel
theorem dd_Mo_at_7 : decode cc_Mo_at 7 = .ok (.iload_n 3, 1) := by decide +kernel
theorem dd_Mo_at_8 : decode cc_Mo_at 8 = .ok (.ifCond .ge 7, 3) := by decide +kernel
theorem dd_Mo_at_11 : decode cc_Mo_at 11 = .ok (.iload_n 3, 1) := by decide +kernel
theorem dd_Mo_at_12 : decode cc_Mo_at 12 = .ok (.goto 18, 3) := by decide +kernel
theorem dd_Mo_at_15 : decode cc_Mo_at 15 = .ok (.aload_n 0, 1) := by decide +kernel
theorem dd_Mo_at_16 : decode cc_Mo_at 16 = .ok (.aload_n 0, 1) := by decide +kernel
theorem dd_Mo_at_17 : decode cc_Mo_at 17 = .ok (.getfield 13, 3) := by decide +kernel
theorem dd_Mo_at_20 : decode cc_Mo_at 20 = .ok (.bipush 40, 2) := by decide +kernel
theorem dd_Mo_at_22 : decode cc_Mo_at 22 = .ok (.iload_n 1, 1) := by decide +kernel
theorem dd_Mo_at_23 : decode cc_Mo_at 23 = .ok (.imul, 1) := by decide +kernel
theorem dd_Mo_at_24 : decode cc_Mo_at 24 = .ok (.iload_n 2, 1) := by decide +kernel
theorem dd_Mo_at_25 : decode cc_Mo_at 25 = .ok (.iadd, 1) := by decide +kernel
theorem dd_Mo_at_26 : decode cc_Mo_at 26 = .ok (.iaload, 1) := by decide +kernel
theorem dd_Mo_at_27 : decode cc_Mo_at 27 = .ok (.invokevirtual 85, 3) := by decide +kernel
theorem dd_Mo_at_30 : decode cc_Mo_at 30 = .ok (.ireturn, 1) := by decide +kernel
set_option maxRecDepth 100000 in
set_option maxHeartbeats 4000000 in
theorem ct_Mo_at (l : Launch) (E : gf_E) (r i : Int) (μ : gf_M) (hr : gf_R r) (hi : gf_R i) (hrs : ∀ r : Int, 0 ≤ r → r < 6 → -1 ≤ μ 66 r ∧ μ 66 r ≤ 40)  : gf_Mi l E yy_Mo_at cc_Mo_at 4 .int (gf_rm 3 67) 81 gf_ref μ [.ref (gf_ad E 65), .int (gf_i r), .int (gf_i i)] (fun q μ' => (¬ (0 ≤ r ∧ r < 6) → q = -1 ∧ μ' = μ) ∧ (0 ≤ r ∧ r < 6 → (μ 66 r = -1 → q = -3 ∧ μ' = gm_fd μ 1) ∧ (μ 66 r ≠ -1 → (¬ (0 ≤ i ∧ i < μ 66 r) → q = -3 ∧ μ' = gm_fd μ 2) ∧ (0 ≤ i ∧ i < μ 66 r → q = 1 ∧ μ' = gm_tl μ (μ 67 (40 * r + i)))))) := by
  refine gf_mi (by decide +kernel) (Nat.le_of_ble_eq_true rfl) (by decide) (fun X Q hlx C hQ => ?_)
  subst hlx
  replace C : gf_C X E cc_Mo_at 4 "GuardFiguresModel" (gf_rm 3 67) := C
  show gf_G X E Q 4 gf_φ μ 0 [(0, .ref (gf_ad E 65)), (1, .int (gf_i r)), (2, .int (gf_i i))] []
  refine gf_aload_n C dd_Mo_at_0 0 rfl ?_
  refine gf_iload_n C dd_Mo_at_1 1 rfl ?_
  refine gf_iload_n C dd_Mo_at_2 2 rfl ?_
  refine gf_callVi (st := []) (As := [.int (gf_i r), .int (gf_i i)]) C wk_Mo_81 gf_cl7 (show gf_is 81 65 0 7 26 by decide) (ct_Mo_lacksPlace (gf_xl X) E r i μ (by omega) (by omega) (hrs)) rfl ⟨rfl, rfl, rfl, rfl⟩ (Nat.le_of_ble_eq_true rfl) rfl dd_Mo_at_3 (fun r3 m3 hR3 hp3 => ?_)
  refine gf_istore_n (lv' := [(3, .int (gf_i r3)), (0, .ref (gf_ad E 65)), (1, .int (gf_i r)), (2, .int (gf_i i))]) C dd_Mo_at_6 (by decide) rfl ?_
  refine gf_iload_n C dd_Mo_at_7 0 rfl ?_
  refine gf_if_ge 15 C dd_Mo_at_8 (by decide) (by omega) (fun h8 => ?_) (fun h8 => ?_)
  · skip
    have hin : 0 ≤ r ∧ r < 6 := by
      rcases Classical.em (0 ≤ r ∧ r < 6) with h | h
      · exact h
      · have := (hp3.1 h).1; omega
    have h2 := hp3.2 hin
    have hth : μ 66 r ≠ -1 := fun h => by have := (h2.1 h).1; omega
    have h3 := h2.2 hth
    have hpl : 0 ≤ i ∧ i < μ 66 r := by
      rcases Classical.em (0 ≤ i ∧ i < μ 66 r) with h | h
      · exact h
      · have := (h3.1 h).1; omega
    have hm3 := (h3.2 hpl).2
    have hrr := hrs r hin.1 hin.2
    clear hp3 h2 h3
    refine gf_aload_n C dd_Mo_at_15 1 rfl ?_
    refine gf_aload_n C dd_Mo_at_16 1 rfl ?_
    refine gf_getA (r := 67) C gf_cl7 fl_Mo_13 dd_Mo_at_17 rfl (show gf_is 81 65 0 7 26 by decide) (by decide) (by decide) ?_
    refine gf_bipush C dd_Mo_at_20 (by decide +kernel) ?_
    refine gf_iload_n C dd_Mo_at_22 2 rfl ?_
    refine gf_imul C dd_Mo_at_23 ?_
    refine gf_iload_n C dd_Mo_at_24 3 rfl ?_
    refine gf_iadd C dd_Mo_at_25 ?_
    refine gf_iald C dd_Mo_at_26 (show gf_is 81 67 1 0 240 by decide) (by omega) (fun hv26 => ?_)
    refine gf_callVi (st := []) (As := [.int (gf_i (m3 67 ((40 * r) + i)))]) C wk_Mo_85 gf_cl7 (show gf_is 81 65 0 7 26 by decide) (ct_Mo_tells (gf_xl X) E (m3 67 ((40 * r) + i)) m3 (by omega)) rfl ⟨rfl, rfl, rfl, rfl⟩ (Nat.le_of_ble_eq_true rfl) rfl dd_Mo_at_27 (fun r27 m27 hR27 hp27 => ?_)
    refine gf_iret C hQ dd_Mo_at_30 (by omega) ?_
    first
    | (have hne : ¬ (r3 = 0) := by omega
       exact ⟨hp3.1, fun hin => ⟨(hp3.2 hin).1, fun hth => ⟨((hp3.2 hin).2 hth).1, fun hpl => absurd (((hp3.2 hin).2 hth).2 hpl).1 hne⟩⟩⟩)
    | (refine ⟨fun h => absurd hin h, fun _ => ⟨fun h => absurd h hth, fun _ => ⟨fun h => absurd hpl h, fun _ => ⟨hp27.1, ?_⟩⟩⟩⟩
       rw [hp27.2, hm3])
  · skip
    refine gf_iload_n C dd_Mo_at_11 0 rfl ?_
    refine gf_goto 30 C dd_Mo_at_12 (by decide) ?_
    refine gf_iret C hQ dd_Mo_at_30 (by omega) ?_
    first
    | (have hne : ¬ (r3 = 0) := by omega
       exact ⟨hp3.1, fun hin => ⟨(hp3.2 hin).1, fun hth => ⟨((hp3.2 hin).2 hth).1, fun hpl => absurd (((hp3.2 hin).2 hth).2 hpl).1 hne⟩⟩⟩)
    | (refine ⟨fun h => absurd hin h, fun _ => ⟨fun h => absurd h hth, fun _ => ⟨fun h => absurd hpl h, fun _ => ⟨hp27.1, ?_⟩⟩⟩⟩
       rw [hp27.2, hm3])

theorem dd_Mo_tear_0 : decode cc_Mo_tear 0 = .ok (.iload_n 1, 1) := by decide +kernel
theorem dd_Mo_tear_1 : decode cc_Mo_tear 1 = .ok (.invokestatic 73, 3) := by decide +kernel
theorem dd_Mo_tear_4 : decode cc_Mo_tear 4 = .ok (.ifCond .ne 5, 3) := by decide +kernel
theorem dd_Mo_tear_7 : decode cc_Mo_tear 7 = .ok (.iconst (-1), 1) := by decide +kernel
theorem dd_Mo_tear_8 : decode cc_Mo_tear 8 = .ok (.ireturn, 1) := by decide +kernel
theorem dd_Mo_tear_9 : decode cc_Mo_tear 9 = .ok (.aload_n 0, 1) := by decide +kernel
theorem dd_Mo_tear_10 : decode cc_Mo_tear 10 = .ok (.getfield 7, 3) := by decide +kernel
theorem dd_Mo_tear_13 : decode cc_Mo_tear 13 = .ok (.iload_n 1, 1) := by decide +kernel
theorem dd_Mo_tear_14 : decode cc_Mo_tear 14 = .ok (.iaload, 1) := by decide +kernel
theorem dd_Mo_tear_15 : decode cc_Mo_tear 15 = .ok (.ifCond .ge 9, 3) := by decide +kernel
theorem dd_Mo_tear_18 : decode cc_Mo_tear 18 = .ok (.aload_n 0, 1) := by decide +kernel
theorem dd_Mo_tear_19 : decode cc_Mo_tear 19 = .ok (.iconst 1, 1) := by decide +kernel
theorem dd_Mo_tear_20 : decode cc_Mo_tear 20 = .ok (.invokevirtual 77, 3) := by decide +kernel
theorem dd_Mo_tear_23 : decode cc_Mo_tear 23 = .ok (.ireturn, 1) := by decide +kernel
theorem dd_Mo_tear_24 : decode cc_Mo_tear 24 = .ok (.aload_n 0, 1) := by decide +kernel
theorem dd_Mo_tear_25 : decode cc_Mo_tear 25 = .ok (.getfield 7, 3) := by decide +kernel
theorem dd_Mo_tear_28 : decode cc_Mo_tear 28 = .ok (.iload_n 1, 1) := by decide +kernel
theorem dd_Mo_tear_29 : decode cc_Mo_tear 29 = .ok (.iconst (-1), 1) := by decide +kernel
theorem dd_Mo_tear_30 : decode cc_Mo_tear 30 = .ok (.iastore, 1) := by decide +kernel
theorem dd_Mo_tear_31 : decode cc_Mo_tear 31 = .ok (.iconst 1, 1) := by decide +kernel
theorem dd_Mo_tear_32 : decode cc_Mo_tear 32 = .ok (.ireturn, 1) := by decide +kernel
set_option maxRecDepth 100000 in
set_option maxHeartbeats 4000000 in
theorem ct_Mo_tear (l : Launch) (E : gf_E) (r : Int) (μ : gf_M) (hr : gf_R r) (hrs : ∀ r : Int, 0 ≤ r → r < 6 → -1 ≤ μ 66 r ∧ μ 66 r ≤ 40)  : gf_Mi l E yy_Mo_tear cc_Mo_tear 2 .int (gf_rm 2 45) 81 gf_ref μ [.ref (gf_ad E 65), .int (gf_i r)] (fun q μ' => (¬ (0 ≤ r ∧ r < 6) → q = -1 ∧ μ' = μ) ∧ (0 ≤ r ∧ r < 6 → (μ 66 r = -1 → q = -3 ∧ μ' = gm_fd μ 1) ∧ (μ 66 r ≠ -1 → q = 1 ∧ μ' = gf_up μ 66 r (-1)))) := by
  refine gf_mi (by decide +kernel) (Nat.le_of_ble_eq_true rfl) (by decide) (fun X Q hlx C hQ => ?_)
  subst hlx
  replace C : gf_C X E cc_Mo_tear 2 "GuardFiguresModel" (gf_rm 2 45) := C
  show gf_G X E Q 2 gf_φ μ 0 [(0, .ref (gf_ad E 65)), (1, .int (gf_i r))] []
  refine gf_iload_n C dd_Mo_tear_0 1 rfl ?_
  refine gf_callSi (st := []) (As := [.int (gf_i r)]) C wk_Mo_73 (ct_Mo_isRow (gf_xl X) E r μ (by omega)) rfl ⟨rfl, rfl, rfl, rfl⟩ (Nat.le_of_ble_eq_true rfl) rfl dd_Mo_tear_1 (fun r1 m1 hR1 hp1 => ?_)
  have hr1 := hp1.1
  refine gf_pm hp1.2 ?_
  refine gf_if_ne 9 C dd_Mo_tear_4 (by decide) (by omega) (fun h4 => ?_) (fun h4 => ?_)
  · skip
    have hin : 0 ≤ r ∧ r < 6 := by omega
    have hrr := hrs r hin.1 hin.2
    refine gf_aload_n C dd_Mo_tear_9 0 rfl ?_
    refine gf_getA (r := 66) C gf_cl7 fl_Mo_7 dd_Mo_tear_10 rfl (show gf_is 81 65 0 7 26 by decide) (by decide) (by decide) ?_
    refine gf_iload_n C dd_Mo_tear_13 1 rfl ?_
    refine gf_iald C dd_Mo_tear_14 (show gf_is 81 66 1 0 6 by decide) (by omega) (fun hv14 => ?_)
    refine gf_if_ge 24 C dd_Mo_tear_15 (by decide) (by omega) (fun h15 => ?_) (fun h15 => ?_)
    · skip
      refine gf_aload_n C dd_Mo_tear_24 0 rfl ?_
      refine gf_getA (r := 66) C gf_cl7 fl_Mo_7 dd_Mo_tear_25 rfl (show gf_is 81 65 0 7 26 by decide) (by decide) (by decide) ?_
      refine gf_iload_n C dd_Mo_tear_28 1 rfl ?_
      refine gf_iconst C dd_Mo_tear_29 ?_
      refine gf_iast C dd_Mo_tear_30 (show gf_is 81 66 1 0 6 by decide) (by omega) (by omega) ?_
      refine gf_nmM (fun m30 hm30 => ?_)
      refine gf_iconst C dd_Mo_tear_31 ?_
      refine gf_iret C hQ dd_Mo_tear_32 (by omega) ?_
      exact ⟨fun h => absurd h (by omega), fun _ => ⟨fun h => absurd h (by omega), fun _ => ⟨rfl, hm30⟩⟩⟩
    · skip
      refine gf_aload_n C dd_Mo_tear_18 0 rfl ?_
      refine gf_iconst C dd_Mo_tear_19 ?_
      refine gf_callVi (st := []) (As := [.int (gf_i 1)]) C wk_Mo_77 gf_cl7 (show gf_is 81 65 0 7 26 by decide) (ct_Mo_find (gf_xl X) E 1 μ (by omega)) rfl ⟨rfl, rfl, rfl, rfl⟩ (Nat.le_of_ble_eq_true rfl) rfl dd_Mo_tear_20 (fun r20 m20 hR20 hp20 => ?_)
      refine gf_iret C hQ dd_Mo_tear_23 (by omega) ?_
      exact ⟨fun h => absurd h (by omega), fun _ => ⟨fun _ => hp20, fun h => absurd h (by omega)⟩⟩
  · skip
    refine gf_iconst C dd_Mo_tear_7 ?_
    refine gf_iret C hQ dd_Mo_tear_8 (by omega) ?_
    exact ⟨fun _ => ⟨rfl, rfl⟩, fun h => absurd h (by omega)⟩

theorem dd_Mo_mean_0 : decode cc_Mo_mean 0 = .ok (.iload_n 1, 1) := by decide +kernel
theorem dd_Mo_mean_1 : decode cc_Mo_mean 1 = .ok (.invokestatic 73, 3) := by decide +kernel
theorem dd_Mo_mean_4 : decode cc_Mo_mean 4 = .ok (.ifCond .ne 5, 3) := by decide +kernel
theorem dd_Mo_mean_7 : decode cc_Mo_mean 7 = .ok (.iconst (-1), 1) := by decide +kernel
theorem dd_Mo_mean_8 : decode cc_Mo_mean 8 = .ok (.ireturn, 1) := by decide +kernel
theorem dd_Mo_mean_9 : decode cc_Mo_mean 9 = .ok (.aload_n 0, 1) := by decide +kernel
theorem dd_Mo_mean_10 : decode cc_Mo_mean 10 = .ok (.getfield 7, 3) := by decide +kernel
theorem dd_Mo_mean_13 : decode cc_Mo_mean 13 = .ok (.iload_n 1, 1) := by decide +kernel
theorem dd_Mo_mean_14 : decode cc_Mo_mean 14 = .ok (.iaload, 1) := by decide +kernel
theorem dd_Mo_mean_15 : decode cc_Mo_mean 15 = .ok (.ifCond .ge 9, 3) := by decide +kernel
theorem dd_Mo_mean_18 : decode cc_Mo_mean 18 = .ok (.aload_n 0, 1) := by decide +kernel
theorem dd_Mo_mean_19 : decode cc_Mo_mean 19 = .ok (.iconst 1, 1) := by decide +kernel
theorem dd_Mo_mean_20 : decode cc_Mo_mean 20 = .ok (.invokevirtual 77, 3) := by decide +kernel
theorem dd_Mo_mean_23 : decode cc_Mo_mean 23 = .ok (.ireturn, 1) := by decide +kernel
theorem dd_Mo_mean_24 : decode cc_Mo_mean 24 = .ok (.aload_n 0, 1) := by decide +kernel
theorem dd_Mo_mean_25 : decode cc_Mo_mean 25 = .ok (.getfield 7, 3) := by decide +kernel
theorem dd_Mo_mean_28 : decode cc_Mo_mean 28 = .ok (.iload_n 1, 1) := by decide +kernel
theorem dd_Mo_mean_29 : decode cc_Mo_mean 29 = .ok (.iaload, 1) := by decide +kernel
theorem dd_Mo_mean_30 : decode cc_Mo_mean 30 = .ok (.ifCond .ne 9, 3) := by decide +kernel
theorem dd_Mo_mean_33 : decode cc_Mo_mean 33 = .ok (.aload_n 0, 1) := by decide +kernel
theorem dd_Mo_mean_34 : decode cc_Mo_mean 34 = .ok (.iconst 4, 1) := by decide +kernel
theorem dd_Mo_mean_35 : decode cc_Mo_mean 35 = .ok (.invokevirtual 77, 3) := by decide +kernel
theorem dd_Mo_mean_38 : decode cc_Mo_mean 38 = .ok (.ireturn, 1) := by decide +kernel
theorem dd_Mo_mean_39 : decode cc_Mo_mean 39 = .ok (.lconst 0, 1) := by decide +kernel
theorem dd_Mo_mean_40 : decode cc_Mo_mean 40 = .ok (.lstore_n 2, 1) := by decide +kernel
theorem dd_Mo_mean_41 : decode cc_Mo_mean 41 = .ok (.iconst 0, 1) := by decide +kernel
theorem dd_Mo_mean_42 : decode cc_Mo_mean 42 = .ok (.istore 4, 2) := by decide +kernel
theorem dd_Mo_mean_44 : decode cc_Mo_mean 44 = .ok (.iload 4, 2) := by decide +kernel
theorem dd_Mo_mean_46 : decode cc_Mo_mean 46 = .ok (.aload_n 0, 1) := by decide +kernel
theorem dd_Mo_mean_47 : decode cc_Mo_mean 47 = .ok (.getfield 7, 3) := by decide +kernel
theorem dd_Mo_mean_50 : decode cc_Mo_mean 50 = .ok (.iload_n 1, 1) := by decide +kernel
theorem dd_Mo_mean_51 : decode cc_Mo_mean 51 = .ok (.iaload, 1) := by decide +kernel
theorem dd_Mo_mean_52 : decode cc_Mo_mean 52 = .ok (.if_icmp .ge 25, 3) := by decide +kernel
theorem dd_Mo_mean_55 : decode cc_Mo_mean 55 = .ok (.lload_n 2, 1) := by decide +kernel
theorem dd_Mo_mean_56 : decode cc_Mo_mean 56 = .ok (.aload_n 0, 1) := by decide +kernel
theorem dd_Mo_mean_57 : decode cc_Mo_mean 57 = .ok (.getfield 13, 3) := by decide +kernel
theorem dd_Mo_mean_60 : decode cc_Mo_mean 60 = .ok (.bipush 40, 2) := by decide +kernel
theorem dd_Mo_mean_62 : decode cc_Mo_mean 62 = .ok (.iload_n 1, 1) := by decide +kernel
theorem dd_Mo_mean_63 : decode cc_Mo_mean 63 = .ok (.imul, 1) := by decide +kernel
theorem dd_Mo_mean_64 : decode cc_Mo_mean 64 = .ok (.iload 4, 2) := by decide +kernel
theorem dd_Mo_mean_66 : decode cc_Mo_mean 66 = .ok (.iadd, 1) := by decide +kernel
theorem dd_Mo_mean_67 : decode cc_Mo_mean 67 = .ok (.iaload, 1) := by decide +kernel
theorem dd_Mo_mean_68 : decode cc_Mo_mean 68 = .ok (.i2l, 1) := by decide +kernel
theorem dd_Mo_mean_69 : decode cc_Mo_mean 69 = .ok (.ladd, 1) := by decide +kernel
theorem dd_Mo_mean_70 : decode cc_Mo_mean 70 = .ok (.lstore_n 2, 1) := by decide +kernel
theorem dd_Mo_mean_71 : decode cc_Mo_mean 71 = .ok (.iinc 4 1, 3) := by decide +kernel
theorem dd_Mo_mean_74 : decode cc_Mo_mean 74 = .ok (.goto (-30), 3) := by decide +kernel
theorem dd_Mo_mean_77 : decode cc_Mo_mean 77 = .ok (.aload_n 0, 1) := by decide +kernel
theorem dd_Mo_mean_78 : decode cc_Mo_mean 78 = .ok (.lload_n 2, 1) := by decide +kernel
theorem dd_Mo_mean_79 : decode cc_Mo_mean 79 = .ok (.aload_n 0, 1) := by decide +kernel
theorem dd_Mo_mean_80 : decode cc_Mo_mean 80 = .ok (.getfield 7, 3) := by decide +kernel
theorem dd_Mo_mean_83 : decode cc_Mo_mean 83 = .ok (.iload_n 1, 1) := by decide +kernel
theorem dd_Mo_mean_84 : decode cc_Mo_mean 84 = .ok (.iaload, 1) := by decide +kernel
theorem dd_Mo_mean_85 : decode cc_Mo_mean 85 = .ok (.i2l, 1) := by decide +kernel
theorem dd_Mo_mean_86 : decode cc_Mo_mean 86 = .ok (.ldiv, 1) := by decide +kernel
theorem dd_Mo_mean_87 : decode cc_Mo_mean 87 = .ok (.l2i, 1) := by decide +kernel
theorem dd_Mo_mean_88 : decode cc_Mo_mean 88 = .ok (.invokevirtual 85, 3) := by decide +kernel
theorem dd_Mo_mean_91 : decode cc_Mo_mean 91 = .ok (.ireturn, 1) := by decide +kernel
set_option maxRecDepth 100000 in
set_option maxHeartbeats 4000000 in
theorem ct_Mo_mean (l : Launch) (E : gf_E) (r : Int) (μ : gf_M) (hr : gf_R r) (hrs : ∀ r : Int, 0 ≤ r → r < 6 → -1 ≤ μ 66 r ∧ μ 66 r ≤ 40)  : gf_Mi l E yy_Mo_mean cc_Mo_mean 5 .int (gf_rm 2 45) 81 gf_ref μ [.ref (gf_ad E 65), .int (gf_i r)] (fun q μ' => (¬ (0 ≤ r ∧ r < 6) → q = -1 ∧ μ' = μ) ∧ (0 ≤ r ∧ r < 6 → (μ 66 r = -1 → q = -3 ∧ μ' = gm_fd μ 1) ∧ (μ 66 r = 0 → q = -3 ∧ μ' = gm_fd μ 4) ∧ (1 ≤ μ 66 r → q = 1 ∧ μ' = gm_tl μ (gf_w ((pf_sum (fun j => μ 67 (40 * r + j)) (μ 66 r).toNat).tdiv (μ 66 r)))))) := by
  refine gf_mi (by decide +kernel) (Nat.le_of_ble_eq_true rfl) (by decide) (fun X Q hlx C hQ => ?_)
  subst hlx
  replace C : gf_C X E cc_Mo_mean 5 "GuardFiguresModel" (gf_rm 2 45) := C
  show gf_G X E Q 5 gf_φ μ 0 [(0, .ref (gf_ad E 65)), (1, .int (gf_i r))] []
  refine gf_iload_n C dd_Mo_mean_0 1 rfl ?_
  refine gf_callSi (st := []) (As := [.int (gf_i r)]) C wk_Mo_73 (ct_Mo_isRow (gf_xl X) E r μ (by omega)) rfl ⟨rfl, rfl, rfl, rfl⟩ (Nat.le_of_ble_eq_true rfl) rfl dd_Mo_mean_1 (fun r1 m1 hR1 hp1 => ?_)
  have hr1 := hp1.1
  refine gf_pm hp1.2 ?_
  refine gf_if_ne 9 C dd_Mo_mean_4 (by decide) (by omega) (fun h4 => ?_) (fun h4 => ?_)
  · skip
    have hin : 0 ≤ r ∧ r < 6 := by omega
    have hrr := hrs r hin.1 hin.2
    refine gf_aload_n C dd_Mo_mean_9 0 rfl ?_
    refine gf_getA (r := 66) C gf_cl7 fl_Mo_7 dd_Mo_mean_10 rfl (show gf_is 81 65 0 7 26 by decide) (by decide) (by decide) ?_
    refine gf_iload_n C dd_Mo_mean_13 1 rfl ?_
    refine gf_iald C dd_Mo_mean_14 (show gf_is 81 66 1 0 6 by decide) (by omega) (fun hv14 => ?_)
    refine gf_if_ge 24 C dd_Mo_mean_15 (by decide) (by omega) (fun h15 => ?_) (fun h15 => ?_)
    · skip
      refine gf_aload_n C dd_Mo_mean_24 0 rfl ?_
      refine gf_getA (r := 66) C gf_cl7 fl_Mo_7 dd_Mo_mean_25 rfl (show gf_is 81 65 0 7 26 by decide) (by decide) (by decide) ?_
      refine gf_iload_n C dd_Mo_mean_28 1 rfl ?_
      refine gf_iald C dd_Mo_mean_29 (show gf_is 81 66 1 0 6 by decide) (by omega) (fun hv29 => ?_)
      refine gf_if_ne 39 C dd_Mo_mean_30 (by decide) (by omega) (fun h30 => ?_) (fun h30 => ?_)
      · skip
        refine gf_lconst 0 C dd_Mo_mean_39 (by decide +kernel) ?_
        refine gf_lstore_n (lv' := [(2, .long (gf_l 0)), (0, .ref (gf_ad E 65)), (1, .int (gf_i r))]) C dd_Mo_mean_40 (by decide) rfl ?_
        refine gf_iconst C dd_Mo_mean_41 ?_
        refine gf_istore (lv' := [(4, .int (gf_i 0)), (2, .long (gf_l 0)), (0, .ref (gf_ad E 65)), (1, .int (gf_i r))]) C dd_Mo_mean_42 (by decide) rfl ?_
        have L44_1 : ∀ (N : Nat) (s i : Int) , (0 ≤ i ∧ i ≤ μ 66 r ∧ s = pf_sum (fun j => μ 67 (40 * r + j)) i.toNat ∧ (-2147483648 * i ≤ s ∧ s ≤ 2147483647 * i)) → (40 - i).toNat < N → gf_G X E Q 5 gf_φ μ 44 [(2, .long (gf_l s)), (4, .int (gf_i i)), (0, .ref (gf_ad E 65)), (1, .int (gf_i r))] [] := by
          intro N
          induction N with
          | zero => intro s i hinv hN; exact absurd hN (Nat.not_lt_zero _)
          | succ N ih44_1 =>
            intro s i hinv hN
            have hinv0 := hinv
            obtain ⟨hi0, hi1, hs, hsR⟩ := hinv
            refine gf_iload C dd_Mo_mean_44 1 rfl ?_
            refine gf_aload_n C dd_Mo_mean_46 2 rfl ?_
            refine gf_getA (r := 66) C gf_cl7 fl_Mo_7 dd_Mo_mean_47 rfl (show gf_is 81 65 0 7 26 by decide) (by decide) (by decide) ?_
            refine gf_iload_n C dd_Mo_mean_50 3 rfl ?_
            refine gf_iald C dd_Mo_mean_51 (show gf_is 81 66 1 0 6 by decide) (by omega) (fun hv51 => ?_)
            refine gf_icmp_ge 77 C dd_Mo_mean_52 (by decide) (by omega) (by omega) (fun h52 => ?_) (fun h52 => ?_)
            · skip
              refine gf_aload_n C dd_Mo_mean_77 2 rfl ?_
              refine gf_lload_n C dd_Mo_mean_78 0 rfl ?_
              refine gf_aload_n C dd_Mo_mean_79 2 rfl ?_
              refine gf_getA (r := 66) C gf_cl7 fl_Mo_7 dd_Mo_mean_80 rfl (show gf_is 81 65 0 7 26 by decide) (by decide) (by decide) ?_
              refine gf_iload_n C dd_Mo_mean_83 3 rfl ?_
              refine gf_iald C dd_Mo_mean_84 (show gf_is 81 66 1 0 6 by decide) (by omega) (fun hv84 => ?_)
              refine gf_gi2l C dd_Mo_mean_85 (by omega) ?_
              refine gf_ldiv C dd_Mo_mean_86 (by omega) ?_
              refine gf_gl2i C dd_Mo_mean_87 ?_
              refine gf_cvi (gf_w_i (Int.tdiv s (μ 66 r))).symm ?_
              refine gf_callVi (st := []) (As := [.int (gf_i (gf_w (Int.tdiv s (μ 66 r))))]) C wk_Mo_85 gf_cl7 (show gf_is 81 65 0 7 26 by decide) (ct_Mo_tells (gf_xl X) E (gf_w (Int.tdiv s (μ 66 r))) μ (gf_w_R _)) rfl ⟨rfl, rfl, rfl, rfl⟩ (Nat.le_of_ble_eq_true rfl) rfl dd_Mo_mean_88 (fun r88 m88 hR88 hp88 => ?_)
              refine gf_iret C hQ dd_Mo_mean_91 (by omega) ?_
              have ei : i = μ 66 r := by omega
              rw [ei] at hs
              refine ⟨fun h => absurd h (by omega), fun _ => ⟨fun h => absurd h (by omega), fun h => absurd h (by omega), fun _ => ⟨hp88.1, ?_⟩⟩⟩
              rw [hp88.2, hs]
            · skip
              refine gf_lload_n C dd_Mo_mean_55 0 rfl ?_
              refine gf_aload_n C dd_Mo_mean_56 2 rfl ?_
              refine gf_getA (r := 67) C gf_cl7 fl_Mo_13 dd_Mo_mean_57 rfl (show gf_is 81 65 0 7 26 by decide) (by decide) (by decide) ?_
              refine gf_bipush C dd_Mo_mean_60 (by decide +kernel) ?_
              refine gf_iload_n C dd_Mo_mean_62 3 rfl ?_
              refine gf_imul C dd_Mo_mean_63 ?_
              refine gf_iload C dd_Mo_mean_64 1 rfl ?_
              refine gf_iadd C dd_Mo_mean_66 ?_
              refine gf_iald C dd_Mo_mean_67 (show gf_is 81 67 1 0 240 by decide) (by omega) (fun hv67 => ?_)
              refine gf_gi2l C dd_Mo_mean_68 (by omega) ?_
              refine gf_ladd C dd_Mo_mean_69 ?_
              refine gf_nml (fun x70 hx70 => ?_)
              refine gf_lstore_n (lv' := [(2, .long (gf_l x70)), (4, .int (gf_i i)), (0, .ref (gf_ad E 65)), (1, .int (gf_i r))]) C dd_Mo_mean_70 (by decide) rfl ?_
              obtain ⟨x71, hx71⟩ : ∃ y : Int, y = i + 1 := ⟨_, rfl⟩
              refine gf_iinc (q := 1) (v := x71) (lv' := [(4, .int (gf_i x71)), (2, .long (gf_l x70)), (0, .ref (gf_ad E 65)), (1, .int (gf_i r))]) C dd_Mo_mean_71 rfl hx71 (by decide) rfl ?_
              refine gf_goto 44 C dd_Mo_mean_74 (by decide) ?_
              refine gf_lsub [1, 0, 2, 3] rfl ?_
              exact ih44_1 x70 x71 (by
                      refine ⟨by omega, by omega, ?_, by omega⟩
                      rw [show x71.toNat = i.toNat + 1 by omega]
                      show _ = pf_sum _ i.toNat + μ 67 (40 * r + ((i.toNat : Nat) : Int))
                      rw [← hs, show ((i.toNat : Nat) : Int) = i by omega]
                      exact hx70) (by omega)
        refine gf_lsub [1, 0, 2, 3] rfl ?_
        exact L44_1 _ 0 0 (⟨by omega, by omega, rfl, by omega⟩) (Nat.lt_succ_self _)
      · skip
        refine gf_aload_n C dd_Mo_mean_33 0 rfl ?_
        refine gf_iconst C dd_Mo_mean_34 ?_
        refine gf_callVi (st := []) (As := [.int (gf_i 4)]) C wk_Mo_77 gf_cl7 (show gf_is 81 65 0 7 26 by decide) (ct_Mo_find (gf_xl X) E 4 μ (by omega)) rfl ⟨rfl, rfl, rfl, rfl⟩ (Nat.le_of_ble_eq_true rfl) rfl dd_Mo_mean_35 (fun r35 m35 hR35 hp35 => ?_)
        refine gf_iret C hQ dd_Mo_mean_38 (by omega) ?_
        exact ⟨fun h => absurd h (by omega), fun _ => ⟨fun h => absurd h (by omega), fun _ => hp35, fun h => absurd h (by omega)⟩⟩
    · skip
      refine gf_aload_n C dd_Mo_mean_18 0 rfl ?_
      refine gf_iconst C dd_Mo_mean_19 ?_
      refine gf_callVi (st := []) (As := [.int (gf_i 1)]) C wk_Mo_77 gf_cl7 (show gf_is 81 65 0 7 26 by decide) (ct_Mo_find (gf_xl X) E 1 μ (by omega)) rfl ⟨rfl, rfl, rfl, rfl⟩ (Nat.le_of_ble_eq_true rfl) rfl dd_Mo_mean_20 (fun r20 m20 hR20 hp20 => ?_)
      refine gf_iret C hQ dd_Mo_mean_23 (by omega) ?_
      exact ⟨fun h => absurd h (by omega), fun _ => ⟨fun _ => hp20, fun h => absurd h (by omega), fun h => absurd h (by omega)⟩⟩
  · skip
    refine gf_iconst C dd_Mo_mean_7 ?_
    refine gf_iret C hQ dd_Mo_mean_8 (by omega) ?_
    exact ⟨fun _ => ⟨rfl, rfl⟩, fun h => absurd h (by omega)⟩

theorem dd_Mo_put_0 : decode cc_Mo_put 0 = .ok (.iload_n 1, 1) := by decide +kernel
theorem dd_Mo_put_1 : decode cc_Mo_put 1 = .ok (.invokestatic 90, 3) := by decide +kernel
theorem dd_Mo_put_4 : decode cc_Mo_put 4 = .ok (.ifCond .ne 5, 3) := by decide +kernel
theorem dd_Mo_put_7 : decode cc_Mo_put 7 = .ok (.iconst (-1), 1) := by decide +kernel
theorem dd_Mo_put_8 : decode cc_Mo_put 8 = .ok (.ireturn, 1) := by decide +kernel
theorem dd_Mo_put_9 : decode cc_Mo_put 9 = .ok (.aload_n 0, 1) := by decide +kernel
theorem dd_Mo_put_10 : decode cc_Mo_put 10 = .ok (.getfield 16, 3) := by decide +kernel
theorem dd_Mo_put_13 : decode cc_Mo_put 13 = .ok (.iload_n 1, 1) := by decide +kernel
theorem dd_Mo_put_14 : decode cc_Mo_put 14 = .ok (.iaload, 1) := by decide +kernel
theorem dd_Mo_put_15 : decode cc_Mo_put 15 = .ok (.ifCond .ge 9, 3) := by decide +kernel
theorem dd_Mo_put_18 : decode cc_Mo_put 18 = .ok (.aload_n 0, 1) := by decide +kernel
theorem dd_Mo_put_19 : decode cc_Mo_put 19 = .ok (.iconst 1, 1) := by decide +kernel
theorem dd_Mo_put_20 : decode cc_Mo_put 20 = .ok (.invokevirtual 77, 3) := by decide +kernel
theorem dd_Mo_put_23 : decode cc_Mo_put 23 = .ok (.ireturn, 1) := by decide +kernel
theorem dd_Mo_put_24 : decode cc_Mo_put 24 = .ok (.iload_n 2, 1) := by decide +kernel
theorem dd_Mo_put_25 : decode cc_Mo_put 25 = .ok (.i2l, 1) := by decide +kernel
theorem dd_Mo_put_26 : decode cc_Mo_put 26 = .ok (.lconst 0, 1) := by decide +kernel
theorem dd_Mo_put_27 : decode cc_Mo_put 27 = .ok (.aload_n 0, 1) := by decide +kernel
theorem dd_Mo_put_28 : decode cc_Mo_put 28 = .ok (.getfield 16, 3) := by decide +kernel
theorem dd_Mo_put_31 : decode cc_Mo_put 31 = .ok (.iload_n 1, 1) := by decide +kernel
theorem dd_Mo_put_32 : decode cc_Mo_put 32 = .ok (.iaload, 1) := by decide +kernel
theorem dd_Mo_put_33 : decode cc_Mo_put 33 = .ok (.iconst 1, 1) := by decide +kernel
theorem dd_Mo_put_34 : decode cc_Mo_put 34 = .ok (.isub, 1) := by decide +kernel
theorem dd_Mo_put_35 : decode cc_Mo_put 35 = .ok (.i2l, 1) := by decide +kernel
theorem dd_Mo_put_36 : decode cc_Mo_put 36 = .ok (.invokestatic 69, 3) := by decide +kernel
theorem dd_Mo_put_39 : decode cc_Mo_put 39 = .ok (.ifCond .ne 9, 3) := by decide +kernel
theorem dd_Mo_put_42 : decode cc_Mo_put 42 = .ok (.aload_n 0, 1) := by decide +kernel
theorem dd_Mo_put_43 : decode cc_Mo_put 43 = .ok (.iconst 2, 1) := by decide +kernel
theorem dd_Mo_put_44 : decode cc_Mo_put 44 = .ok (.invokevirtual 77, 3) := by decide +kernel
theorem dd_Mo_put_47 : decode cc_Mo_put 47 = .ok (.ireturn, 1) := by decide +kernel
theorem dd_Mo_put_48 : decode cc_Mo_put 48 = .ok (.aload_n 0, 1) := by decide +kernel
theorem dd_Mo_put_49 : decode cc_Mo_put 49 = .ok (.getfield 19, 3) := by decide +kernel
theorem dd_Mo_put_52 : decode cc_Mo_put 52 = .ok (.bipush 60, 2) := by decide +kernel
theorem dd_Mo_put_54 : decode cc_Mo_put 54 = .ok (.iload_n 1, 1) := by decide +kernel
theorem dd_Mo_put_55 : decode cc_Mo_put 55 = .ok (.imul, 1) := by decide +kernel
theorem dd_Mo_put_56 : decode cc_Mo_put 56 = .ok (.iload_n 2, 1) := by decide +kernel
theorem dd_Mo_put_57 : decode cc_Mo_put 57 = .ok (.iadd, 1) := by decide +kernel
theorem dd_Mo_put_58 : decode cc_Mo_put 58 = .ok (.baload, 1) := by decide +kernel
theorem dd_Mo_put_59 : decode cc_Mo_put 59 = .ok (.istore 4, 2) := by decide +kernel
theorem dd_Mo_put_61 : decode cc_Mo_put 61 = .ok (.aload_n 0, 1) := by decide +kernel
theorem dd_Mo_put_62 : decode cc_Mo_put 62 = .ok (.getfield 19, 3) := by decide +kernel
theorem dd_Mo_put_65 : decode cc_Mo_put 65 = .ok (.bipush 60, 2) := by decide +kernel
theorem dd_Mo_put_67 : decode cc_Mo_put 67 = .ok (.iload_n 1, 1) := by decide +kernel
theorem dd_Mo_put_68 : decode cc_Mo_put 68 = .ok (.imul, 1) := by decide +kernel
theorem dd_Mo_put_69 : decode cc_Mo_put 69 = .ok (.iload_n 2, 1) := by decide +kernel
theorem dd_Mo_put_70 : decode cc_Mo_put 70 = .ok (.iadd, 1) := by decide +kernel
theorem dd_Mo_put_71 : decode cc_Mo_put 71 = .ok (.iload_n 3, 1) := by decide +kernel
theorem dd_Mo_put_72 : decode cc_Mo_put 72 = .ok (.i2b, 1) := by decide +kernel
theorem dd_Mo_put_73 : decode cc_Mo_put 73 = .ok (.bastore, 1) := by decide +kernel
theorem dd_Mo_put_74 : decode cc_Mo_put 74 = .ok (.iload 4, 2) := by decide +kernel
theorem dd_Mo_put_76 : decode cc_Mo_put 76 = .ok (.sipush 1000, 3) := by decide +kernel
theorem dd_Mo_put_79 : decode cc_Mo_put 79 = .ok (.iadd, 1) := by decide +kernel
theorem dd_Mo_put_80 : decode cc_Mo_put 80 = .ok (.ireturn, 1) := by decide +kernel
set_option maxRecDepth 100000 in
set_option maxHeartbeats 4000000 in
theorem ct_Mo_put (l : Launch) (E : gf_E) (t i v : Int) (μ : gf_M) (ht : gf_R t) (hi : gf_R i) (hv : gf_R v) (hts : ∀ t : Int, 0 ≤ t → t < 4 → -1 ≤ μ 68 t ∧ μ 68 t ≤ 60) (htb : ∀ j : Int, -128 ≤ μ 69 j ∧ μ 69 j ≤ 127) : gf_Mi l E yy_Mo_put cc_Mo_put 5 .int (gf_rm 2 45) 81 gf_ref μ [.ref (gf_ad E 65), .int (gf_i t), .int (gf_i i), .int (gf_i v)] (fun q μ' => (¬ (0 ≤ t ∧ t < 4) → q = -1 ∧ μ' = μ) ∧ (0 ≤ t ∧ t < 4 → (μ 68 t = -1 → q = -3 ∧ μ' = gm_fd μ 1) ∧ (μ 68 t ≠ -1 → (¬ (0 ≤ i ∧ i < μ 68 t) → q = -3 ∧ μ' = gm_fd μ 2) ∧ (0 ≤ i ∧ i < μ 68 t → q = μ 69 (60 * t + i) + 1000 ∧ μ' = gf_up μ 69 (60 * t + i) (gf_b v))))) := by
  refine gf_mi (by decide +kernel) (Nat.le_of_ble_eq_true rfl) (by decide) (fun X Q hlx C hQ => ?_)
  subst hlx
  replace C : gf_C X E cc_Mo_put 5 "GuardFiguresModel" (gf_rm 2 45) := C
  show gf_G X E Q 5 gf_φ μ 0 [(0, .ref (gf_ad E 65)), (1, .int (gf_i t)), (2, .int (gf_i i)), (3, .int (gf_i v))] []
  refine gf_iload_n C dd_Mo_put_0 1 rfl ?_
  refine gf_callSi (st := []) (As := [.int (gf_i t)]) C wk_Mo_90 (ct_Mo_isText (gf_xl X) E t μ (by omega)) rfl ⟨rfl, rfl, rfl, rfl⟩ (Nat.le_of_ble_eq_true rfl) rfl dd_Mo_put_1 (fun r1 m1 hR1 hp1 => ?_)
  have hr1 := hp1.1
  refine gf_pm hp1.2 ?_
  refine gf_if_ne 9 C dd_Mo_put_4 (by decide) (by omega) (fun h4 => ?_) (fun h4 => ?_)
  · skip
    have hin : 0 ≤ t ∧ t < 4 := by omega
    have hrr := hts t hin.1 hin.2
    refine gf_aload_n C dd_Mo_put_9 0 rfl ?_
    refine gf_getA (r := 68) C gf_cl7 fl_Mo_16 dd_Mo_put_10 rfl (show gf_is 81 65 0 7 26 by decide) (by decide) (by decide) ?_
    refine gf_iload_n C dd_Mo_put_13 1 rfl ?_
    refine gf_iald C dd_Mo_put_14 (show gf_is 81 68 1 0 4 by decide) (by omega) (fun hv14 => ?_)
    refine gf_if_ge 24 C dd_Mo_put_15 (by decide) (by omega) (fun h15 => ?_) (fun h15 => ?_)
    · skip
      refine gf_iload_n C dd_Mo_put_24 2 rfl ?_
      refine gf_gi2l C dd_Mo_put_25 (by omega) ?_
      refine gf_lconst 0 C dd_Mo_put_26 (by decide +kernel) ?_
      refine gf_aload_n C dd_Mo_put_27 0 rfl ?_
      refine gf_getA (r := 68) C gf_cl7 fl_Mo_16 dd_Mo_put_28 rfl (show gf_is 81 65 0 7 26 by decide) (by decide) (by decide) ?_
      refine gf_iload_n C dd_Mo_put_31 1 rfl ?_
      refine gf_iald C dd_Mo_put_32 (show gf_is 81 68 1 0 4 by decide) (by omega) (fun hv32 => ?_)
      refine gf_iconst C dd_Mo_put_33 ?_
      refine gf_isub C dd_Mo_put_34 ?_
      refine gf_gi2l C dd_Mo_put_35 (by omega) ?_
      refine gf_callSi (st := []) (As := [.long (gf_l i), .long (gf_l 0), .long (gf_l ((μ 68 t) - 1))]) C wk_Mo_69 (ct_Mo_in (gf_xl X) E i 0 ((μ 68 t) - 1) μ (by omega) (by omega) (by omega)) rfl ⟨rfl, rfl, rfl, rfl⟩ (Nat.le_of_ble_eq_true rfl) rfl dd_Mo_put_36 (fun r36 m36 hR36 hp36 => ?_)
      have hr36 := hp36.1
      refine gf_pm hp36.2 ?_
      refine gf_if_ne 48 C dd_Mo_put_39 (by decide) (by omega) (fun h39 => ?_) (fun h39 => ?_)
      · skip
        have hbb := htb (60 * t + i)
        refine gf_aload_n C dd_Mo_put_48 0 rfl ?_
        refine gf_getA (r := 69) C gf_cl7 fl_Mo_19 dd_Mo_put_49 rfl (show gf_is 81 65 0 7 26 by decide) (by decide) (by decide) ?_
        refine gf_bipush C dd_Mo_put_52 (by decide +kernel) ?_
        refine gf_iload_n C dd_Mo_put_54 1 rfl ?_
        refine gf_imul C dd_Mo_put_55 ?_
        refine gf_iload_n C dd_Mo_put_56 2 rfl ?_
        refine gf_iadd C dd_Mo_put_57 ?_
        refine gf_bald C dd_Mo_put_58 (show gf_is 81 69 3 2 240 by decide) (by omega) (fun hv58 => ?_)
        refine gf_nm (fun x59 hx59 => ?_)
        refine gf_istore (lv' := [(4, .int (gf_i x59)), (0, .ref (gf_ad E 65)), (1, .int (gf_i t)), (2, .int (gf_i i)), (3, .int (gf_i v))]) C dd_Mo_put_59 (by decide) rfl ?_
        refine gf_aload_n C dd_Mo_put_61 1 rfl ?_
        refine gf_getA (r := 69) C gf_cl7 fl_Mo_19 dd_Mo_put_62 rfl (show gf_is 81 65 0 7 26 by decide) (by decide) (by decide) ?_
        refine gf_bipush C dd_Mo_put_65 (by decide +kernel) ?_
        refine gf_iload_n C dd_Mo_put_67 2 rfl ?_
        refine gf_imul C dd_Mo_put_68 ?_
        refine gf_iload_n C dd_Mo_put_69 3 rfl ?_
        refine gf_iadd C dd_Mo_put_70 ?_
        refine gf_iload_n C dd_Mo_put_71 4 rfl ?_
        refine gf_gi2b C dd_Mo_put_72 ?_
        refine gf_bast rfl C dd_Mo_put_73 (show gf_is 81 69 3 2 240 by decide) (by omega) ?_
        refine gf_nmM (fun m73 hm73 => ?_)
        refine gf_iload C dd_Mo_put_74 0 rfl ?_
        refine gf_sipush C dd_Mo_put_76 (by decide +kernel) ?_
        refine gf_iadd C dd_Mo_put_79 ?_
        refine gf_iret C hQ dd_Mo_put_80 (by omega) ?_
        refine ⟨fun h => absurd h (by omega), fun _ => ⟨fun h => absurd h (by omega), fun _ => ⟨fun h => absurd h (by omega), fun _ => ⟨by rw [hx59], ?_⟩⟩⟩⟩
        rw [hm73]
        congr 1
        unfold gf_b
        rw [Int8.ofInt_toInt]
      · skip
        refine gf_aload_n C dd_Mo_put_42 0 rfl ?_
        refine gf_iconst C dd_Mo_put_43 ?_
        refine gf_callVi (st := []) (As := [.int (gf_i 2)]) C wk_Mo_77 gf_cl7 (show gf_is 81 65 0 7 26 by decide) (ct_Mo_find (gf_xl X) E 2 μ (by omega)) rfl ⟨rfl, rfl, rfl, rfl⟩ (Nat.le_of_ble_eq_true rfl) rfl dd_Mo_put_44 (fun r44 m44 hR44 hp44 => ?_)
        refine gf_iret C hQ dd_Mo_put_47 (by omega) ?_
        exact ⟨fun h => absurd h (by omega), fun _ => ⟨fun h => absurd h (by omega), fun _ => ⟨fun _ => hp44, fun h => absurd h (by omega)⟩⟩⟩
    · skip
      refine gf_aload_n C dd_Mo_put_18 0 rfl ?_
      refine gf_iconst C dd_Mo_put_19 ?_
      refine gf_callVi (st := []) (As := [.int (gf_i 1)]) C wk_Mo_77 gf_cl7 (show gf_is 81 65 0 7 26 by decide) (ct_Mo_find (gf_xl X) E 1 μ (by omega)) rfl ⟨rfl, rfl, rfl, rfl⟩ (Nat.le_of_ble_eq_true rfl) rfl dd_Mo_put_20 (fun r20 m20 hR20 hp20 => ?_)
      refine gf_iret C hQ dd_Mo_put_23 (by omega) ?_
      exact ⟨fun h => absurd h (by omega), fun _ => ⟨fun _ => hp20, fun h => absurd h (by omega)⟩⟩
  · skip
    refine gf_iconst C dd_Mo_put_7 ?_
    refine gf_iret C hQ dd_Mo_put_8 (by omega) ?_
    exact ⟨fun _ => ⟨rfl, rfl⟩, fun h => absurd h (by omega)⟩

theorem dd_Mo_copy_0 : decode cc_Mo_copy 0 = .ok (.iload_n 1, 1) := by decide +kernel
theorem dd_Mo_copy_1 : decode cc_Mo_copy 1 = .ok (.invokestatic 73, 3) := by decide +kernel
theorem dd_Mo_copy_4 : decode cc_Mo_copy 4 = .ok (.ifCond .eq 10, 3) := by decide +kernel
theorem dd_Mo_copy_7 : decode cc_Mo_copy 7 = .ok (.iload_n 3, 1) := by decide +kernel
theorem dd_Mo_copy_8 : decode cc_Mo_copy 8 = .ok (.invokestatic 73, 3) := by decide +kernel
theorem dd_Mo_copy_11 : decode cc_Mo_copy 11 = .ok (.ifCond .ne 5, 3) := by decide +kernel
theorem dd_Mo_copy_14 : decode cc_Mo_copy 14 = .ok (.iconst (-1), 1) := by decide +kernel
theorem dd_Mo_copy_15 : decode cc_Mo_copy 15 = .ok (.ireturn, 1) := by decide +kernel
theorem dd_Mo_copy_16 : decode cc_Mo_copy 16 = .ok (.iload 5, 2) := by decide +kernel
theorem dd_Mo_copy_18 : decode cc_Mo_copy 18 = .ok (.ifCond .ge 9, 3) := by decide +kernel
theorem dd_Mo_copy_21 : decode cc_Mo_copy 21 = .ok (.aload_n 0, 1) := by decide +kernel
theorem dd_Mo_copy_22 : decode cc_Mo_copy 22 = .ok (.iconst 5, 1) := by decide +kernel
theorem dd_Mo_copy_23 : decode cc_Mo_copy 23 = .ok (.invokevirtual 77, 3) := by decide +kernel
theorem dd_Mo_copy_26 : decode cc_Mo_copy 26 = .ok (.ireturn, 1) := by decide +kernel
theorem dd_Mo_copy_27 : decode cc_Mo_copy 27 = .ok (.aload_n 0, 1) := by decide +kernel
theorem dd_Mo_copy_28 : decode cc_Mo_copy 28 = .ok (.getfield 7, 3) := by decide +kernel
theorem dd_Mo_copy_31 : decode cc_Mo_copy 31 = .ok (.iload_n 1, 1) := by decide +kernel
theorem dd_Mo_copy_32 : decode cc_Mo_copy 32 = .ok (.iaload, 1) := by decide +kernel
theorem dd_Mo_copy_33 : decode cc_Mo_copy 33 = .ok (.ifCond .lt 12, 3) := by decide +kernel
theorem dd_Mo_copy_36 : decode cc_Mo_copy 36 = .ok (.aload_n 0, 1) := by decide +kernel
theorem dd_Mo_copy_37 : decode cc_Mo_copy 37 = .ok (.getfield 7, 3) := by decide +kernel
theorem dd_Mo_copy_40 : decode cc_Mo_copy 40 = .ok (.iload_n 3, 1) := by decide +kernel
theorem dd_Mo_copy_41 : decode cc_Mo_copy 41 = .ok (.iaload, 1) := by decide +kernel
theorem dd_Mo_copy_42 : decode cc_Mo_copy 42 = .ok (.ifCond .ge 9, 3) := by decide +kernel
theorem dd_Mo_copy_45 : decode cc_Mo_copy 45 = .ok (.aload_n 0, 1) := by decide +kernel
theorem dd_Mo_copy_46 : decode cc_Mo_copy 46 = .ok (.iconst 1, 1) := by decide +kernel
theorem dd_Mo_copy_47 : decode cc_Mo_copy 47 = .ok (.invokevirtual 77, 3) := by decide +kernel
theorem dd_Mo_copy_50 : decode cc_Mo_copy 50 = .ok (.ireturn, 1) := by decide +kernel
theorem dd_Mo_copy_51 : decode cc_Mo_copy 51 = .ok (.iload_n 2, 1) := by decide +kernel
theorem dd_Mo_copy_52 : decode cc_Mo_copy 52 = .ok (.i2l, 1) := by decide +kernel
theorem dd_Mo_copy_53 : decode cc_Mo_copy 53 = .ok (.lconst 0, 1) := by decide +kernel
theorem dd_Mo_copy_54 : decode cc_Mo_copy 54 = .ok (.aload_n 0, 1) := by decide +kernel
theorem dd_Mo_copy_55 : decode cc_Mo_copy 55 = .ok (.getfield 7, 3) := by decide +kernel
theorem dd_Mo_copy_58 : decode cc_Mo_copy 58 = .ok (.iload_n 1, 1) := by decide +kernel
theorem dd_Mo_copy_59 : decode cc_Mo_copy 59 = .ok (.iaload, 1) := by decide +kernel
theorem dd_Mo_copy_60 : decode cc_Mo_copy 60 = .ok (.i2l, 1) := by decide +kernel
theorem dd_Mo_copy_61 : decode cc_Mo_copy 61 = .ok (.iload 5, 2) := by decide +kernel
theorem dd_Mo_copy_63 : decode cc_Mo_copy 63 = .ok (.i2l, 1) := by decide +kernel
theorem dd_Mo_copy_64 : decode cc_Mo_copy 64 = .ok (.lsub, 1) := by decide +kernel
theorem dd_Mo_copy_65 : decode cc_Mo_copy 65 = .ok (.invokestatic 69, 3) := by decide +kernel
theorem dd_Mo_copy_68 : decode cc_Mo_copy 68 = .ok (.ifCond .eq 24, 3) := by decide +kernel
theorem dd_Mo_copy_71 : decode cc_Mo_copy 71 = .ok (.iload 4, 2) := by decide +kernel
theorem dd_Mo_copy_73 : decode cc_Mo_copy 73 = .ok (.i2l, 1) := by decide +kernel
theorem dd_Mo_copy_74 : decode cc_Mo_copy 74 = .ok (.lconst 0, 1) := by decide +kernel
theorem dd_Mo_copy_75 : decode cc_Mo_copy 75 = .ok (.aload_n 0, 1) := by decide +kernel
theorem dd_Mo_copy_76 : decode cc_Mo_copy 76 = .ok (.getfield 7, 3) := by decide +kernel
theorem dd_Mo_copy_79 : decode cc_Mo_copy 79 = .ok (.iload_n 3, 1) := by decide +kernel
theorem dd_Mo_copy_80 : decode cc_Mo_copy 80 = .ok (.iaload, 1) := by decide +kernel
theorem dd_Mo_copy_81 : decode cc_Mo_copy 81 = .ok (.i2l, 1) := by decide +kernel
theorem dd_Mo_copy_82 : decode cc_Mo_copy 82 = .ok (.iload 5, 2) := by decide +kernel
theorem dd_Mo_copy_84 : decode cc_Mo_copy 84 = .ok (.i2l, 1) := by decide +kernel
theorem dd_Mo_copy_85 : decode cc_Mo_copy 85 = .ok (.lsub, 1) := by decide +kernel
theorem dd_Mo_copy_86 : decode cc_Mo_copy 86 = .ok (.invokestatic 69, 3) := by decide +kernel
theorem dd_Mo_copy_89 : decode cc_Mo_copy 89 = .ok (.ifCond .ne 9, 3) := by decide +kernel
theorem dd_Mo_copy_92 : decode cc_Mo_copy 92 = .ok (.aload_n 0, 1) := by decide +kernel
theorem dd_Mo_copy_93 : decode cc_Mo_copy 93 = .ok (.iconst 2, 1) := by decide +kernel
theorem dd_Mo_copy_94 : decode cc_Mo_copy 94 = .ok (.invokevirtual 77, 3) := by decide +kernel
theorem dd_Mo_copy_97 : decode cc_Mo_copy 97 = .ok (.ireturn, 1) := by decide +kernel
theorem dd_Mo_copy_98 : decode cc_Mo_copy 98 = .ok (.bipush 40, 2) := by decide +kernel
theorem dd_Mo_copy_100 : decode cc_Mo_copy 100 = .ok (.iload_n 1, 1) := by decide +kernel
theorem dd_Mo_copy_101 : decode cc_Mo_copy 101 = .ok (.imul, 1) := by decide +kernel
theorem dd_Mo_copy_102 : decode cc_Mo_copy 102 = .ok (.iload_n 2, 1) := by decide +kernel
theorem dd_Mo_copy_103 : decode cc_Mo_copy 103 = .ok (.iadd, 1) := by decide +kernel
theorem dd_Mo_copy_104 : decode cc_Mo_copy 104 = .ok (.istore 6, 2) := by decide +kernel
theorem dd_Mo_copy_106 : decode cc_Mo_copy 106 = .ok (.bipush 40, 2) := by decide +kernel
theorem dd_Mo_copy_108 : decode cc_Mo_copy 108 = .ok (.iload_n 3, 1) := by decide +kernel
theorem dd_Mo_copy_109 : decode cc_Mo_copy 109 = .ok (.imul, 1) := by decide +kernel
theorem dd_Mo_copy_110 : decode cc_Mo_copy 110 = .ok (.iload 4, 2) := by decide +kernel
theorem dd_Mo_copy_112 : decode cc_Mo_copy 112 = .ok (.iadd, 1) := by decide +kernel
theorem dd_Mo_copy_113 : decode cc_Mo_copy 113 = .ok (.istore 7, 2) := by decide +kernel
theorem dd_Mo_copy_115 : decode cc_Mo_copy 115 = .ok (.iconst 0, 1) := by decide +kernel
theorem dd_Mo_copy_116 : decode cc_Mo_copy 116 = .ok (.istore 8, 2) := by decide +kernel
theorem dd_Mo_copy_118 : decode cc_Mo_copy 118 = .ok (.iload 8, 2) := by decide +kernel
theorem dd_Mo_copy_120 : decode cc_Mo_copy 120 = .ok (.iload 5, 2) := by decide +kernel
theorem dd_Mo_copy_122 : decode cc_Mo_copy 122 = .ok (.if_icmp .ge 50, 3) := by decide +kernel
theorem dd_Mo_copy_125 : decode cc_Mo_copy 125 = .ok (.iload 6, 2) := by decide +kernel
theorem dd_Mo_copy_127 : decode cc_Mo_copy 127 = .ok (.iload 7, 2) := by decide +kernel
theorem dd_Mo_copy_129 : decode cc_Mo_copy 129 = .ok (.if_icmp .ge 13, 3) := by decide +kernel
theorem dd_Mo_copy_132 : decode cc_Mo_copy 132 = .ok (.iload 5, 2) := by decide +kernel
theorem dd_Mo_copy_134 : decode cc_Mo_copy 134 = .ok (.iconst 1, 1) := by decide +kernel
theorem dd_Mo_copy_135 : decode cc_Mo_copy 135 = .ok (.isub, 1) := by decide +kernel
theorem dd_Mo_copy_136 : decode cc_Mo_copy 136 = .ok (.iload 8, 2) := by decide +kernel
theorem dd_Mo_copy_138 : decode cc_Mo_copy 138 = .ok (.isub, 1) := by decide +kernel
theorem dd_Mo_copy_139 : decode cc_Mo_copy 139 = .ok (.goto 5, 3) := by decide +kernel
theorem dd_Mo_copy_142 : decode cc_Mo_copy 142 = .ok (.iload 8, 2) := by decide +kernel
theorem dd_Mo_copy_144 : decode cc_Mo_copy 144 = .ok (.istore 9, 2) := by decide +kernel
theorem dd_Mo_copy_146 : decode cc_Mo_copy 146 = .ok (.aload_n 0, 1) := by decide +kernel
theorem dd_Mo_copy_147 : decode cc_Mo_copy 147 = .ok (.getfield 13, 3) := by decide +kernel
theorem dd_Mo_copy_150 : decode cc_Mo_copy 150 = .ok (.iload 7, 2) := by decide +kernel
theorem dd_Mo_copy_152 : decode cc_Mo_copy 152 = .ok (.iload 9, 2) := by decide +kernel
theorem dd_Mo_copy_154 : decode cc_Mo_copy 154 = .ok (.iadd, 1) := by decide +kernel
theorem dd_Mo_copy_155 : decode cc_Mo_copy 155 = .ok (.aload_n 0, 1) := by decide +kernel
theorem dd_Mo_copy_156 : decode cc_Mo_copy 156 = .ok (.getfield 13, 3) := by decide +kernel
theorem dd_Mo_copy_159 : decode cc_Mo_copy 159 = .ok (.iload 6, 2) := by decide +kernel
theorem dd_Mo_copy_161 : decode cc_Mo_copy 161 = .ok (.iload 9, 2) := by decide +kernel
theorem dd_Mo_copy_163 : decode cc_Mo_copy 163 = .ok (.iadd, 1) := by decide +kernel
theorem dd_Mo_copy_164 : decode cc_Mo_copy 164 = .ok (.iaload, 1) := by decide +kernel
theorem dd_Mo_copy_165 : decode cc_Mo_copy 165 = .ok (.iastore, 1) := by decide +kernel
theorem dd_Mo_copy_166 : decode cc_Mo_copy 166 = .ok (.iinc 8 1, 3) := by decide +kernel
theorem dd_Mo_copy_169 : decode cc_Mo_copy 169 = .ok (.goto (-51), 3) := by decide +kernel
theorem dd_Mo_copy_172 : decode cc_Mo_copy 172 = .ok (.iconst 1, 1) := by decide +kernel
theorem dd_Mo_copy_173 : decode cc_Mo_copy 173 = .ok (.ireturn, 1) := by decide +kernel
set_option maxRecDepth 100000 in
set_option maxHeartbeats 4000000 in
theorem ct_Mo_copy (l : Launch) (E : gf_E) (r i o j n : Int) (μ : gf_M) (hr : gf_R r) (hi : gf_R i) (ho : gf_R o) (hj : gf_R j) (hn : gf_R n) (hrs : ∀ r : Int, 0 ≤ r → r < 6 → -1 ≤ μ 66 r ∧ μ 66 r ≤ 40)  : gf_Mi l E yy_Mo_copy cc_Mo_copy 10 .int (gf_rm 2 45) 81 gf_ref μ [.ref (gf_ad E 65), .int (gf_i r), .int (gf_i i), .int (gf_i o), .int (gf_i j), .int (gf_i n)] (fun q μ' => (¬ (0 ≤ r ∧ r < 6 ∧ 0 ≤ o ∧ o < 6) → q = -1 ∧ μ' = μ) ∧ (0 ≤ r ∧ r < 6 ∧ 0 ≤ o ∧ o < 6 → (n < 0 → q = -3 ∧ μ' = gm_fd μ 5) ∧ (0 ≤ n → (μ 66 r = -1 ∨ μ 66 o = -1 → q = -3 ∧ μ' = gm_fd μ 1) ∧ (μ 66 r ≠ -1 ∧ μ 66 o ≠ -1 → (¬ (0 ≤ i ∧ i + n ≤ μ 66 r ∧ 0 ≤ j ∧ j + n ≤ μ 66 o) → q = -3 ∧ μ' = gm_fd μ 2) ∧ (0 ≤ i ∧ i + n ≤ μ 66 r ∧ 0 ≤ j ∧ j + n ≤ μ 66 o → q = 1 ∧ μ' = gf_cp μ 67 (40 * r + i) 67 (40 * o + j) n))))) := by
  refine gf_mi (by decide +kernel) (Nat.le_of_ble_eq_true rfl) (by decide) (fun X Q hlx C hQ => ?_)
  subst hlx
  replace C : gf_C X E cc_Mo_copy 10 "GuardFiguresModel" (gf_rm 2 45) := C
  show gf_G X E Q 10 gf_φ μ 0 [(0, .ref (gf_ad E 65)), (1, .int (gf_i r)), (2, .int (gf_i i)), (3, .int (gf_i o)), (4, .int (gf_i j)), (5, .int (gf_i n))] []
  refine gf_iload_n C dd_Mo_copy_0 1 rfl ?_
  refine gf_callSi (st := []) (As := [.int (gf_i r)]) C wk_Mo_73 (ct_Mo_isRow (gf_xl X) E r μ (by omega)) rfl ⟨rfl, rfl, rfl, rfl⟩ (Nat.le_of_ble_eq_true rfl) rfl dd_Mo_copy_1 (fun r1 m1 hR1 hp1 => ?_)
  have hr1 := hp1.1
  refine gf_pm hp1.2 ?_
  refine gf_if_eq 14 C dd_Mo_copy_4 (by decide) (by omega) (fun h4 => ?_) (fun h4 => ?_)
  · skip
    refine gf_iconst C dd_Mo_copy_14 ?_
    refine gf_iret C hQ dd_Mo_copy_15 (by omega) ?_
    exact ⟨fun _ => ⟨rfl, rfl⟩, fun h => absurd h (by omega)⟩
  · skip
    refine gf_iload_n C dd_Mo_copy_7 3 rfl ?_
    refine gf_callSi (st := []) (As := [.int (gf_i o)]) C wk_Mo_73 (ct_Mo_isRow (gf_xl X) E o μ (by omega)) rfl ⟨rfl, rfl, rfl, rfl⟩ (Nat.le_of_ble_eq_true rfl) rfl dd_Mo_copy_8 (fun r8 m8 hR8 hp8 => ?_)
    have hr8 := hp8.1
    refine gf_pm hp8.2 ?_
    refine gf_if_ne 16 C dd_Mo_copy_11 (by decide) (by omega) (fun h11 => ?_) (fun h11 => ?_)
    · skip
      have hin : 0 ≤ r ∧ r < 6 ∧ 0 ≤ o ∧ o < 6 := by omega
      have hrr := hrs r hin.1 hin.2.1
      have hoo := hrs o hin.2.2.1 hin.2.2.2
      clear hr1 hr8 hp1 hp8
      refine gf_iload C dd_Mo_copy_16 5 rfl ?_
      refine gf_if_ge 27 C dd_Mo_copy_18 (by decide) (by omega) (fun h18 => ?_) (fun h18 => ?_)
      · skip
        refine gf_aload_n C dd_Mo_copy_27 0 rfl ?_
        refine gf_getA (r := 66) C gf_cl7 fl_Mo_7 dd_Mo_copy_28 rfl (show gf_is 81 65 0 7 26 by decide) (by decide) (by decide) ?_
        refine gf_iload_n C dd_Mo_copy_31 1 rfl ?_
        refine gf_iald C dd_Mo_copy_32 (show gf_is 81 66 1 0 6 by decide) (by omega) (fun hv32 => ?_)
        refine gf_if_lt 45 C dd_Mo_copy_33 (by decide) (by omega) (fun h33 => ?_) (fun h33 => ?_)
        · skip
          refine gf_aload_n C dd_Mo_copy_45 0 rfl ?_
          refine gf_iconst C dd_Mo_copy_46 ?_
          refine gf_callVi (st := []) (As := [.int (gf_i 1)]) C wk_Mo_77 gf_cl7 (show gf_is 81 65 0 7 26 by decide) (ct_Mo_find (gf_xl X) E 1 μ (by omega)) rfl ⟨rfl, rfl, rfl, rfl⟩ (Nat.le_of_ble_eq_true rfl) rfl dd_Mo_copy_47 (fun r47 m47 hR47 hp47 => ?_)
          refine gf_iret C hQ dd_Mo_copy_50 (by omega) ?_
          exact ⟨fun h => absurd h (by omega), fun _ => ⟨fun h => absurd h (by omega), fun _ => ⟨fun _ => hp47, fun h => absurd h (by omega)⟩⟩⟩
        · skip
          refine gf_aload_n C dd_Mo_copy_36 0 rfl ?_
          refine gf_getA (r := 66) C gf_cl7 fl_Mo_7 dd_Mo_copy_37 rfl (show gf_is 81 65 0 7 26 by decide) (by decide) (by decide) ?_
          refine gf_iload_n C dd_Mo_copy_40 3 rfl ?_
          refine gf_iald C dd_Mo_copy_41 (show gf_is 81 66 1 0 6 by decide) (by omega) (fun hv41 => ?_)
          refine gf_if_ge 51 C dd_Mo_copy_42 (by decide) (by omega) (fun h42 => ?_) (fun h42 => ?_)
          · skip
            refine gf_iload_n C dd_Mo_copy_51 2 rfl ?_
            refine gf_gi2l C dd_Mo_copy_52 (by omega) ?_
            refine gf_lconst 0 C dd_Mo_copy_53 (by decide +kernel) ?_
            refine gf_aload_n C dd_Mo_copy_54 0 rfl ?_
            refine gf_getA (r := 66) C gf_cl7 fl_Mo_7 dd_Mo_copy_55 rfl (show gf_is 81 65 0 7 26 by decide) (by decide) (by decide) ?_
            refine gf_iload_n C dd_Mo_copy_58 1 rfl ?_
            refine gf_iald C dd_Mo_copy_59 (show gf_is 81 66 1 0 6 by decide) (by omega) (fun hv59 => ?_)
            refine gf_gi2l C dd_Mo_copy_60 (by omega) ?_
            refine gf_iload C dd_Mo_copy_61 5 rfl ?_
            refine gf_gi2l C dd_Mo_copy_63 (by omega) ?_
            refine gf_lsb C dd_Mo_copy_64 ?_
            refine gf_callSi (st := []) (As := [.long (gf_l i), .long (gf_l 0), .long (gf_l ((μ 66 r) - n))]) C wk_Mo_69 (ct_Mo_in (gf_xl X) E i 0 ((μ 66 r) - n) μ (by omega) (by omega) (by omega)) rfl ⟨rfl, rfl, rfl, rfl⟩ (Nat.le_of_ble_eq_true rfl) rfl dd_Mo_copy_65 (fun r65 m65 hR65 hp65 => ?_)
            have hr65 := hp65.1
            refine gf_pm hp65.2 ?_
            refine gf_if_eq 92 C dd_Mo_copy_68 (by decide) (by omega) (fun h68 => ?_) (fun h68 => ?_)
            · skip
              refine gf_aload_n C dd_Mo_copy_92 0 rfl ?_
              refine gf_iconst C dd_Mo_copy_93 ?_
              refine gf_callVi (st := []) (As := [.int (gf_i 2)]) C wk_Mo_77 gf_cl7 (show gf_is 81 65 0 7 26 by decide) (ct_Mo_find (gf_xl X) E 2 μ (by omega)) rfl ⟨rfl, rfl, rfl, rfl⟩ (Nat.le_of_ble_eq_true rfl) rfl dd_Mo_copy_94 (fun r94 m94 hR94 hp94 => ?_)
              refine gf_iret C hQ dd_Mo_copy_97 (by omega) ?_
              exact ⟨fun h => absurd h (by omega), fun _ => ⟨fun h => absurd h (by omega), fun _ => ⟨fun h => absurd h (by omega), fun _ => ⟨fun _ => hp94, fun h => absurd h (by omega)⟩⟩⟩⟩
            · skip
              refine gf_iload C dd_Mo_copy_71 4 rfl ?_
              refine gf_gi2l C dd_Mo_copy_73 (by omega) ?_
              refine gf_lconst 0 C dd_Mo_copy_74 (by decide +kernel) ?_
              refine gf_aload_n C dd_Mo_copy_75 0 rfl ?_
              refine gf_getA (r := 66) C gf_cl7 fl_Mo_7 dd_Mo_copy_76 rfl (show gf_is 81 65 0 7 26 by decide) (by decide) (by decide) ?_
              refine gf_iload_n C dd_Mo_copy_79 3 rfl ?_
              refine gf_iald C dd_Mo_copy_80 (show gf_is 81 66 1 0 6 by decide) (by omega) (fun hv80 => ?_)
              refine gf_gi2l C dd_Mo_copy_81 (by omega) ?_
              refine gf_iload C dd_Mo_copy_82 5 rfl ?_
              refine gf_gi2l C dd_Mo_copy_84 (by omega) ?_
              refine gf_lsb C dd_Mo_copy_85 ?_
              refine gf_callSi (st := []) (As := [.long (gf_l j), .long (gf_l 0), .long (gf_l ((μ 66 o) - n))]) C wk_Mo_69 (ct_Mo_in (gf_xl X) E j 0 ((μ 66 o) - n) μ (by omega) (by omega) (by omega)) rfl ⟨rfl, rfl, rfl, rfl⟩ (Nat.le_of_ble_eq_true rfl) rfl dd_Mo_copy_86 (fun r86 m86 hR86 hp86 => ?_)
              have hr86 := hp86.1
              refine gf_pm hp86.2 ?_
              refine gf_if_ne 98 C dd_Mo_copy_89 (by decide) (by omega) (fun h89 => ?_) (fun h89 => ?_)
              · skip
                have hpl : 0 ≤ i ∧ i + n ≤ μ 66 r ∧ 0 ≤ j ∧ j + n ≤ μ 66 o := by omega
                clear hr65 hr86 hp65 hp86
                refine gf_bipush C dd_Mo_copy_98 (by decide +kernel) ?_
                refine gf_iload_n C dd_Mo_copy_100 1 rfl ?_
                refine gf_imul C dd_Mo_copy_101 ?_
                refine gf_iload_n C dd_Mo_copy_102 2 rfl ?_
                refine gf_iadd C dd_Mo_copy_103 ?_
                refine gf_nm (fun x104 hx104 => ?_)
                refine gf_istore (lv' := [(6, .int (gf_i x104)), (0, .ref (gf_ad E 65)), (1, .int (gf_i r)), (2, .int (gf_i i)), (3, .int (gf_i o)), (4, .int (gf_i j)), (5, .int (gf_i n))]) C dd_Mo_copy_104 (by decide) rfl ?_
                refine gf_bipush C dd_Mo_copy_106 (by decide +kernel) ?_
                refine gf_iload_n C dd_Mo_copy_108 4 rfl ?_
                refine gf_imul C dd_Mo_copy_109 ?_
                refine gf_iload C dd_Mo_copy_110 5 rfl ?_
                refine gf_iadd C dd_Mo_copy_112 ?_
                refine gf_nm (fun x113 hx113 => ?_)
                refine gf_istore (lv' := [(7, .int (gf_i x113)), (6, .int (gf_i x104)), (0, .ref (gf_ad E 65)), (1, .int (gf_i r)), (2, .int (gf_i i)), (3, .int (gf_i o)), (4, .int (gf_i j)), (5, .int (gf_i n))]) C dd_Mo_copy_113 (by decide) rfl ?_
                refine gf_iconst C dd_Mo_copy_115 ?_
                refine gf_istore (lv' := [(8, .int (gf_i 0)), (7, .int (gf_i x113)), (6, .int (gf_i x104)), (0, .ref (gf_ad E 65)), (1, .int (gf_i r)), (2, .int (gf_i i)), (3, .int (gf_i o)), (4, .int (gf_i j)), (5, .int (gf_i n))]) C dd_Mo_copy_116 (by decide) rfl ?_
                have L118_1 : ∀ (N : Nat) (k : Int) (m : gf_M) , (0 ≤ k ∧ k ≤ n ∧ (x104 < x113 → m = gf_cp μ 67 (x104 + n - k) 67 (x113 + n - k) k) ∧ (x113 ≤ x104 → m = gf_cp μ 67 x104 67 x113 k)) → (40 - k).toNat < N → gf_G X E Q 10 gf_φ m 118 [(8, .int (gf_i k)), (7, .int (gf_i x113)), (6, .int (gf_i x104)), (0, .ref (gf_ad E 65)), (1, .int (gf_i r)), (2, .int (gf_i i)), (3, .int (gf_i o)), (4, .int (gf_i j)), (5, .int (gf_i n))] [] := by
                  intro N
                  induction N with
                  | zero => intro k m hinv hN; exact absurd hN (Nat.not_lt_zero _)
                  | succ N ih118_1 =>
                    intro k m hinv hN
                    have hinv0 := hinv
                    obtain ⟨hk0, hk1, hmA, hmB⟩ := hinv
                    refine gf_iload C dd_Mo_copy_118 0 rfl ?_
                    refine gf_iload C dd_Mo_copy_120 8 rfl ?_
                    refine gf_icmp_ge 172 C dd_Mo_copy_122 (by decide) (by omega) (by omega) (fun h122 => ?_) (fun h122 => ?_)
                    · skip
                      refine gf_iconst C dd_Mo_copy_172 ?_
                      refine gf_iret C hQ dd_Mo_copy_173 (by omega) ?_
                      have ek : k = n := by omega
                      refine ⟨fun h => absurd h (by omega), fun _ => ⟨fun h => absurd h (by omega), fun _ => ⟨fun h => absurd h (by omega), fun _ => ⟨fun h => absurd hpl h, fun _ => ⟨rfl, ?_⟩⟩⟩⟩⟩
                      rw [ek] at hmA hmB
                      rw [show x104 + n - n = x104 by omega, show x113 + n - n = x113 by omega] at hmA
                      rw [← hx104, ← hx113]
                      rcases (show x104 < x113 ∨ x113 ≤ x104 by omega) with h | h
                      · exact hmA h
                      · exact hmB h
                    · skip
                      refine gf_iload C dd_Mo_copy_125 2 rfl ?_
                      refine gf_iload C dd_Mo_copy_127 1 rfl ?_
                      refine gf_icmp_ge 142 C dd_Mo_copy_129 (by decide) (by omega) (by omega) (fun h129 => ?_) (fun h129 => ?_)
                      · skip
                        refine gf_iload C dd_Mo_copy_142 0 rfl ?_
                        refine gf_istore (lv' := [(9, .int (gf_i k)), (8, .int (gf_i k)), (7, .int (gf_i x113)), (6, .int (gf_i x104)), (0, .ref (gf_ad E 65)), (1, .int (gf_i r)), (2, .int (gf_i i)), (3, .int (gf_i o)), (4, .int (gf_i j)), (5, .int (gf_i n))]) C dd_Mo_copy_144 (by decide) rfl ?_
                        refine gf_aload_n C dd_Mo_copy_146 4 rfl ?_
                        refine gf_getA (r := 67) C gf_cl7 fl_Mo_13 dd_Mo_copy_147 rfl (show gf_is 81 65 0 7 26 by decide) (by decide) (by decide) ?_
                        refine gf_iload C dd_Mo_copy_150 2 rfl ?_
                        refine gf_iload C dd_Mo_copy_152 0 rfl ?_
                        refine gf_iadd C dd_Mo_copy_154 ?_
                        refine gf_aload_n C dd_Mo_copy_155 4 rfl ?_
                        refine gf_getA (r := 67) C gf_cl7 fl_Mo_13 dd_Mo_copy_156 rfl (show gf_is 81 65 0 7 26 by decide) (by decide) (by decide) ?_
                        refine gf_iload C dd_Mo_copy_159 3 rfl ?_
                        refine gf_iload C dd_Mo_copy_161 0 rfl ?_
                        refine gf_iadd C dd_Mo_copy_163 ?_
                        refine gf_iald C dd_Mo_copy_164 (show gf_is 81 67 1 0 240 by decide) (by omega) (fun hv164 => ?_)
                        refine gf_iast C dd_Mo_copy_165 (show gf_is 81 67 1 0 240 by decide) (by omega) (by omega) ?_
                        refine gf_nmM (fun m165 hm165 => ?_)
                        obtain ⟨x166, hx166⟩ : ∃ y : Int, y = k + 1 := ⟨_, rfl⟩
                        refine gf_iinc (q := 1) (v := x166) (lv' := [(8, .int (gf_i x166)), (9, .int (gf_i k)), (7, .int (gf_i x113)), (6, .int (gf_i x104)), (0, .ref (gf_ad E 65)), (1, .int (gf_i r)), (2, .int (gf_i i)), (3, .int (gf_i o)), (4, .int (gf_i j)), (5, .int (gf_i n))]) C dd_Mo_copy_166 rfl hx166 (by decide) rfl ?_
                        refine gf_goto 118 C dd_Mo_copy_169 (by decide) ?_
                        refine gf_lsub [0, 2, 3, 4, 5, 6, 7, 8, 9] rfl ?_
                        exact ih118_1 x166 m165 (by
                                have e1 : x166 = k + 1 := by omega
                                refine ⟨by omega, by omega, fun h => ?_, fun h => ?_⟩
                                · first
                                  | (exfalso; omega)
                                  | (rw [hm165, hmA h, show x113 + x144 = x113 + n - k - 1 by omega, show x104 + x144 = x104 + n - k - 1 by omega, gf_cp_dn hk0 (by omega), e1, show x104 + n - (k + 1) = x104 + n - k - 1 by omega, show x113 + n - (k + 1) = x113 + n - k - 1 by omega])
                                · first
                                  | (exfalso; omega)
                                  | (rw [hm165, hmB h, gf_cp_up hk0 (by omega), e1])) (by omega)
                      · skip
                        refine gf_iload C dd_Mo_copy_132 8 rfl ?_
                        refine gf_iconst C dd_Mo_copy_134 ?_
                        refine gf_isub C dd_Mo_copy_135 ?_
                        refine gf_iload C dd_Mo_copy_136 0 rfl ?_
                        refine gf_isub C dd_Mo_copy_138 ?_
                        refine gf_goto 144 C dd_Mo_copy_139 (by decide) ?_
                        refine gf_nm (fun x144 hx144 => ?_)
                        refine gf_istore (lv' := [(9, .int (gf_i x144)), (8, .int (gf_i k)), (7, .int (gf_i x113)), (6, .int (gf_i x104)), (0, .ref (gf_ad E 65)), (1, .int (gf_i r)), (2, .int (gf_i i)), (3, .int (gf_i o)), (4, .int (gf_i j)), (5, .int (gf_i n))]) C dd_Mo_copy_144 (by decide) rfl ?_
                        refine gf_aload_n C dd_Mo_copy_146 4 rfl ?_
                        refine gf_getA (r := 67) C gf_cl7 fl_Mo_13 dd_Mo_copy_147 rfl (show gf_is 81 65 0 7 26 by decide) (by decide) (by decide) ?_
                        refine gf_iload C dd_Mo_copy_150 2 rfl ?_
                        refine gf_iload C dd_Mo_copy_152 0 rfl ?_
                        refine gf_iadd C dd_Mo_copy_154 ?_
                        refine gf_aload_n C dd_Mo_copy_155 4 rfl ?_
                        refine gf_getA (r := 67) C gf_cl7 fl_Mo_13 dd_Mo_copy_156 rfl (show gf_is 81 65 0 7 26 by decide) (by decide) (by decide) ?_
                        refine gf_iload C dd_Mo_copy_159 3 rfl ?_
                        refine gf_iload C dd_Mo_copy_161 0 rfl ?_
                        refine gf_iadd C dd_Mo_copy_163 ?_
                        refine gf_iald C dd_Mo_copy_164 (show gf_is 81 67 1 0 240 by decide) (by omega) (fun hv164 => ?_)
                        refine gf_iast C dd_Mo_copy_165 (show gf_is 81 67 1 0 240 by decide) (by omega) (by omega) ?_
                        refine gf_nmM (fun m165 hm165 => ?_)
                        obtain ⟨x166, hx166⟩ : ∃ y : Int, y = k + 1 := ⟨_, rfl⟩
                        refine gf_iinc (q := 1) (v := x166) (lv' := [(8, .int (gf_i x166)), (9, .int (gf_i x144)), (7, .int (gf_i x113)), (6, .int (gf_i x104)), (0, .ref (gf_ad E 65)), (1, .int (gf_i r)), (2, .int (gf_i i)), (3, .int (gf_i o)), (4, .int (gf_i j)), (5, .int (gf_i n))]) C dd_Mo_copy_166 rfl hx166 (by decide) rfl ?_
                        refine gf_goto 118 C dd_Mo_copy_169 (by decide) ?_
                        refine gf_lsub [0, 2, 3, 4, 5, 6, 7, 8, 9] rfl ?_
                        exact ih118_1 x166 m165 (by
                                have e1 : x166 = k + 1 := by omega
                                refine ⟨by omega, by omega, fun h => ?_, fun h => ?_⟩
                                · first
                                  | (exfalso; omega)
                                  | (rw [hm165, hmA h, show x113 + x144 = x113 + n - k - 1 by omega, show x104 + x144 = x104 + n - k - 1 by omega, gf_cp_dn hk0 (by omega), e1, show x104 + n - (k + 1) = x104 + n - k - 1 by omega, show x113 + n - (k + 1) = x113 + n - k - 1 by omega])
                                · first
                                  | (exfalso; omega)
                                  | (rw [hm165, hmB h, gf_cp_up hk0 (by omega), e1])) (by omega)
                refine gf_lsub [0, 1, 2, 3, 4, 5, 6, 7, 8] rfl ?_
                exact L118_1 _ 0 μ (⟨by omega, by omega, fun _ => (gf_cp_0 _ _ _ _ _).symm, fun _ => (gf_cp_0 _ _ _ _ _).symm⟩) (Nat.lt_succ_self _)
              · skip
                refine gf_aload_n C dd_Mo_copy_92 0 rfl ?_
                refine gf_iconst C dd_Mo_copy_93 ?_
                refine gf_callVi (st := []) (As := [.int (gf_i 2)]) C wk_Mo_77 gf_cl7 (show gf_is 81 65 0 7 26 by decide) (ct_Mo_find (gf_xl X) E 2 μ (by omega)) rfl ⟨rfl, rfl, rfl, rfl⟩ (Nat.le_of_ble_eq_true rfl) rfl dd_Mo_copy_94 (fun r94 m94 hR94 hp94 => ?_)
                refine gf_iret C hQ dd_Mo_copy_97 (by omega) ?_
                exact ⟨fun h => absurd h (by omega), fun _ => ⟨fun h => absurd h (by omega), fun _ => ⟨fun h => absurd h (by omega), fun _ => ⟨fun _ => hp94, fun h => absurd h (by omega)⟩⟩⟩⟩
          · skip
            refine gf_aload_n C dd_Mo_copy_45 0 rfl ?_
            refine gf_iconst C dd_Mo_copy_46 ?_
            refine gf_callVi (st := []) (As := [.int (gf_i 1)]) C wk_Mo_77 gf_cl7 (show gf_is 81 65 0 7 26 by decide) (ct_Mo_find (gf_xl X) E 1 μ (by omega)) rfl ⟨rfl, rfl, rfl, rfl⟩ (Nat.le_of_ble_eq_true rfl) rfl dd_Mo_copy_47 (fun r47 m47 hR47 hp47 => ?_)
            refine gf_iret C hQ dd_Mo_copy_50 (by omega) ?_
            exact ⟨fun h => absurd h (by omega), fun _ => ⟨fun h => absurd h (by omega), fun _ => ⟨fun _ => hp47, fun h => absurd h (by omega)⟩⟩⟩
      · skip
        refine gf_aload_n C dd_Mo_copy_21 0 rfl ?_
        refine gf_iconst C dd_Mo_copy_22 ?_
        refine gf_callVi (st := []) (As := [.int (gf_i 5)]) C wk_Mo_77 gf_cl7 (show gf_is 81 65 0 7 26 by decide) (ct_Mo_find (gf_xl X) E 5 μ (by omega)) rfl ⟨rfl, rfl, rfl, rfl⟩ (Nat.le_of_ble_eq_true rfl) rfl dd_Mo_copy_23 (fun r23 m23 hR23 hp23 => ?_)
        refine gf_iret C hQ dd_Mo_copy_26 (by omega) ?_
        exact ⟨fun h => absurd h (by omega), fun _ => ⟨fun _ => hp23, fun h => absurd h (by omega)⟩⟩
    · skip
      refine gf_iconst C dd_Mo_copy_14 ?_
      refine gf_iret C hQ dd_Mo_copy_15 (by omega) ?_
      exact ⟨fun _ => ⟨rfl, rfl⟩, fun h => absurd h (by omega)⟩
