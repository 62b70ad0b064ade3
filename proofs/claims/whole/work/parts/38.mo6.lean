theorem gm_wr_x {μ m : gf_M} (h : gm_wr μ m) (hn : 0 ≤ μ 71 1 ∧ μ 71 1 ≤ 8) (hx : ∀ j : Int, 0 ≤ j → j < μ 71 1 → 0 ≤ μ 71 (24 + j) ∧ μ 71 (24 + j) ≤ 9) : ∀ j : Int, 0 ≤ j → j < μ 71 1 → 0 ≤ m 73 j ∧ m 73 j ≤ 9 := fun j h0 h1 => by
  rw [h.2.1 j h0 (by omega)]
  exact hx j h0 h1
theorem gm_wr_g {μ m : gf_M} (h : gm_wr μ m) {i : Int} (hg : gm_okg μ i) : gm_okg m i := by
  unfold gm_okg at hg ⊢
  rw [h.2.2 71 _ (by omega) (by omega), h.2.2 71 _ (by omega) (by omega), h.2.2 71 _ (by omega) (by omega)]
  exact hg
theorem gm_rk_f {μ m : gf_M} (h : ∀ b : Int, m 71 b = μ 71 b) (i : Int) (f : Int → Int) (n : Int) : gm_rk m i f n = gm_rk μ i f n := by
  unfold gm_rk
  rw [h, h, h]
theorem gm_rk_congr {μ : gf_M} {i : Int} {f g : Int → Int} {n : Int} (h : ∀ j : Int, 0 ≤ j → j < n → f j = g j) : gm_rk μ i f n = gm_rk μ i g n := pf_reck_congr h
theorem dd_Mo_now_0 : decode cc_Mo_now 0 = .ok (.aload_n 0, 1) := by decide +kernel
theorem dd_Mo_now_1 : decode cc_Mo_now 1 = .ok (.invokevirtual 149, 3) := by decide +kernel
theorem dd_Mo_now_4 : decode cc_Mo_now 4 = .ok (.aload_n 0, 1) := by decide +kernel
theorem dd_Mo_now_5 : decode cc_Mo_now 5 = .ok (.iload_n 1, 1) := by decide +kernel
theorem dd_Mo_now_6 : decode cc_Mo_now 6 = .ok (.aload_n 0, 1) := by decide +kernel
theorem dd_Mo_now_7 : decode cc_Mo_now 7 = .ok (.getfield 36, 3) := by decide +kernel
theorem dd_Mo_now_10 : decode cc_Mo_now 10 = .ok (.aload_n 0, 1) := by decide +kernel
theorem dd_Mo_now_11 : decode cc_Mo_now 11 = .ok (.getfield 146, 3) := by decide +kernel
theorem dd_Mo_now_14 : decode cc_Mo_now 14 = .ok (.invokevirtual 152, 3) := by decide +kernel
theorem dd_Mo_now_17 : decode cc_Mo_now 17 = .ok (.ireturn, 1) := by decide +kernel
set_option maxRecDepth 100000 in
set_option maxHeartbeats 4000000 in
theorem ct_Mo_now (l : Launch) (E : gf_E) (i : Int) (μ : gf_M) (hg : gm_okg μ i) (hn : 0 ≤ μ 71 1 ∧ μ 71 1 ≤ 8) (hx : ∀ j : Int, 0 ≤ j → j < μ 71 1 → 0 ≤ μ 71 (24 + j) ∧ μ 71 (24 + j) ≤ 9)  : gf_Mi l E yy_Mo_now cc_Mo_now 2 .int (gf_rm 4 100) 81 gf_ref μ [.ref (gf_ad E 65), .int (gf_i i)] (fun q μ' => (q = gm_rk μ i (gm_x μ) (μ 71 1) ∧ 0 ≤ q ∧ q ≤ 10) ∧ gm_wr μ μ') := by
  refine gf_mi (by decide +kernel) (Nat.le_of_ble_eq_true rfl) (by decide) (fun X Q hlx C hQ => ?_)
  subst hlx
  replace C : gf_C X E cc_Mo_now 2 "GuardFiguresModel" (gf_rm 4 100) := C
  show gf_G X E Q 2 gf_φ μ 0 [(0, .ref (gf_ad E 65)), (1, .int (gf_i i))] []
  have hg0 := hg.1
  refine gf_aload_n C dd_Mo_now_0 0 rfl ?_
  refine gf_callVv (st := []) (As := []) C wk_Mo_149 gf_cl7 (show gf_is 81 65 0 7 26 by decide) (ct_Mo_write (gf_xl X) E μ (by omega)) rfl ⟨rfl, rfl, rfl, rfl⟩ (Nat.le_of_ble_eq_true rfl) rfl dd_Mo_now_1 (fun m1 hp1 => ?_)
  have e15 := hp1.1
  refine gf_aload_n C dd_Mo_now_4 0 rfl ?_
  refine gf_iload_n C dd_Mo_now_5 1 rfl ?_
  refine gf_aload_n C dd_Mo_now_6 0 rfl ?_
  refine gf_getA (r := 73) C gf_cl7 fl_Mo_36 dd_Mo_now_7 rfl (show gf_is 81 65 0 7 26 by decide) (by decide) (by decide) ?_
  refine gf_aload_n C dd_Mo_now_10 0 rfl ?_
  refine gf_getI (z := 15) C gf_cl7 fl_Mo_146 dd_Mo_now_11 rfl rfl (show gf_is 81 65 0 7 26 by decide) (fun hv11 => ?_)
  refine gf_callVi (st := []) (As := [.int (gf_i i), .ref (gf_ad E 73), .int (gf_i (m1 65 15))]) C wk_Mo_152 gf_cl7 (show gf_is 81 65 0 7 26 by decide) (ct_Mo_byGuard (gf_xl X) E i 73 (m1 65 15) 8 m1 (gm_wr_g hp1 hg) (show gf_is 81 73 1 0 8 by decide) (by omega) (by rw [e15]; exact gm_wr_x hp1 hn hx)) rfl ⟨rfl, rfl, rfl, rfl⟩ (Nat.le_of_ble_eq_true rfl) rfl dd_Mo_now_14 (fun r14 m14 hR14 hp14 => ?_)
  have hr14 := hp14.1
  refine gf_pm hp14.2 ?_
  refine gf_iret C hQ dd_Mo_now_17 (by omega) ?_
  refine ⟨⟨?_, hr14.2⟩, hp1⟩
  rw [hr14.1, gm_rk_f (fun b => hp1.2.2 71 b (by omega) (by omega)), e15]
  exact gm_rk_congr (fun j h0 h1 => hp1.2.1 j h0 (by omega))

theorem dd_Mo_asNumber_0 : decode cc_Mo_asNumber 0 = .ok (.iconst 0, 1) := by decide +kernel
theorem dd_Mo_asNumber_1 : decode cc_Mo_asNumber 1 = .ok (.istore_n 2, 1) := by decide +kernel
theorem dd_Mo_asNumber_2 : decode cc_Mo_asNumber 2 = .ok (.iconst 0, 1) := by decide +kernel
theorem dd_Mo_asNumber_3 : decode cc_Mo_asNumber 3 = .ok (.istore_n 3, 1) := by decide +kernel
theorem dd_Mo_asNumber_4 : decode cc_Mo_asNumber 4 = .ok (.iload_n 3, 1) := by decide +kernel
theorem dd_Mo_asNumber_5 : decode cc_Mo_asNumber 5 = .ok (.iload_n 1, 1) := by decide +kernel
theorem dd_Mo_asNumber_6 : decode cc_Mo_asNumber 6 = .ok (.if_icmp .ge 18, 3) := by decide +kernel
theorem dd_Mo_asNumber_9 : decode cc_Mo_asNumber 9 = .ok (.bipush 10, 2) := by decide +kernel
theorem dd_Mo_asNumber_11 : decode cc_Mo_asNumber 11 = .ok (.iload_n 2, 1) := by decide +kernel
theorem dd_Mo_asNumber_12 : decode cc_Mo_asNumber 12 = .ok (.imul, 1) := by decide +kernel
theorem dd_Mo_asNumber_13 : decode cc_Mo_asNumber 13 = .ok (.aload_n 0, 1) := by decide +kernel
theorem dd_Mo_asNumber_14 : decode cc_Mo_asNumber 14 = .ok (.iload_n 3, 1) := by decide +kernel
theorem dd_Mo_asNumber_15 : decode cc_Mo_asNumber 15 = .ok (.iaload, 1) := by decide +kernel
theorem dd_Mo_asNumber_16 : decode cc_Mo_asNumber 16 = .ok (.iadd, 1) := by decide +kernel
theorem dd_Mo_asNumber_17 : decode cc_Mo_asNumber 17 = .ok (.istore_n 2, 1) := by decide +kernel
theorem dd_Mo_asNumber_18 : decode cc_Mo_asNumber 18 = .ok (.iinc 3 1, 3) := by decide +kernel
theorem dd_Mo_asNumber_21 : decode cc_Mo_asNumber 21 = .ok (.goto (-17), 3) := by decide +kernel
theorem dd_Mo_asNumber_24 : decode cc_Mo_asNumber 24 = .ok (.iload_n 2, 1) := by decide +kernel
theorem dd_Mo_asNumber_25 : decode cc_Mo_asNumber 25 = .ok (.ireturn, 1) := by decide +kernel
set_option maxRecDepth 100000 in
set_option maxHeartbeats 4000000 in
theorem ct_Mo_asNumber (l : Launch) (E : gf_E) (k n : Int) (N : Nat) (μ : gf_M) (hk : gf_is 81 k 1 0 N) (hn : 0 ≤ n ∧ n ≤ 8 ∧ n ≤ N) (hF : ∀ j : Int, 0 ≤ j → j < n → 0 ≤ μ k j ∧ μ k j ≤ 9)  : gf_Mi l E yy_Mo_asNumber cc_Mo_asNumber 4 .int (gf_rm 0 0) 81 gf_ref μ [.ref (gf_ad E k), .int (gf_i n)] (fun q μ' => (q = pf_num (μ k) n.toNat ∧ 0 ≤ q ∧ q < 100000000) ∧ μ' = μ) := by
  refine gf_mi (by decide +kernel) (Nat.le_of_ble_eq_true rfl) (by decide) (fun X Q hlx C hQ => ?_)
  subst hlx
  replace C : gf_C X E cc_Mo_asNumber 4 "GuardFiguresModel" (gf_rm 0 0) := C
  show gf_G X E Q 4 gf_φ μ 0 [(0, .ref (gf_ad E k)), (1, .int (gf_i n))] []
  refine gf_iconst C dd_Mo_asNumber_0 ?_
  refine gf_istore_n (lv' := [(2, .int (gf_i 0)), (0, .ref (gf_ad E k)), (1, .int (gf_i n))]) C dd_Mo_asNumber_1 (by decide) rfl ?_
  refine gf_iconst C dd_Mo_asNumber_2 ?_
  refine gf_istore_n (lv' := [(3, .int (gf_i 0)), (2, .int (gf_i 0)), (0, .ref (gf_ad E k)), (1, .int (gf_i n))]) C dd_Mo_asNumber_3 (by decide) rfl ?_
  have L4_1 : ∀ (N : Nat) (z j : Int) , (0 ≤ j ∧ j ≤ n ∧ z = pf_num (μ k) j.toNat) → (8 - j).toNat < N → gf_G X E Q 4 gf_φ μ 4 [(2, .int (gf_i z)), (3, .int (gf_i j)), (0, .ref (gf_ad E k)), (1, .int (gf_i n))] [] := by
    intro N
    induction N with
    | zero => intro z j hinv hN; exact absurd hN (Nat.not_lt_zero _)
    | succ N ih4_1 =>
      intro z j hinv hN
      have hinv0 := hinv
      obtain ⟨hj0, hj1, hz⟩ := hinv
      have hzR := pf_num_R (f := μ k) j.toNat (fun a h0 h1 => hF a h0 (by omega))
      rw [← hz] at hzR
      have hpw : (10 : Int) ^ j.toNat ≤ 100000000 := (show ∀ n : Nat, n < 9 → (10 : Int) ^ n ≤ 100000000 by decide) j.toNat (by omega)
      refine gf_iload_n C dd_Mo_asNumber_4 1 rfl ?_
      refine gf_iload_n C dd_Mo_asNumber_5 3 rfl ?_
      refine gf_icmp_ge 24 C dd_Mo_asNumber_6 (by decide) (by omega) (by omega) (fun h6 => ?_) (fun h6 => ?_)
      · skip
        refine gf_iload_n C dd_Mo_asNumber_24 0 rfl ?_
        refine gf_iret C hQ dd_Mo_asNumber_25 (by omega) ?_
        have ej : j = n := by omega
        rw [ej] at hz
        exact ⟨⟨hz, by omega, by omega⟩, rfl⟩
      · skip
        refine gf_bipush C dd_Mo_asNumber_9 (by decide +kernel) ?_
        refine gf_iload_n C dd_Mo_asNumber_11 0 rfl ?_
        refine gf_imul C dd_Mo_asNumber_12 ?_
        refine gf_aload_n C dd_Mo_asNumber_13 2 rfl ?_
        refine gf_iload_n C dd_Mo_asNumber_14 1 rfl ?_
        refine gf_iald C dd_Mo_asNumber_15 hk (by omega) (fun hv15 => ?_)
        refine gf_iadd C dd_Mo_asNumber_16 ?_
        refine gf_nm (fun x17 hx17 => ?_)
        refine gf_istore_n (lv' := [(2, .int (gf_i x17)), (3, .int (gf_i j)), (0, .ref (gf_ad E k)), (1, .int (gf_i n))]) C dd_Mo_asNumber_17 (by decide) rfl ?_
        obtain ⟨x18, hx18⟩ : ∃ y : Int, y = j + 1 := ⟨_, rfl⟩
        refine gf_iinc (q := 1) (v := x18) (lv' := [(3, .int (gf_i x18)), (2, .int (gf_i x17)), (0, .ref (gf_ad E k)), (1, .int (gf_i n))]) C dd_Mo_asNumber_18 rfl hx18 (by decide) rfl ?_
        refine gf_goto 4 C dd_Mo_asNumber_21 (by decide) ?_
        refine gf_lsub [1, 0, 2, 3] rfl ?_
        exact ih4_1 x17 x18 (by
                refine ⟨by omega, by omega, ?_⟩
                rw [show x18.toNat = j.toNat + 1 by omega]
                show _ = pf_num (μ k) j.toNat * 10 + μ k ((j.toNat : Nat) : Int)
                rw [← hz, show ((j.toNat : Nat) : Int) = j by omega, hx17]
                omega) (by omega)
  refine gf_lsub [1, 0, 2, 3] rfl ?_
  exact L4_1 _ 0 0 (⟨by omega, by omega, rfl⟩) (Nat.lt_succ_self _)

theorem dd_Mo_isGuard_0 : decode cc_Mo_isGuard 0 = .ok (.iload_n 1, 1) := by decide +kernel
theorem dd_Mo_isGuard_1 : decode cc_Mo_isGuard 1 = .ok (.i2l, 1) := by decide +kernel
theorem dd_Mo_isGuard_2 : decode cc_Mo_isGuard 2 = .ok (.lconst 0, 1) := by decide +kernel
theorem dd_Mo_isGuard_3 : decode cc_Mo_isGuard 3 = .ok (.aload_n 0, 1) := by decide +kernel
theorem dd_Mo_isGuard_4 : decode cc_Mo_isGuard 4 = .ok (.getfield 30, 3) := by decide +kernel
theorem dd_Mo_isGuard_7 : decode cc_Mo_isGuard 7 = .ok (.iconst 0, 1) := by decide +kernel
theorem dd_Mo_isGuard_8 : decode cc_Mo_isGuard 8 = .ok (.iaload, 1) := by decide +kernel
theorem dd_Mo_isGuard_9 : decode cc_Mo_isGuard 9 = .ok (.iconst 1, 1) := by decide +kernel
theorem dd_Mo_isGuard_10 : decode cc_Mo_isGuard 10 = .ok (.isub, 1) := by decide +kernel
theorem dd_Mo_isGuard_11 : decode cc_Mo_isGuard 11 = .ok (.i2l, 1) := by decide +kernel
theorem dd_Mo_isGuard_12 : decode cc_Mo_isGuard 12 = .ok (.invokestatic 69, 3) := by decide +kernel
theorem dd_Mo_isGuard_15 : decode cc_Mo_isGuard 15 = .ok (.ireturn, 1) := by decide +kernel
set_option maxRecDepth 100000 in
set_option maxHeartbeats 4000000 in
theorem ct_Mo_isGuard (l : Launch) (E : gf_E) (i : Int) (μ : gf_M) (hi : gf_R i) (hc : 0 ≤ μ 71 0 ∧ μ 71 0 ≤ 7) : gf_Mi l E yy_Mo_isGuard cc_Mo_isGuard 2 .boolean (gf_rm 1 25) 81 gf_ref μ [.ref (gf_ad E 65), .int (gf_i i)] (fun q μ' => ((0 ≤ i ∧ i < μ 71 0 ∧ q = 1) ∨ (¬ (0 ≤ i ∧ i < μ 71 0) ∧ q = 0)) ∧ μ' = μ) := by
  refine gf_mi (by decide +kernel) (Nat.le_of_ble_eq_true rfl) (by decide) (fun X Q hlx C hQ => ?_)
  subst hlx
  replace C : gf_C X E cc_Mo_isGuard 2 "GuardFiguresModel" (gf_rm 1 25) := C
  show gf_G X E Q 2 gf_φ μ 0 [(0, .ref (gf_ad E 65)), (1, .int (gf_i i))] []
  refine gf_iload_n C dd_Mo_isGuard_0 1 rfl ?_
  refine gf_gi2l C dd_Mo_isGuard_1 (by omega) ?_
  refine gf_lconst 0 C dd_Mo_isGuard_2 (by decide +kernel) ?_
  refine gf_aload_n C dd_Mo_isGuard_3 0 rfl ?_
  refine gf_getA (r := 71) C gf_cl7 fl_Mo_30 dd_Mo_isGuard_4 rfl (show gf_is 81 65 0 7 26 by decide) (by decide) (by decide) ?_
  refine gf_iconst C dd_Mo_isGuard_7 ?_
  refine gf_iald C dd_Mo_isGuard_8 (show gf_is 81 71 1 0 392 by decide) (by omega) (fun hv8 => ?_)
  refine gf_iconst C dd_Mo_isGuard_9 ?_
  refine gf_isub C dd_Mo_isGuard_10 ?_
  refine gf_gi2l C dd_Mo_isGuard_11 (by omega) ?_
  refine gf_callSi (st := []) (As := [.long (gf_l i), .long (gf_l 0), .long (gf_l ((μ 71 0) - 1))]) C wk_Mo_69 (ct_Mo_in (gf_xl X) E i 0 ((μ 71 0) - 1) μ (by omega) (by omega) (by omega)) rfl ⟨rfl, rfl, rfl, rfl⟩ (Nat.le_of_ble_eq_true rfl) rfl dd_Mo_isGuard_12 (fun r12 m12 hR12 hp12 => ?_)
  have hr12 := hp12.1
  refine gf_pm hp12.2 ?_
  refine gf_zret C hQ dd_Mo_isGuard_15 (by omega) ?_
  exact ⟨by omega, rfl⟩

theorem dd_Mo_isOf_0 : decode cc_Mo_isOf 0 = .ok (.iload_n 0, 1) := by decide +kernel
theorem dd_Mo_isOf_1 : decode cc_Mo_isOf 1 = .ok (.iload_n 1, 1) := by decide +kernel
theorem dd_Mo_isOf_2 : decode cc_Mo_isOf 2 = .ok (.if_icmp .eq 23, 3) := by decide +kernel
theorem dd_Mo_isOf_5 : decode cc_Mo_isOf 5 = .ok (.iload_n 0, 1) := by decide +kernel
theorem dd_Mo_isOf_6 : decode cc_Mo_isOf 6 = .ok (.iconst 4, 1) := by decide +kernel
theorem dd_Mo_isOf_7 : decode cc_Mo_isOf 7 = .ok (.if_icmp .ne 8, 3) := by decide +kernel
theorem dd_Mo_isOf_10 : decode cc_Mo_isOf 10 = .ok (.iload_n 1, 1) := by decide +kernel
theorem dd_Mo_isOf_11 : decode cc_Mo_isOf 11 = .ok (.iconst 1, 1) := by decide +kernel
theorem dd_Mo_isOf_12 : decode cc_Mo_isOf 12 = .ok (.if_icmp .eq 13, 3) := by decide +kernel
theorem dd_Mo_isOf_15 : decode cc_Mo_isOf 15 = .ok (.iload_n 0, 1) := by decide +kernel
theorem dd_Mo_isOf_16 : decode cc_Mo_isOf 16 = .ok (.iconst 5, 1) := by decide +kernel
theorem dd_Mo_isOf_17 : decode cc_Mo_isOf 17 = .ok (.if_icmp .ne 12, 3) := by decide +kernel
theorem dd_Mo_isOf_20 : decode cc_Mo_isOf 20 = .ok (.iload_n 1, 1) := by decide +kernel
theorem dd_Mo_isOf_21 : decode cc_Mo_isOf 21 = .ok (.iconst 2, 1) := by decide +kernel
theorem dd_Mo_isOf_22 : decode cc_Mo_isOf 22 = .ok (.if_icmp .ne 7, 3) := by decide +kernel
theorem dd_Mo_isOf_25 : decode cc_Mo_isOf 25 = .ok (.iconst 1, 1) := by decide +kernel
theorem dd_Mo_isOf_26 : decode cc_Mo_isOf 26 = .ok (.goto 4, 3) := by decide +kernel
theorem dd_Mo_isOf_29 : decode cc_Mo_isOf 29 = .ok (.iconst 0, 1) := by decide +kernel
theorem dd_Mo_isOf_30 : decode cc_Mo_isOf 30 = .ok (.ireturn, 1) := by decide +kernel
set_option maxRecDepth 100000 in
set_option maxHeartbeats 4000000 in
theorem ct_Mo_isOf (l : Launch) (E : gf_E) (x w : Int) (μ : gf_M) (hx : gf_R x) (hw : 1 ≤ w ∧ w ≤ 5) : gf_Mi l E yy_Mo_isOf cc_Mo_isOf 2 .boolean (gf_rm 0 0) 81 gf_ref μ [.int (gf_i x), .int (gf_i w)] (fun q μ' => ((pf_is x w ∧ q = 1) ∨ (¬ pf_is x w ∧ q = 0)) ∧ μ' = μ) := by
  refine gf_mi (by decide +kernel) (Nat.le_of_ble_eq_true rfl) (by decide) (fun X Q hlx C hQ => ?_)
  subst hlx
  replace C : gf_C X E cc_Mo_isOf 2 "GuardFiguresModel" (gf_rm 0 0) := C
  show gf_G X E Q 2 gf_φ μ 0 [(0, .int (gf_i x)), (1, .int (gf_i w))] []
  refine gf_iload_n C dd_Mo_isOf_0 0 rfl ?_
  refine gf_iload_n C dd_Mo_isOf_1 1 rfl ?_
  refine gf_icmp_eq 25 C dd_Mo_isOf_2 (by decide) (by omega) (by omega) (fun h2 => ?_) (fun h2 => ?_)
  · skip
    refine gf_iconst C dd_Mo_isOf_25 ?_
    refine gf_goto 30 C dd_Mo_isOf_26 (by decide) ?_
    refine gf_zret C hQ dd_Mo_isOf_30 (by omega) ?_
    unfold pf_is
    exact ⟨by omega, rfl⟩
  · skip
    refine gf_iload_n C dd_Mo_isOf_5 0 rfl ?_
    refine gf_iconst C dd_Mo_isOf_6 ?_
    refine gf_icmp_ne 15 C dd_Mo_isOf_7 (by decide) (by omega) (by omega) (fun h7 => ?_) (fun h7 => ?_)
    · skip
      refine gf_iload_n C dd_Mo_isOf_15 0 rfl ?_
      refine gf_iconst C dd_Mo_isOf_16 ?_
      refine gf_icmp_ne 29 C dd_Mo_isOf_17 (by decide) (by omega) (by omega) (fun h17 => ?_) (fun h17 => ?_)
      · skip
        refine gf_iconst C dd_Mo_isOf_29 ?_
        refine gf_zret C hQ dd_Mo_isOf_30 (by omega) ?_
        unfold pf_is
        exact ⟨by omega, rfl⟩
      · skip
        refine gf_iload_n C dd_Mo_isOf_20 1 rfl ?_
        refine gf_iconst C dd_Mo_isOf_21 ?_
        refine gf_icmp_ne 29 C dd_Mo_isOf_22 (by decide) (by omega) (by omega) (fun h22 => ?_) (fun h22 => ?_)
        · skip
          refine gf_iconst C dd_Mo_isOf_29 ?_
          refine gf_zret C hQ dd_Mo_isOf_30 (by omega) ?_
          unfold pf_is
          exact ⟨by omega, rfl⟩
        · skip
          refine gf_iconst C dd_Mo_isOf_25 ?_
          refine gf_goto 30 C dd_Mo_isOf_26 (by decide) ?_
          refine gf_zret C hQ dd_Mo_isOf_30 (by omega) ?_
          unfold pf_is
          exact ⟨by omega, rfl⟩
    · skip
      refine gf_iload_n C dd_Mo_isOf_10 1 rfl ?_
      refine gf_iconst C dd_Mo_isOf_11 ?_
      refine gf_icmp_eq 25 C dd_Mo_isOf_12 (by decide) (by omega) (by omega) (fun h12 => ?_) (fun h12 => ?_)
      · skip
        refine gf_iconst C dd_Mo_isOf_25 ?_
        refine gf_goto 30 C dd_Mo_isOf_26 (by decide) ?_
        refine gf_zret C hQ dd_Mo_isOf_30 (by omega) ?_
        unfold pf_is
        exact ⟨by omega, rfl⟩
      · skip
        refine gf_iload_n C dd_Mo_isOf_15 0 rfl ?_
        refine gf_iconst C dd_Mo_isOf_16 ?_
        refine gf_icmp_ne 29 C dd_Mo_isOf_17 (by decide) (by omega) (by omega) (fun h17 => ?_) (fun h17 => ?_)
        · skip
          refine gf_iconst C dd_Mo_isOf_29 ?_
          refine gf_zret C hQ dd_Mo_isOf_30 (by omega) ?_
          unfold pf_is
          exact ⟨by omega, rfl⟩
        · skip
          refine gf_iload_n C dd_Mo_isOf_20 1 rfl ?_
          refine gf_iconst C dd_Mo_isOf_21 ?_
          refine gf_icmp_ne 29 C dd_Mo_isOf_22 (by decide) (by omega) (by omega) (fun h22 => ?_) (fun h22 => ?_)
          · skip
            refine gf_iconst C dd_Mo_isOf_29 ?_
            refine gf_zret C hQ dd_Mo_isOf_30 (by omega) ?_
            unfold pf_is
            exact ⟨by omega, rfl⟩
          · skip
            refine gf_iconst C dd_Mo_isOf_25 ?_
            refine gf_goto 30 C dd_Mo_isOf_26 (by decide) ?_
            refine gf_zret C hQ dd_Mo_isOf_30 (by omega) ?_
            unfold pf_is
            exact ⟨by omega, rfl⟩
