/-! Row -/
def pf_sum (f : Int → Int) : Nat → Int
  | 0 => 0
  | n + 1 => pf_sum f n + f n
def pf_dig (h : Int) (f : Int → Int) : Nat → Int
  | 0 => h
  | n + 1 => 31 * pf_dig h f n + f n
theorem dd_Ro_isThere_0 : decode cc_Ro_isThere 0 = .ok (.aload_n 0, 1) := by decide +kernel
theorem dd_Ro_isThere_1 : decode cc_Ro_isThere 1 = .ok (.getfield 13, 3) := by decide +kernel
theorem dd_Ro_isThere_4 : decode cc_Ro_isThere 4 = .ok (.iconst (-1), 1) := by decide +kernel
theorem dd_Ro_isThere_5 : decode cc_Ro_isThere 5 = .ok (.if_icmp .eq 7, 3) := by decide +kernel
theorem dd_Ro_isThere_8 : decode cc_Ro_isThere 8 = .ok (.iconst 1, 1) := by decide +kernel
theorem dd_Ro_isThere_9 : decode cc_Ro_isThere 9 = .ok (.goto 4, 3) := by decide +kernel
theorem dd_Ro_isThere_12 : decode cc_Ro_isThere 12 = .ok (.iconst 0, 1) := by decide +kernel
theorem dd_Ro_isThere_13 : decode cc_Ro_isThere 13 = .ok (.ireturn, 1) := by decide +kernel
set_option maxRecDepth 100000 in
set_option maxHeartbeats 4000000 in
theorem ct_Ro_isThere (l : Launch) (E : gf_E) (k : Int) (N : Nat) (μ : gf_M) (hk : gf_oRow k N)  : gf_Mi l E yy_Ro_isThere cc_Ro_isThere 1 .boolean (gf_rm 0 0) 81 gf_ref μ [.ref (gf_ad E k)] (fun r μ' => ((μ k 1 = -1 → r = 0) ∧ (μ k 1 ≠ -1 → r = 1)) ∧ μ' = μ) := by
  refine gf_mi (by decide +kernel) (Nat.le_of_ble_eq_true rfl) (by decide) (fun X Q hlx C hQ => ?_)
  subst hlx
  replace C : gf_C X E cc_Ro_isThere 1 "GuardFigures$Row" (gf_rm 0 0) := C
  show gf_G X E Q 1 gf_φ μ 0 [(0, .ref (gf_ad E k))] []
  refine gf_aload_n C dd_Ro_isThere_0 0 rfl ?_
  refine gf_getI (z := 1) C gf_cl3 fl_Ro_13 dd_Ro_isThere_1 rfl rfl hk.1 (fun hv1 => ?_)
  refine gf_iconst C dd_Ro_isThere_4 ?_
  refine gf_icmp_eq 12 C dd_Ro_isThere_5 (by decide) (by omega) (by omega) (fun h5 => ?_) (fun h5 => ?_)
  · skip
    refine gf_iconst C dd_Ro_isThere_12 ?_
    refine gf_zret C hQ dd_Ro_isThere_13 (by omega) ?_
    exact ⟨⟨by omega, by omega⟩, rfl⟩
  · skip
    refine gf_iconst C dd_Ro_isThere_8 ?_
    refine gf_goto 13 C dd_Ro_isThere_9 (by decide) ?_
    refine gf_zret C hQ dd_Ro_isThere_13 (by omega) ?_
    exact ⟨⟨by omega, by omega⟩, rfl⟩

theorem dd_Ro_hasPlaces_0 : decode cc_Ro_hasPlaces 0 = .ok (.iload_n 1, 1) := by decide +kernel
theorem dd_Ro_hasPlaces_1 : decode cc_Ro_hasPlaces 1 = .ok (.ifCond .lt 25, 3) := by decide +kernel
theorem dd_Ro_hasPlaces_4 : decode cc_Ro_hasPlaces 4 = .ok (.iload_n 2, 1) := by decide +kernel
theorem dd_Ro_hasPlaces_5 : decode cc_Ro_hasPlaces 5 = .ok (.aload_n 0, 1) := by decide +kernel
theorem dd_Ro_hasPlaces_6 : decode cc_Ro_hasPlaces 6 = .ok (.getfield 13, 3) := by decide +kernel
theorem dd_Ro_hasPlaces_9 : decode cc_Ro_hasPlaces 9 = .ok (.if_icmp .gt 17, 3) := by decide +kernel
theorem dd_Ro_hasPlaces_12 : decode cc_Ro_hasPlaces 12 = .ok (.iload_n 1, 1) := by decide +kernel
theorem dd_Ro_hasPlaces_13 : decode cc_Ro_hasPlaces 13 = .ok (.aload_n 0, 1) := by decide +kernel
theorem dd_Ro_hasPlaces_14 : decode cc_Ro_hasPlaces 14 = .ok (.getfield 13, 3) := by decide +kernel
theorem dd_Ro_hasPlaces_17 : decode cc_Ro_hasPlaces 17 = .ok (.iload_n 2, 1) := by decide +kernel
theorem dd_Ro_hasPlaces_18 : decode cc_Ro_hasPlaces 18 = .ok (.isub, 1) := by decide +kernel
theorem dd_Ro_hasPlaces_19 : decode cc_Ro_hasPlaces 19 = .ok (.if_icmp .gt 7, 3) := by decide +kernel
theorem dd_Ro_hasPlaces_22 : decode cc_Ro_hasPlaces 22 = .ok (.iconst 1, 1) := by decide +kernel
theorem dd_Ro_hasPlaces_23 : decode cc_Ro_hasPlaces 23 = .ok (.goto 4, 3) := by decide +kernel
theorem dd_Ro_hasPlaces_26 : decode cc_Ro_hasPlaces 26 = .ok (.iconst 0, 1) := by decide +kernel
theorem dd_Ro_hasPlaces_27 : decode cc_Ro_hasPlaces 27 = .ok (.ireturn, 1) := by decide +kernel
set_option maxRecDepth 100000 in
set_option maxHeartbeats 4000000 in
theorem ct_Ro_hasPlaces (l : Launch) (E : gf_E) (k : Int) (N : Nat) (μ : gf_M) (hk : gf_oRow k N) (a n : Int) (hs : -1 ≤ μ k 1 ∧ μ k 1 ≤ 60) (ha : gf_R a) (hn : 0 ≤ n ∧ n ≤ 2147483647) : gf_Mi l E yy_Ro_hasPlaces cc_Ro_hasPlaces 3 .boolean (gf_rm 0 0) 81 gf_ref μ [.ref (gf_ad E k), .int (gf_i a), .int (gf_i n)] (fun r μ' => ((0 ≤ a ∧ a + n ≤ μ k 1 → r = 1) ∧ (¬ (0 ≤ a ∧ a + n ≤ μ k 1) → r = 0)) ∧ μ' = μ) := by
  refine gf_mi (by decide +kernel) (Nat.le_of_ble_eq_true rfl) (by decide) (fun X Q hlx C hQ => ?_)
  subst hlx
  replace C : gf_C X E cc_Ro_hasPlaces 3 "GuardFigures$Row" (gf_rm 0 0) := C
  show gf_G X E Q 3 gf_φ μ 0 [(0, .ref (gf_ad E k)), (1, .int (gf_i a)), (2, .int (gf_i n))] []
  refine gf_iload_n C dd_Ro_hasPlaces_0 1 rfl ?_
  refine gf_if_lt 26 C dd_Ro_hasPlaces_1 (by decide) (by omega) (fun h1 => ?_) (fun h1 => ?_)
  · skip
    refine gf_iconst C dd_Ro_hasPlaces_26 ?_
    refine gf_zret C hQ dd_Ro_hasPlaces_27 (by omega) ?_
    exact ⟨⟨by omega, by omega⟩, rfl⟩
  · skip
    refine gf_iload_n C dd_Ro_hasPlaces_4 2 rfl ?_
    refine gf_aload_n C dd_Ro_hasPlaces_5 0 rfl ?_
    refine gf_getI (z := 1) C gf_cl3 fl_Ro_13 dd_Ro_hasPlaces_6 rfl rfl hk.1 (fun hv6 => ?_)
    refine gf_icmp_gt 26 C dd_Ro_hasPlaces_9 (by decide) (by omega) (by omega) (fun h9 => ?_) (fun h9 => ?_)
    · skip
      refine gf_iconst C dd_Ro_hasPlaces_26 ?_
      refine gf_zret C hQ dd_Ro_hasPlaces_27 (by omega) ?_
      exact ⟨⟨by omega, by omega⟩, rfl⟩
    · skip
      refine gf_iload_n C dd_Ro_hasPlaces_12 1 rfl ?_
      refine gf_aload_n C dd_Ro_hasPlaces_13 0 rfl ?_
      refine gf_getI (z := 1) C gf_cl3 fl_Ro_13 dd_Ro_hasPlaces_14 rfl rfl hk.1 (fun hv14 => ?_)
      refine gf_iload_n C dd_Ro_hasPlaces_17 2 rfl ?_
      refine gf_isub C dd_Ro_hasPlaces_18 ?_
      refine gf_icmp_gt 26 C dd_Ro_hasPlaces_19 (by decide) (by omega) (by omega) (fun h19 => ?_) (fun h19 => ?_)
      · skip
        refine gf_iconst C dd_Ro_hasPlaces_26 ?_
        refine gf_zret C hQ dd_Ro_hasPlaces_27 (by omega) ?_
        exact ⟨⟨by omega, by omega⟩, rfl⟩
      · skip
        refine gf_iconst C dd_Ro_hasPlaces_22 ?_
        refine gf_goto 27 C dd_Ro_hasPlaces_23 (by decide) ?_
        refine gf_zret C hQ dd_Ro_hasPlaces_27 (by omega) ?_
        exact ⟨⟨by omega, by omega⟩, rfl⟩

theorem dd_Ro_replace_0 : decode cc_Ro_replace 0 = .ok (.aload_n 0, 1) := by decide +kernel
theorem dd_Ro_replace_1 : decode cc_Ro_replace 1 = .ok (.getfield 7, 3) := by decide +kernel
theorem dd_Ro_replace_4 : decode cc_Ro_replace 4 = .ok (.iload_n 1, 1) := by decide +kernel
theorem dd_Ro_replace_5 : decode cc_Ro_replace 5 = .ok (.iaload, 1) := by decide +kernel
theorem dd_Ro_replace_6 : decode cc_Ro_replace 6 = .ok (.istore_n 3, 1) := by decide +kernel
theorem dd_Ro_replace_7 : decode cc_Ro_replace 7 = .ok (.aload_n 0, 1) := by decide +kernel
theorem dd_Ro_replace_8 : decode cc_Ro_replace 8 = .ok (.getfield 7, 3) := by decide +kernel
theorem dd_Ro_replace_11 : decode cc_Ro_replace 11 = .ok (.iload_n 1, 1) := by decide +kernel
theorem dd_Ro_replace_12 : decode cc_Ro_replace 12 = .ok (.iload_n 2, 1) := by decide +kernel
theorem dd_Ro_replace_13 : decode cc_Ro_replace 13 = .ok (.iastore, 1) := by decide +kernel
theorem dd_Ro_replace_14 : decode cc_Ro_replace 14 = .ok (.iload_n 3, 1) := by decide +kernel
theorem dd_Ro_replace_15 : decode cc_Ro_replace 15 = .ok (.ireturn, 1) := by decide +kernel
set_option maxRecDepth 100000 in
set_option maxHeartbeats 4000000 in
theorem ct_Ro_replace (l : Launch) (E : gf_E) (k : Int) (N : Nat) (μ : gf_M) (hk : gf_oRow k N) (i v : Int) (hi : 0 ≤ i ∧ i < (N : Int)) (hv : gf_R v) : gf_Mi l E yy_Ro_replace cc_Ro_replace 4 .int (gf_rm 0 0) 81 gf_ref μ [.ref (gf_ad E k), .int (gf_i i), .int (gf_i v)] (fun r μ' => r = μ (k + 1) i ∧ μ' = gf_up μ (k + 1) i v) := by
  refine gf_mi (by decide +kernel) (Nat.le_of_ble_eq_true rfl) (by decide) (fun X Q hlx C hQ => ?_)
  subst hlx
  replace C : gf_C X E cc_Ro_replace 4 "GuardFigures$Row" (gf_rm 0 0) := C
  show gf_G X E Q 4 gf_φ μ 0 [(0, .ref (gf_ad E k)), (1, .int (gf_i i)), (2, .int (gf_i v))] []
  refine gf_aload_n C dd_Ro_replace_0 0 rfl ?_
  refine gf_getA (r := (k + 1)) C gf_cl3 fl_Ro_7 dd_Ro_replace_1 rfl hk.1 hk.2.1 (hk.2.2).1 ?_
  refine gf_iload_n C dd_Ro_replace_4 1 rfl ?_
  refine gf_iald C dd_Ro_replace_5 hk.2.2 (by omega) (fun hv5 => ?_)
  refine gf_nm (fun x6 hx6 => ?_)
  refine gf_istore_n (lv' := [(3, .int (gf_i x6)), (0, .ref (gf_ad E k)), (1, .int (gf_i i)), (2, .int (gf_i v))]) C dd_Ro_replace_6 (by decide) rfl ?_
  refine gf_aload_n C dd_Ro_replace_7 1 rfl ?_
  refine gf_getA (r := (k + 1)) C gf_cl3 fl_Ro_7 dd_Ro_replace_8 rfl hk.1 hk.2.1 (hk.2.2).1 ?_
  refine gf_iload_n C dd_Ro_replace_11 2 rfl ?_
  refine gf_iload_n C dd_Ro_replace_12 3 rfl ?_
  refine gf_iast C dd_Ro_replace_13 hk.2.2 (by omega) (by omega) ?_
  refine gf_nmM (fun m13 hm13 => ?_)
  refine gf_iload_n C dd_Ro_replace_14 0 rfl ?_
  refine gf_iret C hQ dd_Ro_replace_15 (by omega) ?_
  exact ⟨hx6, hm13⟩

theorem dd_Ro_renew_0 : decode cc_Ro_renew 0 = .ok (.aload_n 0, 1) := by decide +kernel
theorem dd_Ro_renew_1 : decode cc_Ro_renew 1 = .ok (.iload_n 1, 1) := by decide +kernel
theorem dd_Ro_renew_2 : decode cc_Ro_renew 2 = .ok (.aload_n 0, 1) := by decide +kernel
theorem dd_Ro_renew_3 : decode cc_Ro_renew 3 = .ok (.getfield 7, 3) := by decide +kernel
theorem dd_Ro_renew_6 : decode cc_Ro_renew 6 = .ok (.arraylength, 1) := by decide +kernel
theorem dd_Ro_renew_7 : decode cc_Ro_renew 7 = .ok (.invokestatic 17, 3) := by decide +kernel
theorem dd_Ro_renew_10 : decode cc_Ro_renew 10 = .ok (.putfield 13, 3) := by decide +kernel
theorem dd_Ro_renew_13 : decode cc_Ro_renew 13 = .ok (.iconst 0, 1) := by decide +kernel
theorem dd_Ro_renew_14 : decode cc_Ro_renew 14 = .ok (.istore_n 3, 1) := by decide +kernel
theorem dd_Ro_renew_15 : decode cc_Ro_renew 15 = .ok (.iload_n 3, 1) := by decide +kernel
theorem dd_Ro_renew_16 : decode cc_Ro_renew 16 = .ok (.aload_n 0, 1) := by decide +kernel
theorem dd_Ro_renew_17 : decode cc_Ro_renew 17 = .ok (.getfield 13, 3) := by decide +kernel
theorem dd_Ro_renew_20 : decode cc_Ro_renew 20 = .ok (.if_icmp .ge 16, 3) := by decide +kernel
theorem dd_Ro_renew_23 : decode cc_Ro_renew 23 = .ok (.aload_n 0, 1) := by decide +kernel
theorem dd_Ro_renew_24 : decode cc_Ro_renew 24 = .ok (.getfield 7, 3) := by decide +kernel
theorem dd_Ro_renew_27 : decode cc_Ro_renew 27 = .ok (.iload_n 3, 1) := by decide +kernel
theorem dd_Ro_renew_28 : decode cc_Ro_renew 28 = .ok (.iload_n 2, 1) := by decide +kernel
theorem dd_Ro_renew_29 : decode cc_Ro_renew 29 = .ok (.iastore, 1) := by decide +kernel
theorem dd_Ro_renew_30 : decode cc_Ro_renew 30 = .ok (.iinc 3 1, 3) := by decide +kernel
theorem dd_Ro_renew_33 : decode cc_Ro_renew 33 = .ok (.goto (-18), 3) := by decide +kernel
theorem dd_Ro_renew_36 : decode cc_Ro_renew 36 = .ok (.return_, 1) := by decide +kernel
set_option maxRecDepth 100000 in
set_option maxHeartbeats 4000000 in
theorem ct_Ro_renew (l : Launch) (E : gf_E) (k : Int) (N : Nat) (μ : gf_M) (hk : gf_oRow k N) (n v : Int) (hn : 0 ≤ n ∧ n ≤ (N : Int)) (hv : gf_R v) (hN : N ≤ 60) : gf_Mv l E yy_Ro_renew cc_Ro_renew 4 (gf_rm 1 30) 81 gf_ref 0 0 81 gf_ref μ [.ref (gf_ad E k), .int (gf_i n), .int (gf_i v)] (fun μ' => μ' k 1 = n ∧ (∀ j : Int, 0 ≤ j → j < n → μ' (k + 1) j = v) ∧ ∀ a b : Int, ¬ (a = k ∧ b = 1) → ¬ (a = k + 1 ∧ 0 ≤ b ∧ b < n) → μ' a b = μ a b) := by
  refine gf_mv (by decide +kernel) (Nat.le_of_ble_eq_true rfl) (by decide) (fun X Q hlx C hname hQ => ?_)
  subst hlx
  replace C : gf_C X E cc_Ro_renew 4 "GuardFigures$Row" (gf_rm 1 30) := C
  show gf_G X E Q 4 gf_φ μ 0 [(0, .ref (gf_ad E k)), (1, .int (gf_i n)), (2, .int (gf_i v))] []
  refine gf_aload_n C dd_Ro_renew_0 0 rfl ?_
  refine gf_iload_n C dd_Ro_renew_1 1 rfl ?_
  refine gf_aload_n C dd_Ro_renew_2 0 rfl ?_
  refine gf_getA (r := (k + 1)) C gf_cl3 fl_Ro_7 dd_Ro_renew_3 rfl hk.1 hk.2.1 (hk.2.2).1 ?_
  refine gf_alen 1 C dd_Ro_renew_6 hk.2.2 (by decide) ?_
  refine gf_mmin C (gf_mem 294 (by decide +kernel) (by decide +kernel)) dd_Ro_renew_7 (by omega) ⟨by decide, Nat.le_of_ble_eq_true rfl, rfl, rfl⟩ ?_
  refine gf_putI (z := 1) C gf_cl3 fl_Ro_13 dd_Ro_renew_10 rfl rfl rfl (by decide +kernel) hk.1 (by unfold gf_min; split <;> omega) ?_
  refine gf_nmM (fun m10 hm10 => ?_)
  have hmin : gf_min n N = n := by unfold gf_min; split <;> omega
  rw [hmin] at hm10
  refine gf_iconst C dd_Ro_renew_13 ?_
  refine gf_istore_n (lv' := [(3, .int (gf_i 0)), (0, .ref (gf_ad E k)), (1, .int (gf_i n)), (2, .int (gf_i v))]) C dd_Ro_renew_14 (by decide) rfl ?_
  have L15_1 : ∀ (N : Nat) (i : Int) (m : gf_M) , (0 ≤ i ∧ i ≤ n ∧ m k 1 = n ∧ (∀ j : Int, 0 ≤ j → j < i → m (k + 1) j = v) ∧ ∀ a b : Int, ¬ (a = k ∧ b = 1) → ¬ (a = k + 1 ∧ 0 ≤ b ∧ b < n) → m a b = μ a b) → (n - i).toNat < N → gf_G X E Q 4 gf_φ m 15 [(3, .int (gf_i i)), (0, .ref (gf_ad E k)), (1, .int (gf_i n)), (2, .int (gf_i v))] [] := by
    intro N
    induction N with
    | zero => intro i m hinv hN; exact absurd hN (Nat.not_lt_zero _)
    | succ N ih15_1 =>
      intro i m hinv hN
      have hinv0 := hinv
      obtain ⟨hi0, hi1, hi2, hi3, hi4⟩ := hinv
      refine gf_iload_n C dd_Ro_renew_15 0 rfl ?_
      refine gf_aload_n C dd_Ro_renew_16 1 rfl ?_
      refine gf_getI (z := 1) C gf_cl3 fl_Ro_13 dd_Ro_renew_17 rfl rfl hk.1 (fun hv17 => ?_)
      refine gf_icmp_ge 36 C dd_Ro_renew_20 (by decide) (by omega) (by omega) (fun h20 => ?_) (fun h20 => ?_)
      · skip
        refine gf_vret C hQ dd_Ro_renew_36 ?_
        exact ⟨hi2, fun j h0 h1 => hi3 j h0 (by omega), hi4⟩
      · skip
        refine gf_aload_n C dd_Ro_renew_23 1 rfl ?_
        refine gf_getA (r := (k + 1)) C gf_cl3 fl_Ro_7 dd_Ro_renew_24 rfl hk.1 hk.2.1 (hk.2.2).1 ?_
        refine gf_iload_n C dd_Ro_renew_27 0 rfl ?_
        refine gf_iload_n C dd_Ro_renew_28 3 rfl ?_
        refine gf_iast C dd_Ro_renew_29 hk.2.2 (by omega) (by omega) ?_
        refine gf_nmM (fun m29 hm29 => ?_)
        obtain ⟨x30, hx30⟩ : ∃ y : Int, y = i + 1 := ⟨_, rfl⟩
        refine gf_iinc (q := 0) (v := x30) (lv' := [(3, .int (gf_i x30)), (0, .ref (gf_ad E k)), (1, .int (gf_i n)), (2, .int (gf_i v))]) C dd_Ro_renew_30 rfl hx30 (by decide) rfl ?_
        refine gf_goto 15 C dd_Ro_renew_33 (by decide) ?_
        refine gf_lsub [0, 1, 2, 3] rfl ?_
        exact ih15_1 x30 m29 (by
                refine ⟨by omega, by omega, by rw [hm29, gf_up_k (by omega)]; exact hi2, fun j h0 h1 => ?_, fun a b h1 h2 => ?_⟩
                · rw [hm29]
                  by_cases hj : j = i
                  · rw [hj]; exact gf_up_s
                  · rw [gf_up_j hj]; exact hi3 j h0 (by omega)
                · rw [hm29, ← hi4 a b h1 h2]
                  by_cases ha : a = k + 1
                  · exact gf_up_j (by omega)
                  · exact gf_up_k ha) (by omega)
  refine gf_lsub [0, 1, 2, 3] rfl ?_
  exact L15_1 _ 0 m10 (by
      refine ⟨by omega, by omega, by rw [hm10]; exact gf_up_s, fun j h0 h1 => by omega, fun a b h1 h2 => ?_⟩
      rw [hm10]
      by_cases ha : a = k
      · exact gf_up_j (fun hb => h1 ⟨ha, hb⟩)
      · exact gf_up_k ha) (Nat.lt_succ_self _)

theorem dd_Ro_sum_0 : decode cc_Ro_sum 0 = .ok (.lconst 0, 1) := by decide +kernel
theorem dd_Ro_sum_1 : decode cc_Ro_sum 1 = .ok (.lstore_n 1, 1) := by decide +kernel
theorem dd_Ro_sum_2 : decode cc_Ro_sum 2 = .ok (.iconst 0, 1) := by decide +kernel
theorem dd_Ro_sum_3 : decode cc_Ro_sum 3 = .ok (.istore_n 3, 1) := by decide +kernel
theorem dd_Ro_sum_4 : decode cc_Ro_sum 4 = .ok (.iload_n 3, 1) := by decide +kernel
theorem dd_Ro_sum_5 : decode cc_Ro_sum 5 = .ok (.aload_n 0, 1) := by decide +kernel
theorem dd_Ro_sum_6 : decode cc_Ro_sum 6 = .ok (.getfield 13, 3) := by decide +kernel
theorem dd_Ro_sum_9 : decode cc_Ro_sum 9 = .ok (.if_icmp .ge 19, 3) := by decide +kernel
theorem dd_Ro_sum_12 : decode cc_Ro_sum 12 = .ok (.lload_n 1, 1) := by decide +kernel
theorem dd_Ro_sum_13 : decode cc_Ro_sum 13 = .ok (.aload_n 0, 1) := by decide +kernel
theorem dd_Ro_sum_14 : decode cc_Ro_sum 14 = .ok (.getfield 7, 3) := by decide +kernel
theorem dd_Ro_sum_17 : decode cc_Ro_sum 17 = .ok (.iload_n 3, 1) := by decide +kernel
theorem dd_Ro_sum_18 : decode cc_Ro_sum 18 = .ok (.iaload, 1) := by decide +kernel
theorem dd_Ro_sum_19 : decode cc_Ro_sum 19 = .ok (.i2l, 1) := by decide +kernel
theorem dd_Ro_sum_20 : decode cc_Ro_sum 20 = .ok (.ladd, 1) := by decide +kernel
theorem dd_Ro_sum_21 : decode cc_Ro_sum 21 = .ok (.lstore_n 1, 1) := by decide +kernel
theorem dd_Ro_sum_22 : decode cc_Ro_sum 22 = .ok (.iinc 3 1, 3) := by decide +kernel
theorem dd_Ro_sum_25 : decode cc_Ro_sum 25 = .ok (.goto (-21), 3) := by decide +kernel
theorem dd_Ro_sum_28 : decode cc_Ro_sum 28 = .ok (.lload_n 1, 1) := by decide +kernel
theorem dd_Ro_sum_29 : decode cc_Ro_sum 29 = .ok (.lreturn, 1) := by decide +kernel
set_option maxRecDepth 100000 in
set_option maxHeartbeats 4000000 in
theorem ct_Ro_sum (l : Launch) (E : gf_E) (k : Int) (N : Nat) (μ : gf_M) (hk : gf_oRow k N) (hs : -1 ≤ μ k 1 ∧ μ k 1 ≤ (N : Int)) (hN : N ≤ 60) : gf_Ml l E yy_Ro_sum cc_Ro_sum 4 (gf_rm 0 0) 81 gf_ref μ [.ref (gf_ad E k)] (fun r μ' => (r = pf_sum (μ (k + 1)) (μ k 1).toNat ∧ -200000000000 ≤ r ∧ r ≤ 200000000000) ∧ μ' = μ) := by
  refine gf_ml (by decide +kernel) (Nat.le_of_ble_eq_true rfl) (by decide) (fun X Q hlx C hQ => ?_)
  subst hlx
  replace C : gf_C X E cc_Ro_sum 4 "GuardFigures$Row" (gf_rm 0 0) := C
  show gf_G X E Q 4 gf_φ μ 0 [(0, .ref (gf_ad E k))] []
  refine gf_lconst 0 C dd_Ro_sum_0 (by decide +kernel) ?_
  refine gf_lstore_n (lv' := [(1, .long (gf_l 0)), (0, .ref (gf_ad E k))]) C dd_Ro_sum_1 (by decide) rfl ?_
  refine gf_iconst C dd_Ro_sum_2 ?_
  refine gf_istore_n (lv' := [(3, .int (gf_i 0)), (1, .long (gf_l 0)), (0, .ref (gf_ad E k))]) C dd_Ro_sum_3 (by decide) rfl ?_
  have L4_1 : ∀ (N : Nat) (s i : Int) , (0 ≤ i ∧ (i = 0 ∨ i ≤ μ k 1) ∧ s = pf_sum (μ (k + 1)) i.toNat ∧ -2147483648 * i ≤ s ∧ s ≤ 2147483648 * i) → (61 - i).toNat < N → gf_G X E Q 4 gf_φ μ 4 [(1, .long (gf_l s)), (3, .int (gf_i i)), (0, .ref (gf_ad E k))] [] := by
    intro N
    induction N with
    | zero => intro s i hinv hN; exact absurd hN (Nat.not_lt_zero _)
    | succ N ih4_1 =>
      intro s i hinv hN
      have hinv0 := hinv
      obtain ⟨hi0, hi1, hi2, hi3, hi4⟩ := hinv
      refine gf_iload_n C dd_Ro_sum_4 1 rfl ?_
      refine gf_aload_n C dd_Ro_sum_5 2 rfl ?_
      refine gf_getI (z := 1) C gf_cl3 fl_Ro_13 dd_Ro_sum_6 rfl rfl hk.1 (fun hv6 => ?_)
      refine gf_icmp_ge 28 C dd_Ro_sum_9 (by decide) (by omega) (by omega) (fun h9 => ?_) (fun h9 => ?_)
      · skip
        refine gf_lload_n C dd_Ro_sum_28 0 rfl ?_
        refine gf_lret C hQ dd_Ro_sum_29 (by omega) ?_
        refine ⟨⟨?_, by omega, by omega⟩, rfl⟩
        rw [hi2]
        congr 1
        omega
      · skip
        refine gf_lload_n C dd_Ro_sum_12 0 rfl ?_
        refine gf_aload_n C dd_Ro_sum_13 2 rfl ?_
        refine gf_getA (r := (k + 1)) C gf_cl3 fl_Ro_7 dd_Ro_sum_14 rfl hk.1 hk.2.1 (hk.2.2).1 ?_
        refine gf_iload_n C dd_Ro_sum_17 1 rfl ?_
        refine gf_iald C dd_Ro_sum_18 hk.2.2 (by omega) (fun hv18 => ?_)
        refine gf_gi2l C dd_Ro_sum_19 (by omega) ?_
        refine gf_ladd C dd_Ro_sum_20 ?_
        refine gf_nml (fun x21 hx21 => ?_)
        refine gf_lstore_n (lv' := [(1, .long (gf_l x21)), (3, .int (gf_i i)), (0, .ref (gf_ad E k))]) C dd_Ro_sum_21 (by decide) rfl ?_
        obtain ⟨x22, hx22⟩ : ∃ y : Int, y = i + 1 := ⟨_, rfl⟩
        refine gf_iinc (q := 1) (v := x22) (lv' := [(3, .int (gf_i x22)), (1, .long (gf_l x21)), (0, .ref (gf_ad E k))]) C dd_Ro_sum_22 rfl hx22 (by decide) rfl ?_
        refine gf_goto 4 C dd_Ro_sum_25 (by decide) ?_
        refine gf_lsub [1, 0, 2] rfl ?_
        exact ih4_1 x21 x22 (by
                refine ⟨by omega, by omega, ?_, by omega, by omega⟩
                rw [hx21, hx22, hi2, show (i + 1).toNat = i.toNat + 1 by omega]
                show _ = _ + μ (k + 1) ((i.toNat : Nat) : Int)
                rw [show ((i.toNat : Nat) : Int) = i by omega]) (by omega)
  refine gf_lsub [1, 0, 2] rfl ?_
  exact L4_1 _ 0 0 (⟨by omega, by omega, rfl, by omega, by omega⟩) (Nat.lt_succ_self _)

theorem dd_Ro_digestOn_0 : decode cc_Ro_digestOn 0 = .ok (.ldc2_w 23, 3) := by decide +kernel
theorem dd_Ro_digestOn_3 : decode cc_Ro_digestOn 3 = .ok (.lload_n 1, 1) := by decide +kernel
theorem dd_Ro_digestOn_4 : decode cc_Ro_digestOn 4 = .ok (.lmul, 1) := by decide +kernel
theorem dd_Ro_digestOn_5 : decode cc_Ro_digestOn 5 = .ok (.aload_n 0, 1) := by decide +kernel
theorem dd_Ro_digestOn_6 : decode cc_Ro_digestOn 6 = .ok (.getfield 13, 3) := by decide +kernel
theorem dd_Ro_digestOn_9 : decode cc_Ro_digestOn 9 = .ok (.i2l, 1) := by decide +kernel
theorem dd_Ro_digestOn_10 : decode cc_Ro_digestOn 10 = .ok (.ladd, 1) := by decide +kernel
theorem dd_Ro_digestOn_11 : decode cc_Ro_digestOn 11 = .ok (.lstore_n 3, 1) := by decide +kernel
theorem dd_Ro_digestOn_12 : decode cc_Ro_digestOn 12 = .ok (.iconst 0, 1) := by decide +kernel
theorem dd_Ro_digestOn_13 : decode cc_Ro_digestOn 13 = .ok (.istore 5, 2) := by decide +kernel
theorem dd_Ro_digestOn_15 : decode cc_Ro_digestOn 15 = .ok (.iload 5, 2) := by decide +kernel
theorem dd_Ro_digestOn_17 : decode cc_Ro_digestOn 17 = .ok (.aload_n 0, 1) := by decide +kernel
theorem dd_Ro_digestOn_18 : decode cc_Ro_digestOn 18 = .ok (.getfield 13, 3) := by decide +kernel
theorem dd_Ro_digestOn_21 : decode cc_Ro_digestOn 21 = .ok (.if_icmp .ge 24, 3) := by decide +kernel
theorem dd_Ro_digestOn_24 : decode cc_Ro_digestOn 24 = .ok (.ldc2_w 23, 3) := by decide +kernel
theorem dd_Ro_digestOn_27 : decode cc_Ro_digestOn 27 = .ok (.lload_n 3, 1) := by decide +kernel
theorem dd_Ro_digestOn_28 : decode cc_Ro_digestOn 28 = .ok (.lmul, 1) := by decide +kernel
theorem dd_Ro_digestOn_29 : decode cc_Ro_digestOn 29 = .ok (.aload_n 0, 1) := by decide +kernel
theorem dd_Ro_digestOn_30 : decode cc_Ro_digestOn 30 = .ok (.getfield 7, 3) := by decide +kernel
theorem dd_Ro_digestOn_33 : decode cc_Ro_digestOn 33 = .ok (.iload 5, 2) := by decide +kernel
theorem dd_Ro_digestOn_35 : decode cc_Ro_digestOn 35 = .ok (.iaload, 1) := by decide +kernel
theorem dd_Ro_digestOn_36 : decode cc_Ro_digestOn 36 = .ok (.i2l, 1) := by decide +kernel
theorem dd_Ro_digestOn_37 : decode cc_Ro_digestOn 37 = .ok (.ladd, 1) := by decide +kernel
theorem dd_Ro_digestOn_38 : decode cc_Ro_digestOn 38 = .ok (.lstore_n 3, 1) := by decide +kernel
theorem dd_Ro_digestOn_39 : decode cc_Ro_digestOn 39 = .ok (.iinc 5 1, 3) := by decide +kernel
theorem dd_Ro_digestOn_42 : decode cc_Ro_digestOn 42 = .ok (.goto (-27), 3) := by decide +kernel
theorem dd_Ro_digestOn_45 : decode cc_Ro_digestOn 45 = .ok (.lload_n 3, 1) := by decide +kernel
theorem dd_Ro_digestOn_46 : decode cc_Ro_digestOn 46 = .ok (.lreturn, 1) := by decide +kernel
set_option maxRecDepth 100000 in
set_option maxHeartbeats 4000000 in
theorem ct_Ro_digestOn (l : Launch) (E : gf_E) (k : Int) (N : Nat) (μ : gf_M) (hk : gf_oRow k N) (h : Int) (hs : -1 ≤ μ k 1 ∧ μ k 1 ≤ (N : Int)) (hN : N ≤ 60) : gf_Ml l E yy_Ro_digestOn cc_Ro_digestOn 6 (gf_rm 0 0) 81 gf_ref μ [.ref (gf_ad E k), .long (gf_l h)] (fun r μ' => gf_l r = gf_l (pf_dig (31 * h + μ k 1) (μ (k + 1)) (μ k 1).toNat) ∧ μ' = μ) := by
  refine gf_ml (by decide +kernel) (Nat.le_of_ble_eq_true rfl) (by decide) (fun X Q hlx C hQ => ?_)
  subst hlx
  replace C : gf_C X E cc_Ro_digestOn 6 "GuardFigures$Row" (gf_rm 0 0) := C
  show gf_G X E Q 6 gf_φ μ 0 [(0, .ref (gf_ad E k)), (1, .long (gf_l h))] []
  refine gf_ldc2 31 C dd_Ro_digestOn_0 ck_Ro_23 (by decide +kernel) ?_
  refine gf_lload_n C dd_Ro_digestOn_3 1 rfl ?_
  refine gf_lmul C dd_Ro_digestOn_4 ?_
  refine gf_aload_n C dd_Ro_digestOn_5 0 rfl ?_
  refine gf_getI (z := 1) C gf_cl3 fl_Ro_13 dd_Ro_digestOn_6 rfl rfl hk.1 (fun hv6 => ?_)
  refine gf_gi2l C dd_Ro_digestOn_9 (by omega) ?_
  refine gf_ladd C dd_Ro_digestOn_10 ?_
  refine gf_nml (fun x11 hx11 => ?_)
  refine gf_lstore_n (lv' := [(3, .long (gf_l x11)), (0, .ref (gf_ad E k)), (1, .long (gf_l h))]) C dd_Ro_digestOn_11 (by decide) rfl ?_
  refine gf_iconst C dd_Ro_digestOn_12 ?_
  refine gf_istore (lv' := [(5, .int (gf_i 0)), (3, .long (gf_l x11)), (0, .ref (gf_ad E k)), (1, .long (gf_l h))]) C dd_Ro_digestOn_13 (by decide) rfl ?_
  have L15_1 : ∀ (N : Nat) (s i : Int) , (0 ≤ i ∧ (i = 0 ∨ i ≤ μ k 1) ∧ s = pf_dig (31 * h + μ k 1) (μ (k + 1)) i.toNat) → (61 - i).toNat < N → gf_G X E Q 6 gf_φ μ 15 [(3, .long (gf_l s)), (5, .int (gf_i i)), (0, .ref (gf_ad E k)), (1, .long (gf_l h))] [] := by
    intro N
    induction N with
    | zero => intro s i hinv hN; exact absurd hN (Nat.not_lt_zero _)
    | succ N ih15_1 =>
      intro s i hinv hN
      have hinv0 := hinv
      obtain ⟨hi0, hi1, hi2⟩ := hinv
      refine gf_iload C dd_Ro_digestOn_15 1 rfl ?_
      refine gf_aload_n C dd_Ro_digestOn_17 2 rfl ?_
      refine gf_getI (z := 1) C gf_cl3 fl_Ro_13 dd_Ro_digestOn_18 rfl rfl hk.1 (fun hv18 => ?_)
      refine gf_icmp_ge 45 C dd_Ro_digestOn_21 (by decide) (by omega) (by omega) (fun h21 => ?_) (fun h21 => ?_)
      · skip
        refine gf_lload_n C dd_Ro_digestOn_45 0 rfl ?_
        refine gf_lretw C hQ dd_Ro_digestOn_46 ?_
        refine ⟨?_, rfl⟩
        rw [gf_wl_l, hi2]
        congr 2
        omega
      · skip
        refine gf_ldc2 31 C dd_Ro_digestOn_24 ck_Ro_23 (by decide +kernel) ?_
        refine gf_lload_n C dd_Ro_digestOn_27 0 rfl ?_
        refine gf_lmul C dd_Ro_digestOn_28 ?_
        refine gf_aload_n C dd_Ro_digestOn_29 2 rfl ?_
        refine gf_getA (r := (k + 1)) C gf_cl3 fl_Ro_7 dd_Ro_digestOn_30 rfl hk.1 hk.2.1 (hk.2.2).1 ?_
        refine gf_iload C dd_Ro_digestOn_33 1 rfl ?_
        refine gf_iald C dd_Ro_digestOn_35 hk.2.2 (by omega) (fun hv35 => ?_)
        refine gf_gi2l C dd_Ro_digestOn_36 (by omega) ?_
        refine gf_ladd C dd_Ro_digestOn_37 ?_
        refine gf_nml (fun x38 hx38 => ?_)
        refine gf_lstore_n (lv' := [(3, .long (gf_l x38)), (5, .int (gf_i i)), (0, .ref (gf_ad E k)), (1, .long (gf_l h))]) C dd_Ro_digestOn_38 (by decide) rfl ?_
        obtain ⟨x39, hx39⟩ : ∃ y : Int, y = i + 1 := ⟨_, rfl⟩
        refine gf_iinc (q := 1) (v := x39) (lv' := [(5, .int (gf_i x39)), (3, .long (gf_l x38)), (0, .ref (gf_ad E k)), (1, .long (gf_l h))]) C dd_Ro_digestOn_39 rfl hx39 (by decide) rfl ?_
        refine gf_goto 15 C dd_Ro_digestOn_42 (by decide) ?_
        refine gf_lsub [1, 0, 2, 3] rfl ?_
        exact ih15_1 x38 x39 (by
                refine ⟨by omega, by omega, ?_⟩
                rw [hx38, hx39, hi2, show (i + 1).toNat = i.toNat + 1 by omega]
                show _ = 31 * _ + μ (k + 1) ((i.toNat : Nat) : Int)
                rw [show ((i.toNat : Nat) : Int) = i by omega]) (by omega)
  refine gf_lsub [1, 0, 2, 3] rfl ?_
  exact L15_1 _ x11 0 (⟨by omega, by omega, hx11⟩) (Nat.lt_succ_self _)
