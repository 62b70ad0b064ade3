/-! GuardFigures: what its calls share -/
/-- a finding is answered; a number is told -/
def gf_fd (μ : gf_M) (f : Int) : gf_M := gf_up (gf_up μ 0 15 f) 64 f (gf_w (μ 64 f + 1))
def gf_tl (μ : gf_M) (v : Int) : gf_M := gf_up μ 0 12 v
def pf_num (f : Int → Int) : Nat → Int
  | 0 => 0
  | n + 1 => pf_num f n * 10 + f n
theorem pf_num_R {f : Int → Int} : ∀ n : Nat, (∀ j : Int, 0 ≤ j → j < n → 0 ≤ f j ∧ f j ≤ 9) → 0 ≤ pf_num f n ∧ pf_num f n < 10 ^ n
  | 0, _ => by simp [pf_num]
  | n + 1, h => by
    have ih := pf_num_R n (fun j h0 h1 => h j h0 (by omega))
    have := h n (by omega) (by omega)
    unfold pf_num
    rw [Int.pow_succ]
    omega
theorem pf_num_congr {f g : Int → Int} : ∀ n : Nat, (∀ j : Int, 0 ≤ j → j < n → f j = g j) → pf_num f n = pf_num g n
  | 0, _ => rfl
  | n + 1, h => by unfold pf_num; rw [pf_num_congr n (fun j h0 h1 => h j h0 (by omega)), h n (by omega) (by omega)]
/-- how many of the first n hold -/
def pf_cnt (p : Int → Bool) : Nat → Int
  | 0 => 0
  | n + 1 => pf_cnt p n + (if p n = true then 1 else 0)
theorem pf_cnt_R (p : Int → Bool) : ∀ n : Nat, 0 ≤ pf_cnt p n ∧ pf_cnt p n ≤ n
  | 0 => by simp [pf_cnt]
  | n + 1 => by
    have := pf_cnt_R p n
    unfold pf_cnt
    split <;> omega
theorem pf_cnt_congr {p q : Int → Bool} : ∀ n : Nat, (∀ j : Int, 0 ≤ j → j < n → p j = q j) → pf_cnt p n = pf_cnt q n
  | 0, _ => rfl
  | n + 1, h => by unfold pf_cnt; rw [pf_cnt_congr n (fun j h0 h1 => h j h0 (by omega)), h n (by omega) (by omega)]
/-- the set of the first n that hold, by bits -/
def pf_set (p : Int → Bool) : Nat → Int
  | 0 => 0
  | n + 1 => if p n = true then gf_or (pf_set p n) (gf_shl 1 n) else pf_set p n
theorem pf_set_nb (p : Int → Bool) : ∀ n : Nat, pf_set p n = ((pf_nb (fun i => p i) 0 n : Nat) : Int)
  | 0 => rfl
  | n + 1 => by
    unfold pf_set pf_nb
    rw [pf_set_nb p n, Nat.zero_add]
    by_cases h : p n = true
    · rw [if_pos h, if_pos h]
      unfold gf_or gf_shl
      rw [Int.toNat_natCast, Int.one_mul, Int.toNat_natCast]
      have e2 : ((2 : Int) ^ n).toNat = 2 ^ n := by
        have : ((2 : Int) ^ n) = ((2 ^ n : Nat) : Int) := by simp
        rw [this, Int.toNat_natCast]
      rw [e2]
    · rw [if_neg h, if_neg h]
theorem pf_set_R (p : Int → Bool) (n : Nat) : 0 ≤ pf_set p n ∧ pf_set p n < 2 ^ n := by
  rw [pf_set_nb]
  have := pf_nb_lt (fun i => p i) 0 n
  rw [Nat.zero_add] at this
  constructor
  · omega
  · exact_mod_cast this
theorem pf_set_congr {p q : Int → Bool} : ∀ n : Nat, (∀ j : Int, 0 ≤ j → j < n → p j = q j) → pf_set p n = pf_set q n
  | 0, _ => rfl
  | n + 1, h => by unfold pf_set; rw [pf_set_congr n (fun j h0 h1 => h j h0 (by omega)), h n (by omega) (by omega)]
theorem pf_2_10 {n : Nat} (h : n ≤ 10) : (2 : Int) ^ n ≤ 1024 := by
  have : n = 0 ∨ n = 1 ∨ n = 2 ∨ n = 3 ∨ n = 4 ∨ n = 5 ∨ n = 6 ∨ n = 7 ∨ n = 8 ∨ n = 9 ∨ n = 10 := by omega
  rcases this with rfl | rfl | rfl | rfl | rfl | rfl | rfl | rfl | rfl | rfl | rfl <;> decide
theorem pf_gcd_step {x y : Int} (hx : 0 ≤ x) (hy : 0 < y) : Int.gcd y (x % y) = Int.gcd x y := by
  obtain ⟨a, rfl⟩ : ∃ a : Nat, x = a := ⟨x.toNat, by omega⟩
  obtain ⟨b, rfl⟩ : ∃ b : Nat, y = b := ⟨y.toNat, by omega⟩
  rw [← Int.natCast_emod, Int.gcd_natCast_natCast, Int.gcd_natCast_natCast, Nat.gcd_comm b (a % b), ← Nat.gcd_rec, Nat.gcd_comm]
theorem pf_emod_le {x y : Int} (hx : 0 ≤ x) (hy : 0 < y) : x % y ≤ x := by
  have h3 := Int.emod_add_mul_ediv x y
  have h4 : 0 ≤ y * (x / y) := Int.mul_nonneg (by omega) (Int.ediv_nonneg hx (by omega))
  omega
theorem pf_euc {a b : Int} (hb : 0 < b) (h : b ≤ a) : 2 * (b * (a % b)) ≤ a * b := by
  have h1 : a % b < b := Int.emod_lt_of_pos a hb
  have h2 : 0 ≤ a % b := Int.emod_nonneg a (by omega)
  have h4 : 1 ≤ a / b := by
    have := Int.ediv_le_ediv hb h
    rw [Int.ediv_self (by omega)] at this
    exact this
  have h5 : b * 1 ≤ b * (a / b) := Int.mul_le_mul_of_nonneg_left h4 (by omega)
  have h3 := Int.emod_add_mul_ediv a b
  have h6 : 2 * (a % b) ≤ a := by omega
  have h7 : b * (2 * (a % b)) ≤ b * a := Int.mul_le_mul_of_nonneg_left h6 (by omega)
  have e1 : b * (2 * (a % b)) = 2 * (b * (a % b)) := Int.mul_left_comm b 2 (a % b)
  rw [e1, Int.mul_comm b a] at h7
  exact h7
theorem dd_Fi_isCheck_0 : decode cc_Fi_isCheck 0 = .ok (.iload_n 0, 1) := by decide +kernel
theorem dd_Fi_isCheck_1 : decode cc_Fi_isCheck 1 = .ok (.ifCond .lt 13, 3) := by decide +kernel
theorem dd_Fi_isCheck_4 : decode cc_Fi_isCheck 4 = .ok (.iload_n 0, 1) := by decide +kernel
theorem dd_Fi_isCheck_5 : decode cc_Fi_isCheck 5 = .ok (.bipush 10, 2) := by decide +kernel
theorem dd_Fi_isCheck_7 : decode cc_Fi_isCheck 7 = .ok (.if_icmp .gt 7, 3) := by decide +kernel
theorem dd_Fi_isCheck_10 : decode cc_Fi_isCheck 10 = .ok (.iconst 1, 1) := by decide +kernel
theorem dd_Fi_isCheck_11 : decode cc_Fi_isCheck 11 = .ok (.goto 4, 3) := by decide +kernel
theorem dd_Fi_isCheck_14 : decode cc_Fi_isCheck 14 = .ok (.iconst 0, 1) := by decide +kernel
theorem dd_Fi_isCheck_15 : decode cc_Fi_isCheck 15 = .ok (.ireturn, 1) := by decide +kernel
set_option maxRecDepth 100000 in
set_option maxHeartbeats 4000000 in
theorem ct_Fi_isCheck (l : Launch) (E : gf_E) (c : Int) (μ : gf_M) (hc : gf_R c) : gf_Mi l E yy_Fi_isCheck cc_Fi_isCheck 1 .boolean (gf_rm 0 0) 81 gf_ref μ [.int (gf_i c)] (fun r μ' => ((0 ≤ c ∧ c ≤ 10 → r = 1) ∧ (¬ (0 ≤ c ∧ c ≤ 10) → r = 0)) ∧ μ' = μ) := by
  refine gf_mi (by decide +kernel) (Nat.le_of_ble_eq_true rfl) (by decide) (fun X Q hlx C hQ => ?_)
  subst hlx
  replace C : gf_C X E cc_Fi_isCheck 1 "GuardFigures" (gf_rm 0 0) := C
  show gf_G X E Q 1 gf_φ μ 0 [(0, .int (gf_i c))] []
  refine gf_iload_n C dd_Fi_isCheck_0 0 rfl ?_
  refine gf_if_lt 14 C dd_Fi_isCheck_1 (by decide) (by omega) (fun h1 => ?_) (fun h1 => ?_)
  · skip
    refine gf_iconst C dd_Fi_isCheck_14 ?_
    refine gf_zret C hQ dd_Fi_isCheck_15 (by omega) ?_
    exact ⟨⟨by omega, by omega⟩, rfl⟩
  · skip
    refine gf_iload_n C dd_Fi_isCheck_4 0 rfl ?_
    refine gf_bipush C dd_Fi_isCheck_5 (by decide +kernel) ?_
    refine gf_icmp_gt 14 C dd_Fi_isCheck_7 (by decide) (by omega) (by omega) (fun h7 => ?_) (fun h7 => ?_)
    · skip
      refine gf_iconst C dd_Fi_isCheck_14 ?_
      refine gf_zret C hQ dd_Fi_isCheck_15 (by omega) ?_
      exact ⟨⟨by omega, by omega⟩, rfl⟩
    · skip
      refine gf_iconst C dd_Fi_isCheck_10 ?_
      refine gf_goto 15 C dd_Fi_isCheck_11 (by decide) ?_
      refine gf_zret C hQ dd_Fi_isCheck_15 (by omega) ?_
      exact ⟨⟨by omega, by omega⟩, rfl⟩

theorem dd_Fi_isGuard_0 : decode cc_Fi_isGuard 0 = .ok (.iload_n 1, 1) := by decide +kernel
theorem dd_Fi_isGuard_1 : decode cc_Fi_isGuard 1 = .ok (.aload_n 0, 1) := by decide +kernel
theorem dd_Fi_isGuard_2 : decode cc_Fi_isGuard 2 = .ok (.getfield 131, 3) := by decide +kernel
theorem dd_Fi_isGuard_5 : decode cc_Fi_isGuard 5 = .ok (.invokestatic 78, 3) := by decide +kernel
theorem dd_Fi_isGuard_8 : decode cc_Fi_isGuard 8 = .ok (.ireturn, 1) := by decide +kernel
set_option maxRecDepth 100000 in
set_option maxHeartbeats 4000000 in
theorem ct_Fi_isGuard (l : Launch) (E : gf_E) (i : Int) (μ : gf_M) (hi : gf_R i) : gf_Mi l E yy_Fi_isGuard cc_Fi_isGuard 2 .boolean (gf_rm 1 21) 81 gf_ref μ [.ref (gf_ad E 0), .int (gf_i i)] (fun r μ' => ((0 ≤ i ∧ i < μ 0 3 → r = 1) ∧ (¬ (0 ≤ i ∧ i < μ 0 3) → r = 0)) ∧ μ' = μ) := by
  refine gf_mi (by decide +kernel) (Nat.le_of_ble_eq_true rfl) (by decide) (fun X Q hlx C hQ => ?_)
  subst hlx
  replace C : gf_C X E cc_Fi_isGuard 2 "GuardFigures" (gf_rm 1 21) := C
  show gf_G X E Q 2 gf_φ μ 0 [(0, .ref (gf_ad E 0)), (1, .int (gf_i i))] []
  refine gf_iload_n C dd_Fi_isGuard_0 1 rfl ?_
  refine gf_aload_n C dd_Fi_isGuard_1 0 rfl ?_
  refine gf_getI (z := 3) C gf_cl6 fl_Fi_131 dd_Fi_isGuard_2 rfl rfl (show gf_is 81 0 0 6 17 by decide) (fun hv2 => ?_)
  refine gf_callSi (st := []) (As := [.int (gf_i i), .int (gf_i (μ 0 3))]) C wk_Fi_78 (ct_Fi_isWithin (gf_xl X) E i (μ 0 3) μ (by omega) (by omega)) rfl ⟨rfl, rfl, rfl, rfl⟩ (Nat.le_of_ble_eq_true rfl) rfl dd_Fi_isGuard_5 (fun r5 m5 hR5 hp5 => ?_)
  have hr5 := hp5.1
  refine gf_pm hp5.2 ?_
  refine gf_zret C hQ dd_Fi_isGuard_8 (by have := hr5.1; have := hr5.2; omega) ?_
  exact ⟨hr5, rfl⟩

theorem dd_Fi_found_0 : decode cc_Fi_found 0 = .ok (.aload_n 0, 1) := by decide +kernel
theorem dd_Fi_found_1 : decode cc_Fi_found 1 = .ok (.iload_n 1, 1) := by decide +kernel
theorem dd_Fi_found_2 : decode cc_Fi_found 2 = .ok (.putfield 291, 3) := by decide +kernel
theorem dd_Fi_found_5 : decode cc_Fi_found 5 = .ok (.aload_n 0, 1) := by decide +kernel
theorem dd_Fi_found_6 : decode cc_Fi_found 6 = .ok (.getfield 75, 3) := by decide +kernel
theorem dd_Fi_found_9 : decode cc_Fi_found 9 = .ok (.iload_n 1, 1) := by decide +kernel
theorem dd_Fi_found_10 : decode cc_Fi_found 10 = .ok (.dup2, 1) := by decide +kernel
theorem dd_Fi_found_11 : decode cc_Fi_found 11 = .ok (.iaload, 1) := by decide +kernel
theorem dd_Fi_found_12 : decode cc_Fi_found 12 = .ok (.iconst 1, 1) := by decide +kernel
theorem dd_Fi_found_13 : decode cc_Fi_found 13 = .ok (.iadd, 1) := by decide +kernel
theorem dd_Fi_found_14 : decode cc_Fi_found 14 = .ok (.iastore, 1) := by decide +kernel
theorem dd_Fi_found_15 : decode cc_Fi_found 15 = .ok (.bipush (-3), 2) := by decide +kernel
theorem dd_Fi_found_17 : decode cc_Fi_found 17 = .ok (.ireturn, 1) := by decide +kernel
set_option maxRecDepth 100000 in
set_option maxHeartbeats 4000000 in
theorem ct_Fi_found (l : Launch) (E : gf_E) (f : Int) (μ : gf_M) (hf : 0 ≤ f ∧ f ≤ 5) : gf_Mi l E yy_Fi_found cc_Fi_found 2 .int (gf_rm 0 0) 81 gf_ref μ [.ref (gf_ad E 0), .int (gf_i f)] (fun r μ' => r = -3 ∧ μ' = gf_fd μ f) := by
  refine gf_mi (by decide +kernel) (Nat.le_of_ble_eq_true rfl) (by decide) (fun X Q hlx C hQ => ?_)
  subst hlx
  replace C : gf_C X E cc_Fi_found 2 "GuardFigures" (gf_rm 0 0) := C
  show gf_G X E Q 2 gf_φ μ 0 [(0, .ref (gf_ad E 0)), (1, .int (gf_i f))] []
  refine gf_aload_n C dd_Fi_found_0 0 rfl ?_
  refine gf_iload_n C dd_Fi_found_1 1 rfl ?_
  refine gf_putI (z := 15) C gf_cl6 fl_Fi_291 dd_Fi_found_2 rfl rfl rfl (by decide +kernel) (show gf_is 81 0 0 6 17 by decide) (by omega) ?_
  refine gf_nmM (fun m2 hm2 => ?_)
  refine gf_aload_n C dd_Fi_found_5 0 rfl ?_
  refine gf_getA (r := 64) C gf_cl6 fl_Fi_75 dd_Fi_found_6 rfl (show gf_is 81 0 0 6 17 by decide) (by decide) (by decide) ?_
  refine gf_iload_n C dd_Fi_found_9 1 rfl ?_
  refine gf_dup2 C dd_Fi_found_10 rfl rfl ?_
  refine gf_iald C dd_Fi_found_11 (show gf_is 81 64 1 0 6 by decide) (by omega) (fun hv11 => ?_)
  refine gf_iconst C dd_Fi_found_12 ?_
  refine gf_iadd C dd_Fi_found_13 ?_
  refine gf_iastw C dd_Fi_found_14 (show gf_is 81 64 1 0 6 by decide) (by omega) ?_
  refine gf_nmM (fun m14 hm14 => ?_)
  refine gf_bipush C dd_Fi_found_15 (by decide +kernel) ?_
  refine gf_iret C hQ dd_Fi_found_17 (by omega) ?_
  refine ⟨rfl, ?_⟩
  unfold gf_fd
  rw [hm14, hm2, gf_up_k (a := 64) (by decide)]

theorem dd_Fi_tell_0 : decode cc_Fi_tell 0 = .ok (.aload_n 0, 1) := by decide +kernel
theorem dd_Fi_tell_1 : decode cc_Fi_tell 1 = .ok (.iload_n 1, 1) := by decide +kernel
theorem dd_Fi_tell_2 : decode cc_Fi_tell 2 = .ok (.putfield 205, 3) := by decide +kernel
theorem dd_Fi_tell_5 : decode cc_Fi_tell 5 = .ok (.iconst 1, 1) := by decide +kernel
theorem dd_Fi_tell_6 : decode cc_Fi_tell 6 = .ok (.ireturn, 1) := by decide +kernel
set_option maxRecDepth 100000 in
set_option maxHeartbeats 4000000 in
theorem ct_Fi_tell (l : Launch) (E : gf_E) (v : Int) (μ : gf_M) (hv : gf_R v) : gf_Mi l E yy_Fi_tell cc_Fi_tell 2 .int (gf_rm 0 0) 81 gf_ref μ [.ref (gf_ad E 0), .int (gf_i v)] (fun r μ' => r = 1 ∧ μ' = gf_tl μ v) := by
  refine gf_mi (by decide +kernel) (Nat.le_of_ble_eq_true rfl) (by decide) (fun X Q hlx C hQ => ?_)
  subst hlx
  replace C : gf_C X E cc_Fi_tell 2 "GuardFigures" (gf_rm 0 0) := C
  show gf_G X E Q 2 gf_φ μ 0 [(0, .ref (gf_ad E 0)), (1, .int (gf_i v))] []
  refine gf_aload_n C dd_Fi_tell_0 0 rfl ?_
  refine gf_iload_n C dd_Fi_tell_1 1 rfl ?_
  refine gf_putI (z := 12) C gf_cl6 fl_Fi_205 dd_Fi_tell_2 rfl rfl rfl (by decide +kernel) (show gf_is 81 0 0 6 17 by decide) (by omega) ?_
  refine gf_nmM (fun m2 hm2 => ?_)
  refine gf_iconst C dd_Fi_tell_5 ?_
  refine gf_iret C hQ dd_Fi_tell_6 (by omega) ?_
  exact ⟨rfl, hm2⟩

theorem dd_Fi_power_0 : decode cc_Fi_power 0 = .ok (.lconst 1, 1) := by decide +kernel
theorem dd_Fi_power_1 : decode cc_Fi_power 1 = .ok (.lstore_n 2, 1) := by decide +kernel
theorem dd_Fi_power_2 : decode cc_Fi_power 2 = .ok (.iconst 0, 1) := by decide +kernel
theorem dd_Fi_power_3 : decode cc_Fi_power 3 = .ok (.istore 4, 2) := by decide +kernel
theorem dd_Fi_power_5 : decode cc_Fi_power 5 = .ok (.iload 4, 2) := by decide +kernel
theorem dd_Fi_power_7 : decode cc_Fi_power 7 = .ok (.iload_n 1, 1) := by decide +kernel
theorem dd_Fi_power_8 : decode cc_Fi_power 8 = .ok (.if_icmp .ge 14, 3) := by decide +kernel
theorem dd_Fi_power_11 : decode cc_Fi_power 11 = .ok (.lload_n 2, 1) := by decide +kernel
theorem dd_Fi_power_12 : decode cc_Fi_power 12 = .ok (.iload_n 0, 1) := by decide +kernel
theorem dd_Fi_power_13 : decode cc_Fi_power 13 = .ok (.i2l, 1) := by decide +kernel
theorem dd_Fi_power_14 : decode cc_Fi_power 14 = .ok (.lmul, 1) := by decide +kernel
theorem dd_Fi_power_15 : decode cc_Fi_power 15 = .ok (.lstore_n 2, 1) := by decide +kernel
theorem dd_Fi_power_16 : decode cc_Fi_power 16 = .ok (.iinc 4 1, 3) := by decide +kernel
theorem dd_Fi_power_19 : decode cc_Fi_power 19 = .ok (.goto (-14), 3) := by decide +kernel
theorem dd_Fi_power_22 : decode cc_Fi_power 22 = .ok (.lload_n 2, 1) := by decide +kernel
theorem dd_Fi_power_23 : decode cc_Fi_power 23 = .ok (.lreturn, 1) := by decide +kernel
set_option maxRecDepth 100000 in
set_option maxHeartbeats 4000000 in
theorem ct_Fi_power (l : Launch) (E : gf_E) (b n : Int) (μ : gf_M) (hb : 0 ≤ b ∧ b ≤ 12) (hn : 0 ≤ n ∧ n ≤ 8) : gf_Ml l E yy_Fi_power cc_Fi_power 5 (gf_rm 0 0) 81 gf_ref μ [.int (gf_i b), .int (gf_i n)] (fun r μ' => (r = b ^ n.toNat ∧ 0 ≤ r ∧ r ≤ 429981696) ∧ μ' = μ) := by
  refine gf_ml (by decide +kernel) (Nat.le_of_ble_eq_true rfl) (by decide) (fun X Q hlx C hQ => ?_)
  subst hlx
  replace C : gf_C X E cc_Fi_power 5 "GuardFigures" (gf_rm 0 0) := C
  show gf_G X E Q 5 gf_φ μ 0 [(0, .int (gf_i b)), (1, .int (gf_i n))] []
  refine gf_lconst 1 C dd_Fi_power_0 (by decide +kernel) ?_
  refine gf_lstore_n (lv' := [(2, .long (gf_l 1)), (0, .int (gf_i b)), (1, .int (gf_i n))]) C dd_Fi_power_1 (by decide) rfl ?_
  refine gf_iconst C dd_Fi_power_2 ?_
  refine gf_istore (lv' := [(4, .int (gf_i 0)), (2, .long (gf_l 1)), (0, .int (gf_i b)), (1, .int (gf_i n))]) C dd_Fi_power_3 (by decide) rfl ?_
  have L5_1 : ∀ (N : Nat) (v i : Int) , (0 ≤ i ∧ i ≤ n ∧ v = b ^ i.toNat ∧ 0 ≤ v ∧ v ≤ 12 ^ i.toNat) → (n - i).toNat < N → gf_G X E Q 5 gf_φ μ 5 [(2, .long (gf_l v)), (4, .int (gf_i i)), (0, .int (gf_i b)), (1, .int (gf_i n))] [] := by
    intro N
    induction N with
    | zero => intro v i hinv hN; exact absurd hN (Nat.not_lt_zero _)
    | succ N ih5_1 =>
      intro v i hinv hN
      have hinv0 := hinv
      obtain ⟨hi0, hi1, hv, hv0, hv1⟩ := hinv
      have h12 := pf_12_8 (k := i.toNat) (by omega)
      refine gf_iload C dd_Fi_power_5 1 rfl ?_
      refine gf_iload_n C dd_Fi_power_7 3 rfl ?_
      refine gf_icmp_ge 22 C dd_Fi_power_8 (by decide) (by omega) (by omega) (fun h8 => ?_) (fun h8 => ?_)
      · skip
        refine gf_lload_n C dd_Fi_power_22 0 rfl ?_
        refine gf_lret C hQ dd_Fi_power_23 (by omega) ?_
        refine ⟨⟨by rw [hv, show i = n by omega], by omega, by omega⟩, rfl⟩
      · skip
        refine gf_lload_n C dd_Fi_power_11 0 rfl ?_
        refine gf_iload_n C dd_Fi_power_12 2 rfl ?_
        refine gf_gi2l C dd_Fi_power_13 (by omega) ?_
        refine gf_lmul C dd_Fi_power_14 ?_
        refine gf_nml (fun x15 hx15 => ?_)
        refine gf_lstore_n (lv' := [(2, .long (gf_l x15)), (4, .int (gf_i i)), (0, .int (gf_i b)), (1, .int (gf_i n))]) C dd_Fi_power_15 (by decide) rfl ?_
        obtain ⟨x16, hx16⟩ : ∃ y : Int, y = i + 1 := ⟨_, rfl⟩
        refine gf_iinc (q := 1) (v := x16) (lv' := [(4, .int (gf_i x16)), (2, .long (gf_l x15)), (0, .int (gf_i b)), (1, .int (gf_i n))]) C dd_Fi_power_16 rfl hx16 (by decide) rfl ?_
        refine gf_goto 5 C dd_Fi_power_19 (by decide) ?_
        refine gf_lsub [1, 0, 2, 3] rfl ?_
        exact ih5_1 x15 x16 (by
                have e1 : (i + 1).toNat = i.toNat + 1 := by omega
                have hm := pf_mulb (a := v) (b := b) (A := 12 ^ i.toNat) (B := 12) ⟨hv0, hv1⟩ hb
                refine ⟨by omega, by omega, ?_, by omega, ?_⟩
                · rw [hx15, hx16, e1, Int.pow_succ, hv]
                · rw [hx15, hx16, e1, Int.pow_succ]; exact hm.2) (by omega)
  refine gf_lsub [1, 0, 2, 3] rfl ?_
  exact L5_1 _ 1 0 (⟨by omega, by omega, by simp, by omega, by simp⟩) (Nat.lt_succ_self _)

theorem dd_Fi_commonDivisor_0 : decode cc_Fi_commonDivisor 0 = .ok (.lload_n 0, 1) := by decide +kernel
theorem dd_Fi_commonDivisor_1 : decode cc_Fi_commonDivisor 1 = .ok (.lstore 4, 2) := by decide +kernel
theorem dd_Fi_commonDivisor_3 : decode cc_Fi_commonDivisor 3 = .ok (.lload_n 2, 1) := by decide +kernel
theorem dd_Fi_commonDivisor_4 : decode cc_Fi_commonDivisor 4 = .ok (.lstore 6, 2) := by decide +kernel
theorem dd_Fi_commonDivisor_6 : decode cc_Fi_commonDivisor 6 = .ok (.iconst 0, 1) := by decide +kernel
theorem dd_Fi_commonDivisor_7 : decode cc_Fi_commonDivisor 7 = .ok (.istore 8, 2) := by decide +kernel
theorem dd_Fi_commonDivisor_9 : decode cc_Fi_commonDivisor 9 = .ok (.iload 8, 2) := by decide +kernel
theorem dd_Fi_commonDivisor_11 : decode cc_Fi_commonDivisor 11 = .ok (.sipush 128, 3) := by decide +kernel
theorem dd_Fi_commonDivisor_14 : decode cc_Fi_commonDivisor 14 = .ok (.if_icmp .ge 31, 3) := by decide +kernel
theorem dd_Fi_commonDivisor_17 : decode cc_Fi_commonDivisor 17 = .ok (.lload 6, 2) := by decide +kernel
theorem dd_Fi_commonDivisor_19 : decode cc_Fi_commonDivisor 19 = .ok (.lconst 0, 1) := by decide +kernel
theorem dd_Fi_commonDivisor_20 : decode cc_Fi_commonDivisor 20 = .ok (.lcmp, 1) := by decide +kernel
theorem dd_Fi_commonDivisor_21 : decode cc_Fi_commonDivisor 21 = .ok (.ifCond .eq 24, 3) := by decide +kernel
theorem dd_Fi_commonDivisor_24 : decode cc_Fi_commonDivisor 24 = .ok (.lload 4, 2) := by decide +kernel
theorem dd_Fi_commonDivisor_26 : decode cc_Fi_commonDivisor 26 = .ok (.lload 6, 2) := by decide +kernel
theorem dd_Fi_commonDivisor_28 : decode cc_Fi_commonDivisor 28 = .ok (.lrem, 1) := by decide +kernel
theorem dd_Fi_commonDivisor_29 : decode cc_Fi_commonDivisor 29 = .ok (.lstore 9, 2) := by decide +kernel
theorem dd_Fi_commonDivisor_31 : decode cc_Fi_commonDivisor 31 = .ok (.lload 6, 2) := by decide +kernel
theorem dd_Fi_commonDivisor_33 : decode cc_Fi_commonDivisor 33 = .ok (.lstore 4, 2) := by decide +kernel
theorem dd_Fi_commonDivisor_35 : decode cc_Fi_commonDivisor 35 = .ok (.lload 9, 2) := by decide +kernel
theorem dd_Fi_commonDivisor_37 : decode cc_Fi_commonDivisor 37 = .ok (.lstore 6, 2) := by decide +kernel
theorem dd_Fi_commonDivisor_39 : decode cc_Fi_commonDivisor 39 = .ok (.iinc 8 1, 3) := by decide +kernel
theorem dd_Fi_commonDivisor_42 : decode cc_Fi_commonDivisor 42 = .ok (.goto (-33), 3) := by decide +kernel
theorem dd_Fi_commonDivisor_45 : decode cc_Fi_commonDivisor 45 = .ok (.lload 4, 2) := by decide +kernel
theorem dd_Fi_commonDivisor_47 : decode cc_Fi_commonDivisor 47 = .ok (.lreturn, 1) := by decide +kernel
set_option maxRecDepth 100000 in
set_option maxHeartbeats 4000000 in
theorem ct_Fi_commonDivisor (l : Launch) (E : gf_E) (a b : Int) (μ : gf_M) (ha : 0 < a ∧ a ≤ 429981696) (hb : 0 ≤ b ∧ b ≤ 4299816960) : gf_Ml l E yy_Fi_commonDivisor cc_Fi_commonDivisor 11 (gf_rm 0 0) 81 gf_ref μ [.long (gf_l a), .long (gf_l b)] (fun r μ' => (r = (Int.gcd a b : Int) ∧ 0 < r ∧ r ≤ 4299816960) ∧ μ' = μ) := by
  refine gf_ml (by decide +kernel) (Nat.le_of_ble_eq_true rfl) (by decide) (fun X Q hlx C hQ => ?_)
  subst hlx
  replace C : gf_C X E cc_Fi_commonDivisor 11 "GuardFigures" (gf_rm 0 0) := C
  show gf_G X E Q 11 gf_φ μ 0 [(0, .long (gf_l a)), (2, .long (gf_l b))] []
  have hab := pf_mulb (a := a) (b := b) (A := 429981696) (B := 4299816960) ⟨by omega, by omega⟩ hb
  refine gf_lload_n C dd_Fi_commonDivisor_0 0 rfl ?_
  refine gf_lstore (lv' := [(4, .long (gf_l a)), (0, .long (gf_l a)), (2, .long (gf_l b))]) C dd_Fi_commonDivisor_1 (by decide) rfl ?_
  refine gf_lload_n C dd_Fi_commonDivisor_3 2 rfl ?_
  refine gf_lstore (lv' := [(6, .long (gf_l b)), (4, .long (gf_l a)), (0, .long (gf_l a)), (2, .long (gf_l b))]) C dd_Fi_commonDivisor_4 (by decide) rfl ?_
  refine gf_iconst C dd_Fi_commonDivisor_6 ?_
  refine gf_istore (lv' := [(8, .int (gf_i 0)), (6, .long (gf_l b)), (4, .long (gf_l a)), (0, .long (gf_l a)), (2, .long (gf_l b))]) C dd_Fi_commonDivisor_7 (by decide) rfl ?_
  have L9_1 : ∀ (N : Nat) (x y u : Int) , (0 ≤ u ∧ u ≤ 128 ∧ 0 < x ∧ x ≤ 4299816960 ∧ 0 ≤ y ∧ y ≤ 4299816960 ∧ (Int.gcd x y : Int) = (Int.gcd a b : Int) ∧ (u = 0 → x = a ∧ y = b) ∧ (0 < u → y < x ∧ 2 ^ (u - 1).toNat * (x * y) ≤ a * b)) → (128 - u).toNat < N → gf_G X E Q 11 gf_φ μ 9 [(4, .long (gf_l x)), (6, .long (gf_l y)), (8, .int (gf_i u))] [] := by
    intro N
    induction N with
    | zero => intro x y u hinv hN; exact absurd hN (Nat.not_lt_zero _)
    | succ N ih9_1 =>
      intro x y u hinv hN
      have hinv0 := hinv
      obtain ⟨hu0, hu1, hx0, hx1, hy0, hy1, hg, hz0, hz1⟩ := hinv
      refine gf_iload C dd_Fi_commonDivisor_9 2 rfl ?_
      refine gf_sipush C dd_Fi_commonDivisor_11 (by decide +kernel) ?_
      refine gf_icmp_ge 45 C dd_Fi_commonDivisor_14 (by decide) (by omega) (by omega) (fun h14 => ?_) (fun h14 => ?_)
      · skip
        have hy0' : y = 0 := by
          obtain ⟨e1, e2⟩ := hz1 (by omega)
          rcases (show y = 0 ∨ 1 ≤ y by omega) with h | h
          · exact h
          · exfalso
            have hxy : 1 * 1 ≤ x * y := Int.mul_le_mul (by omega) h (by omega) (by omega)
            rw [show (u - 1).toNat = 127 by omega] at e2
            have e3 : (2 : Int) ^ 127 * (1 * 1) ≤ 2 ^ 127 * (x * y) := Int.mul_le_mul_of_nonneg_left hxy (by decide)
            have e4 : (2 : Int) ^ 127 = 170141183460469231731687303715884105728 := by decide
            rw [e4] at e3 e2
            omega
        refine gf_lload C dd_Fi_commonDivisor_45 0 rfl ?_
        refine gf_lret C hQ dd_Fi_commonDivisor_47 (by omega) ?_
        refine ⟨⟨?_, by omega, by omega⟩, rfl⟩
        rw [← hg, hy0', Int.gcd_zero_right]
        omega
      · skip
        refine gf_lload C dd_Fi_commonDivisor_17 1 rfl ?_
        refine gf_lconst 0 C dd_Fi_commonDivisor_19 (by decide +kernel) ?_
        refine gf_lcmp C dd_Fi_commonDivisor_20 (by omega) (by omega) (fun c20 hc20a hc20b hc20c => ?_)
        refine gf_if_eq 45 C dd_Fi_commonDivisor_21 (by decide) (by omega) (fun h21 => ?_) (fun h21 => ?_)
        · skip
          have hy0' : y = 0 := by omega
          refine gf_lload C dd_Fi_commonDivisor_45 0 rfl ?_
          refine gf_lret C hQ dd_Fi_commonDivisor_47 (by omega) ?_
          refine ⟨⟨?_, by omega, by omega⟩, rfl⟩
          rw [← hg, hy0', Int.gcd_zero_right]
          omega
        · skip
          refine gf_lload C dd_Fi_commonDivisor_24 0 rfl ?_
          refine gf_lload C dd_Fi_commonDivisor_26 1 rfl ?_
          refine gf_lrem C dd_Fi_commonDivisor_28 (by omega) ?_
          refine gf_nml (fun x29 hx29 => ?_)
          refine gf_lstore (lv' := [(9, .long (gf_l x29)), (4, .long (gf_l x)), (6, .long (gf_l y)), (8, .int (gf_i u))]) C dd_Fi_commonDivisor_29 (by decide) rfl ?_
          refine gf_lload C dd_Fi_commonDivisor_31 2 rfl ?_
          refine gf_lstore (lv' := [(4, .long (gf_l y)), (9, .long (gf_l x29)), (6, .long (gf_l y)), (8, .int (gf_i u))]) C dd_Fi_commonDivisor_33 (by decide) rfl ?_
          refine gf_lload C dd_Fi_commonDivisor_35 1 rfl ?_
          refine gf_lstore (lv' := [(6, .long (gf_l x29)), (4, .long (gf_l y)), (9, .long (gf_l x29)), (8, .int (gf_i u))]) C dd_Fi_commonDivisor_37 (by decide) rfl ?_
          obtain ⟨x39, hx39⟩ : ∃ y : Int, y = u + 1 := ⟨_, rfl⟩
          refine gf_iinc (q := 3) (v := x39) (lv' := [(8, .int (gf_i x39)), (6, .long (gf_l x29)), (4, .long (gf_l y)), (9, .long (gf_l x29))]) C dd_Fi_commonDivisor_39 rfl hx39 (by decide) rfl ?_
          refine gf_goto 9 C dd_Fi_commonDivisor_42 (by decide) ?_
          refine gf_lsub [2, 1, 0] rfl ?_
          exact ih9_1 y x29 x39 (by
                  have hyp : 0 < y := by omega
                  have hm0 : 0 ≤ x % y := Int.emod_nonneg x (by omega)
                  have hm1 : x % y < y := Int.emod_lt_of_pos x hyp
                  refine ⟨by omega, by omega, by omega, by omega, by omega, by omega, ?_, fun h => by omega, fun _ => ⟨by omega, ?_⟩⟩
                  · rw [hx29, ← hg]
                    congr 1
                    exact pf_gcd_step (by omega) hyp
                  · rw [hx29, hx39]
                    rcases (show u = 0 ∨ 0 < u by omega) with h | h
                    · rw [h, show ((0 : Int) + 1 - 1).toNat = 0 by omega, Int.pow_zero, Int.one_mul]
                      obtain ⟨e1, e2⟩ := hz0 h
                      rw [← e1, ← e2, Int.mul_comm x y]
                      exact Int.mul_le_mul_of_nonneg_left (pf_emod_le (by omega) hyp) (by omega)
                    · obtain ⟨e1, e2⟩ := hz1 h
                      have hE := pf_euc hyp (by omega : y ≤ x)
                      rw [show (u + 1 - 1).toNat = (u - 1).toNat + 1 by omega, Int.pow_succ, Int.mul_assoc]
                      refine Int.le_trans (Int.mul_le_mul_of_nonneg_left hE ?_) e2
                      exact Int.le_of_lt (Int.pow_pos (by decide))) (by omega)
  refine gf_lsub [2, 1, 0] rfl ?_
  exact L9_1 _ a b 0 (⟨by omega, by omega, by omega, by omega, by omega, by omega, rfl, fun _ => ⟨rfl, rfl⟩, fun h => by omega⟩) (Nat.lt_succ_self _)

theorem dd_Fi_tellShare_0 : decode cc_Fi_tellShare 0 = .ok (.bipush 12, 2) := by decide +kernel
theorem dd_Fi_tellShare_2 : decode cc_Fi_tellShare 2 = .ok (.aload_n 0, 1) := by decide +kernel
theorem dd_Fi_tellShare_3 : decode cc_Fi_tellShare 3 = .ok (.getfield 35, 3) := by decide +kernel
theorem dd_Fi_tellShare_6 : decode cc_Fi_tellShare 6 = .ok (.getfield 168, 3) := by decide +kernel
theorem dd_Fi_tellShare_9 : decode cc_Fi_tellShare 9 = .ok (.invokestatic 266, 3) := by decide +kernel
theorem dd_Fi_tellShare_12 : decode cc_Fi_tellShare 12 = .ok (.lstore_n 3, 1) := by decide +kernel
theorem dd_Fi_tellShare_13 : decode cc_Fi_tellShare 13 = .ok (.lload_n 3, 1) := by decide +kernel
theorem dd_Fi_tellShare_14 : decode cc_Fi_tellShare 14 = .ok (.lload_n 1, 1) := by decide +kernel
theorem dd_Fi_tellShare_15 : decode cc_Fi_tellShare 15 = .ok (.invokestatic 307, 3) := by decide +kernel
theorem dd_Fi_tellShare_18 : decode cc_Fi_tellShare 18 = .ok (.lstore 5, 2) := by decide +kernel
theorem dd_Fi_tellShare_20 : decode cc_Fi_tellShare 20 = .ok (.lload 5, 2) := by decide +kernel
theorem dd_Fi_tellShare_22 : decode cc_Fi_tellShare 22 = .ok (.lconst 0, 1) := by decide +kernel
theorem dd_Fi_tellShare_23 : decode cc_Fi_tellShare 23 = .ok (.lcmp, 1) := by decide +kernel
theorem dd_Fi_tellShare_24 : decode cc_Fi_tellShare 24 = .ok (.ifCond .le 19, 3) := by decide +kernel
theorem dd_Fi_tellShare_27 : decode cc_Fi_tellShare 27 = .ok (.aload_n 0, 1) := by decide +kernel
theorem dd_Fi_tellShare_28 : decode cc_Fi_tellShare 28 = .ok (.lload_n 1, 1) := by decide +kernel
theorem dd_Fi_tellShare_29 : decode cc_Fi_tellShare 29 = .ok (.lload 5, 2) := by decide +kernel
theorem dd_Fi_tellShare_31 : decode cc_Fi_tellShare 31 = .ok (.ldiv, 1) := by decide +kernel
theorem dd_Fi_tellShare_32 : decode cc_Fi_tellShare 32 = .ok (.putfield 285, 3) := by decide +kernel
theorem dd_Fi_tellShare_35 : decode cc_Fi_tellShare 35 = .ok (.aload_n 0, 1) := by decide +kernel
theorem dd_Fi_tellShare_36 : decode cc_Fi_tellShare 36 = .ok (.lload_n 3, 1) := by decide +kernel
theorem dd_Fi_tellShare_37 : decode cc_Fi_tellShare 37 = .ok (.lload 5, 2) := by decide +kernel
theorem dd_Fi_tellShare_39 : decode cc_Fi_tellShare 39 = .ok (.ldiv, 1) := by decide +kernel
theorem dd_Fi_tellShare_40 : decode cc_Fi_tellShare 40 = .ok (.putfield 71, 3) := by decide +kernel
theorem dd_Fi_tellShare_43 : decode cc_Fi_tellShare 43 = .ok (.iconst 1, 1) := by decide +kernel
theorem dd_Fi_tellShare_44 : decode cc_Fi_tellShare 44 = .ok (.ireturn, 1) := by decide +kernel
set_option maxRecDepth 100000 in
set_option maxHeartbeats 4000000 in
theorem ct_Fi_tellShare (l : Launch) (E : gf_E) (h : Int) (μ : gf_M) (hh : 0 ≤ h ∧ h ≤ 4299816960) (hs : 0 ≤ μ 41 1 ∧ μ 41 1 ≤ 8) : gf_Mi l E yy_Fi_tellShare cc_Fi_tellShare 7 .int (gf_rm 1 30) 81 gf_ref μ [.ref (gf_ad E 0), .long (gf_l h)] (fun r μ' => r = 1 ∧ μ' = gf_up (gf_up μ 0 13 (h / (Int.gcd (12 ^ (μ 41 1).toNat) h : Int))) 0 14 (12 ^ (μ 41 1).toNat / (Int.gcd (12 ^ (μ 41 1).toNat) h : Int))) := by
  refine gf_mi (by decide +kernel) (Nat.le_of_ble_eq_true rfl) (by decide) (fun X Q hlx C hQ => ?_)
  subst hlx
  replace C : gf_C X E cc_Fi_tellShare 7 "GuardFigures" (gf_rm 1 30) := C
  show gf_G X E Q 7 gf_φ μ 0 [(0, .ref (gf_ad E 0)), (1, .long (gf_l h))] []
  refine gf_bipush C dd_Fi_tellShare_0 (by decide +kernel) ?_
  refine gf_aload_n C dd_Fi_tellShare_2 0 rfl ?_
  refine gf_getA (r := 41) C gf_cl6 fl_Fi_35 dd_Fi_tellShare_3 rfl (show gf_is 81 0 0 6 17 by decide) (by decide) (by decide) ?_
  refine gf_getI (z := 1) C gf_cl5 fl_Fi_168 dd_Fi_tellShare_6 rfl rfl (show gf_is 81 41 0 5 5 by decide) (fun hv6 => ?_)
  refine gf_callSl (st := []) (As := [.int (gf_i 12), .int (gf_i (μ 41 1))]) C wk_Fi_266 (ct_Fi_power (gf_xl X) E 12 (μ 41 1) μ (by omega) (by omega)) rfl ⟨rfl, rfl, rfl, rfl⟩ (Nat.le_of_ble_eq_true rfl) rfl dd_Fi_tellShare_9 (fun r9 m9 hR9 hp9 => ?_)
  have hr9 := hp9.1
  refine gf_pm hp9.2 ?_
  have hpp : 0 < r9 := by rw [hr9.1]; exact Int.pow_pos (by decide)
  refine gf_lstore_n (lv' := [(3, .long (gf_l r9)), (0, .ref (gf_ad E 0)), (1, .long (gf_l h))]) C dd_Fi_tellShare_12 (by decide) rfl ?_
  refine gf_lload_n C dd_Fi_tellShare_13 0 rfl ?_
  refine gf_lload_n C dd_Fi_tellShare_14 2 rfl ?_
  refine gf_callSl (st := []) (As := [.long (gf_l r9), .long (gf_l h)]) C wk_Fi_307 (ct_Fi_commonDivisor (gf_xl X) E r9 h μ (by omega) (by omega)) rfl ⟨rfl, rfl, rfl, rfl⟩ (Nat.le_of_ble_eq_true rfl) rfl dd_Fi_tellShare_15 (fun r15 m15 hR15 hp15 => ?_)
  have hr15 := hp15.1
  refine gf_pm hp15.2 ?_
  refine gf_lstore (lv' := [(5, .long (gf_l r15)), (3, .long (gf_l r9)), (0, .ref (gf_ad E 0)), (1, .long (gf_l h))]) C dd_Fi_tellShare_18 (by decide) rfl ?_
  refine gf_lload C dd_Fi_tellShare_20 0 rfl ?_
  refine gf_lconst 0 C dd_Fi_tellShare_22 (by decide +kernel) ?_
  refine gf_lcmp C dd_Fi_tellShare_23 (by omega) (by omega) (fun c23 hc23a hc23b hc23c => ?_)
  refine gf_if_le 43 C dd_Fi_tellShare_24 (by decide) (by omega) (fun h24 => ?_) (fun h24 => ?_)
  · skip
    refine gf_iconst C dd_Fi_tellShare_43 ?_
    refine gf_iret C hQ dd_Fi_tellShare_44 (by omega) ?_
    first
      | omega
      | (refine ⟨rfl, ?_⟩
         rw [hm40, hm32, Int.tdiv_eq_ediv_of_nonneg hh.1, Int.tdiv_eq_ediv_of_nonneg (by omega), hr15.1, hr9.1])
  · skip
    refine gf_aload_n C dd_Fi_tellShare_27 2 rfl ?_
    refine gf_lload_n C dd_Fi_tellShare_28 3 rfl ?_
    refine gf_lload C dd_Fi_tellShare_29 0 rfl ?_
    refine gf_ldiv C dd_Fi_tellShare_31 (by omega) ?_
    refine gf_putL (z := 13) C gf_cl6 fl_Fi_285 dd_Fi_tellShare_32 rfl rfl rfl (by decide +kernel) (show gf_is 81 0 0 6 17 by decide) (by rw [Int.tdiv_eq_ediv_of_nonneg (by omega)]; have h1 := Int.ediv_le_self r15 hh.1; have h2 : 0 ≤ h / r15 := Int.ediv_nonneg hh.1 (by omega); omega) ?_
    refine gf_nmM (fun m32 hm32 => ?_)
    refine gf_aload_n C dd_Fi_tellShare_35 2 rfl ?_
    refine gf_lload_n C dd_Fi_tellShare_36 1 rfl ?_
    refine gf_lload C dd_Fi_tellShare_37 0 rfl ?_
    refine gf_ldiv C dd_Fi_tellShare_39 (by omega) ?_
    refine gf_putL (z := 14) C gf_cl6 fl_Fi_71 dd_Fi_tellShare_40 rfl rfl rfl (by decide +kernel) (show gf_is 81 0 0 6 17 by decide) (by rw [Int.tdiv_eq_ediv_of_nonneg (by omega)]; have h1 := Int.ediv_le_self r15 (show 0 ≤ r9 by omega); have h2 : 0 ≤ r9 / r15 := Int.ediv_nonneg (by omega) (by omega); omega) ?_
    refine gf_nmM (fun m40 hm40 => ?_)
    refine gf_iconst C dd_Fi_tellShare_43 ?_
    refine gf_iret C hQ dd_Fi_tellShare_44 (by omega) ?_
    first
      | omega
      | (refine ⟨rfl, ?_⟩
         rw [hm40, hm32, Int.tdiv_eq_ediv_of_nonneg hh.1, Int.tdiv_eq_ediv_of_nonneg (by omega), hr15.1, hr9.1])

theorem dd_Fi_renew_0 : decode cc_Fi_renew 0 = .ok (.iload_n 2, 1) := by decide +kernel
theorem dd_Fi_renew_1 : decode cc_Fi_renew 1 = .ok (.ifCond .ge 9, 3) := by decide +kernel
theorem dd_Fi_renew_4 : decode cc_Fi_renew 4 = .ok (.aload_n 0, 1) := by decide +kernel
theorem dd_Fi_renew_5 : decode cc_Fi_renew 5 = .ok (.iconst 5, 1) := by decide +kernel
theorem dd_Fi_renew_6 : decode cc_Fi_renew 6 = .ok (.invokevirtual 104, 3) := by decide +kernel
theorem dd_Fi_renew_9 : decode cc_Fi_renew 9 = .ok (.ireturn, 1) := by decide +kernel
theorem dd_Fi_renew_10 : decode cc_Fi_renew 10 = .ok (.aload_n 1, 1) := by decide +kernel
theorem dd_Fi_renew_11 : decode cc_Fi_renew 11 = .ok (.iload_n 2, 1) := by decide +kernel
theorem dd_Fi_renew_12 : decode cc_Fi_renew 12 = .ok (.iload_n 3, 1) := by decide +kernel
theorem dd_Fi_renew_13 : decode cc_Fi_renew 13 = .ok (.invokevirtual 311, 3) := by decide +kernel
theorem dd_Fi_renew_16 : decode cc_Fi_renew 16 = .ok (.iload_n 2, 1) := by decide +kernel
theorem dd_Fi_renew_17 : decode cc_Fi_renew 17 = .ok (.ireturn, 1) := by decide +kernel
set_option maxRecDepth 100000 in
set_option maxHeartbeats 4000000 in
theorem ct_Fi_renew (l : Launch) (E : gf_E) (k n v : Int) (N : Nat) (μ : gf_M) (hk : gf_oRow k N) (hn : gf_R n ∧ n ≤ (N : Int)) (hv : gf_R v) (hN : N ≤ 60) : gf_Mi l E yy_Fi_renew cc_Fi_renew 4 .int (gf_rm 2 53) 81 gf_ref μ [.ref (gf_ad E 0), .ref (gf_ad E k), .int (gf_i n), .int (gf_i v)] (fun r μ' => (n < 0 → r = -3 ∧ μ' = gf_fd μ 5) ∧ (0 ≤ n → r = n ∧ μ' k 1 = n ∧ (∀ j : Int, 0 ≤ j → j < n → μ' (k + 1) j = v) ∧ ∀ a b : Int, ¬ (a = k ∧ b = 1) → ¬ (a = k + 1 ∧ 0 ≤ b ∧ b < n) → μ' a b = μ a b)) := by
  refine gf_mi (by decide +kernel) (Nat.le_of_ble_eq_true rfl) (by decide) (fun X Q hlx C hQ => ?_)
  subst hlx
  replace C : gf_C X E cc_Fi_renew 4 "GuardFigures" (gf_rm 2 53) := C
  show gf_G X E Q 4 gf_φ μ 0 [(0, .ref (gf_ad E 0)), (1, .ref (gf_ad E k)), (2, .int (gf_i n)), (3, .int (gf_i v))] []
  refine gf_iload_n C dd_Fi_renew_0 2 rfl ?_
  refine gf_if_ge 10 C dd_Fi_renew_1 (by decide) (by omega) (fun h1 => ?_) (fun h1 => ?_)
  · skip
    refine gf_aload_n C dd_Fi_renew_10 1 rfl ?_
    refine gf_iload_n C dd_Fi_renew_11 2 rfl ?_
    refine gf_iload_n C dd_Fi_renew_12 3 rfl ?_
    refine gf_callVv (st := []) (As := [.int (gf_i n), .int (gf_i v)]) C wk_Fi_311 gf_cl3 hk.1 (ct_Ro_renew (gf_xl X) E k N μ hk n v (by omega) hv hN) rfl ⟨rfl, rfl, rfl, rfl⟩ (Nat.le_of_ble_eq_true rfl) rfl dd_Fi_renew_13 (fun m13 hp13 => ?_)
    refine gf_iload_n C dd_Fi_renew_16 2 rfl ?_
    refine gf_iret C hQ dd_Fi_renew_17 (by omega) ?_
    exact ⟨fun h => by omega, fun _ => ⟨rfl, hp13⟩⟩
  · skip
    refine gf_aload_n C dd_Fi_renew_4 0 rfl ?_
    refine gf_iconst C dd_Fi_renew_5 ?_
    refine gf_callVi (st := []) (As := [.int (gf_i 5)]) C wk_Fi_104 gf_cl6 (show gf_is 81 0 0 6 17 by decide) (ct_Fi_found (gf_xl X) E 5 μ (by omega)) rfl ⟨rfl, rfl, rfl, rfl⟩ (Nat.le_of_ble_eq_true rfl) rfl dd_Fi_renew_6 (fun r6 m6 hR6 hp6 => ?_)
    refine gf_iret C hQ dd_Fi_renew_9 (by omega) ?_
    exact ⟨fun _ => hp6, fun h => by omega⟩

theorem dd_Fi_refusedPlace_0 : decode cc_Fi_refusedPlace 0 = .ok (.iload_n 1, 1) := by decide +kernel
theorem dd_Fi_refusedPlace_1 : decode cc_Fi_refusedPlace 1 = .ok (.bipush 6, 2) := by decide +kernel
theorem dd_Fi_refusedPlace_3 : decode cc_Fi_refusedPlace 3 = .ok (.invokestatic 78, 3) := by decide +kernel
theorem dd_Fi_refusedPlace_6 : decode cc_Fi_refusedPlace 6 = .ok (.ifCond .ne 5, 3) := by decide +kernel
theorem dd_Fi_refusedPlace_9 : decode cc_Fi_refusedPlace 9 = .ok (.iconst (-1), 1) := by decide +kernel
theorem dd_Fi_refusedPlace_10 : decode cc_Fi_refusedPlace 10 = .ok (.ireturn, 1) := by decide +kernel
theorem dd_Fi_refusedPlace_11 : decode cc_Fi_refusedPlace 11 = .ok (.aload_n 0, 1) := by decide +kernel
theorem dd_Fi_refusedPlace_12 : decode cc_Fi_refusedPlace 12 = .ok (.getfield 11, 3) := by decide +kernel
theorem dd_Fi_refusedPlace_15 : decode cc_Fi_refusedPlace 15 = .ok (.iload_n 1, 1) := by decide +kernel
theorem dd_Fi_refusedPlace_16 : decode cc_Fi_refusedPlace 16 = .ok (.aaload, 1) := by decide +kernel
theorem dd_Fi_refusedPlace_17 : decode cc_Fi_refusedPlace 17 = .ok (.invokevirtual 100, 3) := by decide +kernel
theorem dd_Fi_refusedPlace_20 : decode cc_Fi_refusedPlace 20 = .ok (.ifCond .ne 9, 3) := by decide +kernel
theorem dd_Fi_refusedPlace_23 : decode cc_Fi_refusedPlace 23 = .ok (.aload_n 0, 1) := by decide +kernel
theorem dd_Fi_refusedPlace_24 : decode cc_Fi_refusedPlace 24 = .ok (.iconst 1, 1) := by decide +kernel
theorem dd_Fi_refusedPlace_25 : decode cc_Fi_refusedPlace 25 = .ok (.invokevirtual 104, 3) := by decide +kernel
theorem dd_Fi_refusedPlace_28 : decode cc_Fi_refusedPlace 28 = .ok (.ireturn, 1) := by decide +kernel
theorem dd_Fi_refusedPlace_29 : decode cc_Fi_refusedPlace 29 = .ok (.aload_n 0, 1) := by decide +kernel
theorem dd_Fi_refusedPlace_30 : decode cc_Fi_refusedPlace 30 = .ok (.getfield 11, 3) := by decide +kernel
theorem dd_Fi_refusedPlace_33 : decode cc_Fi_refusedPlace 33 = .ok (.iload_n 1, 1) := by decide +kernel
theorem dd_Fi_refusedPlace_34 : decode cc_Fi_refusedPlace 34 = .ok (.aaload, 1) := by decide +kernel
theorem dd_Fi_refusedPlace_35 : decode cc_Fi_refusedPlace 35 = .ok (.iload_n 2, 1) := by decide +kernel
theorem dd_Fi_refusedPlace_36 : decode cc_Fi_refusedPlace 36 = .ok (.iconst 1, 1) := by decide +kernel
theorem dd_Fi_refusedPlace_37 : decode cc_Fi_refusedPlace 37 = .ok (.invokevirtual 111, 3) := by decide +kernel
theorem dd_Fi_refusedPlace_40 : decode cc_Fi_refusedPlace 40 = .ok (.ifCond .eq 7, 3) := by decide +kernel
theorem dd_Fi_refusedPlace_43 : decode cc_Fi_refusedPlace 43 = .ok (.iconst 0, 1) := by decide +kernel
theorem dd_Fi_refusedPlace_44 : decode cc_Fi_refusedPlace 44 = .ok (.goto 8, 3) := by decide +kernel
theorem dd_Fi_refusedPlace_47 : decode cc_Fi_refusedPlace 47 = .ok (.aload_n 0, 1) := by decide +kernel
theorem dd_Fi_refusedPlace_48 : decode cc_Fi_refusedPlace 48 = .ok (.iconst 2, 1) := by decide +kernel
theorem dd_Fi_refusedPlace_49 : decode cc_Fi_refusedPlace 49 = .ok (.invokevirtual 104, 3) := by decide +kernel
theorem dd_Fi_refusedPlace_52 : decode cc_Fi_refusedPlace 52 = .ok (.ireturn, 1) := by decide +kernel
set_option maxRecDepth 100000 in
set_option maxHeartbeats 4000000 in
theorem ct_Fi_refusedPlace (l : Launch) (E : gf_E) (r i : Int) (μ : gf_M) (hr : gf_R r) (hi : gf_R i) (hrw : ∀ r : Int, 0 ≤ r → r < 6 → -1 ≤ μ (2 + 2 * r) 1 ∧ μ (2 + 2 * r) 1 ≤ 40) : gf_Mi l E yy_Fi_refusedPlace cc_Fi_refusedPlace 3 .int (gf_rm 1 22) 81 gf_ref μ [.ref (gf_ad E 0), .int (gf_i r), .int (gf_i i)] (fun q μ' => (¬ (0 ≤ r ∧ r < 6) → q = -1 ∧ μ' = μ) ∧ (0 ≤ r ∧ r < 6 → (μ (2 + 2 * r) 1 = -1 → q = -3 ∧ μ' = gf_fd μ 1) ∧ (μ (2 + 2 * r) 1 ≠ -1 → (¬ (0 ≤ i ∧ i < μ (2 + 2 * r) 1) → q = -3 ∧ μ' = gf_fd μ 2) ∧ (0 ≤ i ∧ i < μ (2 + 2 * r) 1 → q = 0 ∧ μ' = μ)))) := by
  refine gf_mi (by decide +kernel) (Nat.le_of_ble_eq_true rfl) (by decide) (fun X Q hlx C hQ => ?_)
  subst hlx
  replace C : gf_C X E cc_Fi_refusedPlace 3 "GuardFigures" (gf_rm 1 22) := C
  show gf_G X E Q 3 gf_φ μ 0 [(0, .ref (gf_ad E 0)), (1, .int (gf_i r)), (2, .int (gf_i i))] []
  refine gf_iload_n C dd_Fi_refusedPlace_0 1 rfl ?_
  refine gf_bipush C dd_Fi_refusedPlace_1 (by decide +kernel) ?_
  refine gf_callSi (st := []) (As := [.int (gf_i r), .int (gf_i 6)]) C wk_Fi_78 (ct_Fi_isWithin (gf_xl X) E r 6 μ (by omega) (by omega)) rfl ⟨rfl, rfl, rfl, rfl⟩ (Nat.le_of_ble_eq_true rfl) rfl dd_Fi_refusedPlace_3 (fun r3 m3 hR3 hp3 => ?_)
  have hr3 := hp3.1
  refine gf_pm hp3.2 ?_
  refine gf_if_ne 11 C dd_Fi_refusedPlace_6 (by decide) (by omega) (fun h6 => ?_) (fun h6 => ?_)
  · skip
    have hin : 0 ≤ r ∧ r < 6 := by have := hr3.1; have := hr3.2; omega
    have hrr := hrw r hin.1 hin.2
    refine gf_aload_n C dd_Fi_refusedPlace_11 0 rfl ?_
    refine gf_getA (r := 1) C gf_cl6 fl_Fi_11 dd_Fi_refusedPlace_12 rfl (show gf_is 81 0 0 6 17 by decide) (by decide) (by decide) ?_
    refine gf_iload_n C dd_Fi_refusedPlace_15 1 rfl ?_
    have ha16 := gf_row_of (r := r) (by omega)
    refine gf_aald C dd_Fi_refusedPlace_16 (show gf_is 81 1 4 3 6 by decide) (by decide) (by omega) ha16.1 (by omega) ?_
    refine gf_callVi (st := []) (As := []) C wk_Fi_100 gf_cl3 ha16.2.1 (ct_Ro_isThere (gf_xl X) E (2 + 2 * r) 40 μ ha16.2) rfl ⟨rfl, rfl, rfl, rfl⟩ (Nat.le_of_ble_eq_true rfl) rfl dd_Fi_refusedPlace_17 (fun r17 m17 hR17 hp17 => ?_)
    have hr17 := hp17.1
    refine gf_pm hp17.2 ?_
    refine gf_if_ne 29 C dd_Fi_refusedPlace_20 (by decide) (by omega) (fun h20 => ?_) (fun h20 => ?_)
    · skip
      have hth : μ (2 + 2 * r) 1 ≠ -1 := by have := hr17.1; omega
      refine gf_aload_n C dd_Fi_refusedPlace_29 0 rfl ?_
      refine gf_getA (r := 1) C gf_cl6 fl_Fi_11 dd_Fi_refusedPlace_30 rfl (show gf_is 81 0 0 6 17 by decide) (by decide) (by decide) ?_
      refine gf_iload_n C dd_Fi_refusedPlace_33 1 rfl ?_
      have ha34 := gf_row_of (r := r) (by omega)
      refine gf_aald C dd_Fi_refusedPlace_34 (show gf_is 81 1 4 3 6 by decide) (by decide) (by omega) ha34.1 (by omega) ?_
      refine gf_iload_n C dd_Fi_refusedPlace_35 2 rfl ?_
      refine gf_iconst C dd_Fi_refusedPlace_36 ?_
      refine gf_callVi (st := []) (As := [.int (gf_i i), .int (gf_i 1)]) C wk_Fi_111 gf_cl3 ha34.2.1 (ct_Ro_hasPlaces (gf_xl X) E (2 + 2 * r) 40 μ ha34.2 i 1 (by omega) (by omega) (by omega)) rfl ⟨rfl, rfl, rfl, rfl⟩ (Nat.le_of_ble_eq_true rfl) rfl dd_Fi_refusedPlace_37 (fun r37 m37 hR37 hp37 => ?_)
      have hr37 := hp37.1
      refine gf_pm hp37.2 ?_
      refine gf_if_eq 47 C dd_Fi_refusedPlace_40 (by decide) (by omega) (fun h40 => ?_) (fun h40 => ?_)
      · skip
        have hpl : ¬ (0 ≤ i ∧ i < μ (2 + 2 * r) 1) := by have := hr37.1; omega
        refine gf_aload_n C dd_Fi_refusedPlace_47 0 rfl ?_
        refine gf_iconst C dd_Fi_refusedPlace_48 ?_
        refine gf_callVi (st := []) (As := [.int (gf_i 2)]) C wk_Fi_104 gf_cl6 (show gf_is 81 0 0 6 17 by decide) (ct_Fi_found (gf_xl X) E 2 μ (by omega)) rfl ⟨rfl, rfl, rfl, rfl⟩ (Nat.le_of_ble_eq_true rfl) rfl dd_Fi_refusedPlace_49 (fun r49 m49 hR49 hp49 => ?_)
        refine gf_iret C hQ dd_Fi_refusedPlace_52 (by omega) ?_
        first | exact ⟨fun h => absurd hin h, fun _ => ⟨fun h => absurd h hth, fun _ => ⟨fun _ => hp49, fun h => absurd h hpl⟩⟩⟩ | exact ⟨fun h => absurd hin h, fun _ => ⟨fun h => absurd h hth, fun _ => ⟨fun h => absurd hpl h, fun _ => ⟨rfl, rfl⟩⟩⟩⟩
      · skip
        have hpl : 0 ≤ i ∧ i < μ (2 + 2 * r) 1 := by have := hr37.2; omega
        refine gf_iconst C dd_Fi_refusedPlace_43 ?_
        refine gf_goto 52 C dd_Fi_refusedPlace_44 (by decide) ?_
        refine gf_iret C hQ dd_Fi_refusedPlace_52 (by omega) ?_
        first | exact ⟨fun h => absurd hin h, fun _ => ⟨fun h => absurd h hth, fun _ => ⟨fun _ => hp49, fun h => absurd h hpl⟩⟩⟩ | exact ⟨fun h => absurd hin h, fun _ => ⟨fun h => absurd h hth, fun _ => ⟨fun h => absurd hpl h, fun _ => ⟨rfl, rfl⟩⟩⟩⟩
    · skip
      have hth : μ (2 + 2 * r) 1 = -1 := by have := hr17.2; omega
      refine gf_aload_n C dd_Fi_refusedPlace_23 0 rfl ?_
      refine gf_iconst C dd_Fi_refusedPlace_24 ?_
      refine gf_callVi (st := []) (As := [.int (gf_i 1)]) C wk_Fi_104 gf_cl6 (show gf_is 81 0 0 6 17 by decide) (ct_Fi_found (gf_xl X) E 1 μ (by omega)) rfl ⟨rfl, rfl, rfl, rfl⟩ (Nat.le_of_ble_eq_true rfl) rfl dd_Fi_refusedPlace_25 (fun r25 m25 hR25 hp25 => ?_)
      refine gf_iret C hQ dd_Fi_refusedPlace_28 (by omega) ?_
      exact ⟨fun h => absurd hin h, fun _ => ⟨fun _ => hp25, fun h => absurd hth h⟩⟩
  · skip
    have hin : ¬ (0 ≤ r ∧ r < 6) := by have := hr3.1; have := hr3.2; omega
    refine gf_iconst C dd_Fi_refusedPlace_9 ?_
    refine gf_iret C hQ dd_Fi_refusedPlace_10 (by omega) ?_
    exact ⟨fun _ => ⟨rfl, rfl⟩, fun h => absurd h hin⟩

theorem dd_Fi_asNumber_0 : decode cc_Fi_asNumber 0 = .ok (.iconst 0, 1) := by decide +kernel
theorem dd_Fi_asNumber_1 : decode cc_Fi_asNumber 1 = .ok (.istore_n 2, 1) := by decide +kernel
theorem dd_Fi_asNumber_2 : decode cc_Fi_asNumber 2 = .ok (.iconst 0, 1) := by decide +kernel
theorem dd_Fi_asNumber_3 : decode cc_Fi_asNumber 3 = .ok (.istore_n 3, 1) := by decide +kernel
theorem dd_Fi_asNumber_4 : decode cc_Fi_asNumber 4 = .ok (.iload_n 3, 1) := by decide +kernel
theorem dd_Fi_asNumber_5 : decode cc_Fi_asNumber 5 = .ok (.iload_n 1, 1) := by decide +kernel
theorem dd_Fi_asNumber_6 : decode cc_Fi_asNumber 6 = .ok (.if_icmp .ge 18, 3) := by decide +kernel
theorem dd_Fi_asNumber_9 : decode cc_Fi_asNumber 9 = .ok (.iload_n 2, 1) := by decide +kernel
theorem dd_Fi_asNumber_10 : decode cc_Fi_asNumber 10 = .ok (.bipush 10, 2) := by decide +kernel
theorem dd_Fi_asNumber_12 : decode cc_Fi_asNumber 12 = .ok (.imul, 1) := by decide +kernel
theorem dd_Fi_asNumber_13 : decode cc_Fi_asNumber 13 = .ok (.aload_n 0, 1) := by decide +kernel
theorem dd_Fi_asNumber_14 : decode cc_Fi_asNumber 14 = .ok (.iload_n 3, 1) := by decide +kernel
theorem dd_Fi_asNumber_15 : decode cc_Fi_asNumber 15 = .ok (.iaload, 1) := by decide +kernel
theorem dd_Fi_asNumber_16 : decode cc_Fi_asNumber 16 = .ok (.iadd, 1) := by decide +kernel
theorem dd_Fi_asNumber_17 : decode cc_Fi_asNumber 17 = .ok (.istore_n 2, 1) := by decide +kernel
theorem dd_Fi_asNumber_18 : decode cc_Fi_asNumber 18 = .ok (.iinc 3 1, 3) := by decide +kernel
theorem dd_Fi_asNumber_21 : decode cc_Fi_asNumber 21 = .ok (.goto (-17), 3) := by decide +kernel
theorem dd_Fi_asNumber_24 : decode cc_Fi_asNumber 24 = .ok (.iload_n 2, 1) := by decide +kernel
theorem dd_Fi_asNumber_25 : decode cc_Fi_asNumber 25 = .ok (.ireturn, 1) := by decide +kernel
set_option maxRecDepth 100000 in
set_option maxHeartbeats 4000000 in
theorem ct_Fi_asNumber (l : Launch) (E : gf_E) (a n : Int) (N : Nat) (μ : gf_M) (ha : gf_is 81 a 1 0 N) (hn : 0 ≤ n ∧ n ≤ 8 ∧ n ≤ (N : Int)) (hF : gf_okF μ a n) : gf_Mi l E yy_Fi_asNumber cc_Fi_asNumber 4 .int (gf_rm 0 0) 81 gf_ref μ [.ref (gf_ad E a), .int (gf_i n)] (fun r μ' => (r = pf_num (μ a) n.toNat ∧ 0 ≤ r ∧ r ≤ 100000000) ∧ μ' = μ) := by
  refine gf_mi (by decide +kernel) (Nat.le_of_ble_eq_true rfl) (by decide) (fun X Q hlx C hQ => ?_)
  subst hlx
  replace C : gf_C X E cc_Fi_asNumber 4 "GuardFigures" (gf_rm 0 0) := C
  show gf_G X E Q 4 gf_φ μ 0 [(0, .ref (gf_ad E a)), (1, .int (gf_i n))] []
  refine gf_iconst C dd_Fi_asNumber_0 ?_
  refine gf_istore_n (lv' := [(2, .int (gf_i 0)), (0, .ref (gf_ad E a)), (1, .int (gf_i n))]) C dd_Fi_asNumber_1 (by decide) rfl ?_
  refine gf_iconst C dd_Fi_asNumber_2 ?_
  refine gf_istore_n (lv' := [(3, .int (gf_i 0)), (2, .int (gf_i 0)), (0, .ref (gf_ad E a)), (1, .int (gf_i n))]) C dd_Fi_asNumber_3 (by decide) rfl ?_
  have L4_1 : ∀ (N : Nat) (v i : Int) , (0 ≤ i ∧ i ≤ n ∧ v = pf_num (μ a) i.toNat) → (n - i).toNat < N → gf_G X E Q 4 gf_φ μ 4 [(2, .int (gf_i v)), (3, .int (gf_i i)), (0, .ref (gf_ad E a)), (1, .int (gf_i n))] [] := by
    intro N
    induction N with
    | zero => intro v i hinv hN; exact absurd hN (Nat.not_lt_zero _)
    | succ N ih4_1 =>
      intro v i hinv hN
      have hinv0 := hinv
      obtain ⟨hi0, hi1, hv⟩ := hinv
      have hB := pf_num_R (f := μ a) i.toNat (fun j h0 h1 => hF j h0 (by omega))
      rw [← hv] at hB
      have h10 := pf_10_8 (k := i.toNat) (by omega)
      refine gf_iload_n C dd_Fi_asNumber_4 1 rfl ?_
      refine gf_iload_n C dd_Fi_asNumber_5 3 rfl ?_
      refine gf_icmp_ge 24 C dd_Fi_asNumber_6 (by decide) (by omega) (by omega) (fun h6 => ?_) (fun h6 => ?_)
      · skip
        refine gf_iload_n C dd_Fi_asNumber_24 0 rfl ?_
        refine gf_iret C hQ dd_Fi_asNumber_25 (by omega) ?_
        exact ⟨⟨by rw [hv, show i = n by omega], by omega, by omega⟩, rfl⟩
      · skip
        refine gf_iload_n C dd_Fi_asNumber_9 0 rfl ?_
        refine gf_bipush C dd_Fi_asNumber_10 (by decide +kernel) ?_
        refine gf_imul C dd_Fi_asNumber_12 ?_
        refine gf_aload_n C dd_Fi_asNumber_13 2 rfl ?_
        refine gf_iload_n C dd_Fi_asNumber_14 1 rfl ?_
        refine gf_iald C dd_Fi_asNumber_15 ha (by omega) (fun hv15 => ?_)
        refine gf_iadd C dd_Fi_asNumber_16 ?_
        refine gf_nm (fun x17 hx17 => ?_)
        refine gf_istore_n (lv' := [(2, .int (gf_i x17)), (3, .int (gf_i i)), (0, .ref (gf_ad E a)), (1, .int (gf_i n))]) C dd_Fi_asNumber_17 (by decide) rfl ?_
        obtain ⟨x18, hx18⟩ : ∃ y : Int, y = i + 1 := ⟨_, rfl⟩
        refine gf_iinc (q := 1) (v := x18) (lv' := [(3, .int (gf_i x18)), (2, .int (gf_i x17)), (0, .ref (gf_ad E a)), (1, .int (gf_i n))]) C dd_Fi_asNumber_18 rfl hx18 (by decide) rfl ?_
        refine gf_goto 4 C dd_Fi_asNumber_21 (by decide) ?_
        refine gf_lsub [1, 0, 2, 3] rfl ?_
        exact ih4_1 x17 x18 (by
                refine ⟨by omega, by omega, ?_⟩
                rw [hx17, hx18, show (i + 1).toNat = i.toNat + 1 by omega, hv]
                show _ = pf_num _ _ * 10 + μ a ((i.toNat : Nat) : Int)
                rw [show ((i.toNat : Nat) : Int) = i by omega]) (by omega)
  refine gf_lsub [1, 0, 2, 3] rfl ?_
  exact L4_1 _ 0 0 (⟨by omega, by omega, rfl⟩) (Nat.lt_succ_self _)

theorem dd_Fi_reckoned_0 : decode cc_Fi_reckoned 0 = .ok (.aload_n 1, 1) := by decide +kernel
theorem dd_Fi_reckoned_1 : decode cc_Fi_reckoned 1 = .ok (.aload_n 0, 1) := by decide +kernel
theorem dd_Fi_reckoned_2 : decode cc_Fi_reckoned 2 = .ok (.getfield 35, 3) := by decide +kernel
theorem dd_Fi_reckoned_5 : decode cc_Fi_reckoned 5 = .ok (.getfield 169, 3) := by decide +kernel
theorem dd_Fi_reckoned_8 : decode cc_Fi_reckoned 8 = .ok (.aload_n 0, 1) := by decide +kernel
theorem dd_Fi_reckoned_9 : decode cc_Fi_reckoned 9 = .ok (.getfield 35, 3) := by decide +kernel
theorem dd_Fi_reckoned_12 : decode cc_Fi_reckoned 12 = .ok (.getfield 168, 3) := by decide +kernel
theorem dd_Fi_reckoned_15 : decode cc_Fi_reckoned 15 = .ok (.invokevirtual 314, 3) := by decide +kernel
theorem dd_Fi_reckoned_18 : decode cc_Fi_reckoned 18 = .ok (.ireturn, 1) := by decide +kernel
set_option maxRecDepth 100000 in
set_option maxHeartbeats 4000000 in
theorem ct_Fi_reckoned (l : Launch) (E : gf_E) (g : Int) (μ : gf_M) (hg : gf_oGd g) (hG : gf_okG μ g) (hs : 0 ≤ μ 41 1 ∧ μ 41 1 ≤ 8) (hF : gf_okF μ 42 (μ 41 1)) : gf_Mi l E yy_Fi_reckoned cc_Fi_reckoned 2 .int (gf_rm 3 69) 81 gf_ref μ [.ref (gf_ad E 0), .ref (gf_ad E g)] (fun r μ' => (r = pf_reck (μ g 0) (μ g 1) (μ g 2) (μ 42) (μ 41 1) ∧ 0 ≤ r ∧ r ≤ 10) ∧ μ' = μ) := by
  refine gf_mi (by decide +kernel) (Nat.le_of_ble_eq_true rfl) (by decide) (fun X Q hlx C hQ => ?_)
  subst hlx
  replace C : gf_C X E cc_Fi_reckoned 2 "GuardFigures" (gf_rm 3 69) := C
  show gf_G X E Q 2 gf_φ μ 0 [(0, .ref (gf_ad E 0)), (1, .ref (gf_ad E g))] []
  refine gf_aload_n C dd_Fi_reckoned_0 1 rfl ?_
  refine gf_aload_n C dd_Fi_reckoned_1 0 rfl ?_
  refine gf_getA (r := 41) C gf_cl6 fl_Fi_35 dd_Fi_reckoned_2 rfl (show gf_is 81 0 0 6 17 by decide) (by decide) (by decide) ?_
  refine gf_getA (r := 42) C gf_cl5 fl_Fi_169 dd_Fi_reckoned_5 rfl (show gf_is 81 41 0 5 5 by decide) (by decide) (by decide) ?_
  refine gf_aload_n C dd_Fi_reckoned_8 0 rfl ?_
  refine gf_getA (r := 41) C gf_cl6 fl_Fi_35 dd_Fi_reckoned_9 rfl (show gf_is 81 0 0 6 17 by decide) (by decide) (by decide) ?_
  refine gf_getI (z := 1) C gf_cl5 fl_Fi_168 dd_Fi_reckoned_12 rfl rfl (show gf_is 81 41 0 5 5 by decide) (fun hv12 => ?_)
  refine gf_callVi (st := []) (As := [.ref (gf_ad E 42), .int (gf_i (μ 41 1))]) C wk_Fi_314 gf_cl0 hg (ct_Gd_reckon (gf_xl X) E g 42 (μ 41 1) 8 μ hg (hG) ((show gf_is 81 42 1 0 8 by decide)) (by omega) (hF)) rfl ⟨rfl, rfl, rfl, rfl⟩ (Nat.le_of_ble_eq_true rfl) rfl dd_Fi_reckoned_15 (fun r15 m15 hR15 hp15 => ?_)
  have hr15 := hp15.1
  refine gf_pm hp15.2 ?_
  refine gf_iret C hQ dd_Fi_reckoned_18 (by omega) ?_
  exact ⟨hr15, rfl⟩
