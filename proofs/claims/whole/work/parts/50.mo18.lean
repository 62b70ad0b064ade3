/-! the reference: chances and means over all copies -/
def gm_bit (z k : Int) : Int := gf_and (gf_shr z k) 1
def gm_prt (p z : Int) : Nat → Int
  | 0 => 1
  | k + 1 => gm_prt p z k * (if gm_bit z k = 1 then p else 12 - p)
def gm_cy (x : Int → Int) (z : Int) : Int → Int := fun j => (x j + gm_bit z j) % 10
def gm_W (μ : gf_M) (i p me z : Int) : Int := if me ≠ 0 then gm_prt p z (μ 71 1).toNat * gm_rk μ i (gm_cy (gm_x μ) z) (μ 71 1) else if z ≠ 0 ∧ gm_rk μ i (gm_cy (gm_x μ) z) (μ 71 1) = gm_rk μ i (gm_x μ) (μ 71 1) then gm_prt p z (μ 71 1).toNat else 0
theorem gm_prt_R {p z : Int} (hp : 0 ≤ p ∧ p ≤ 12) : ∀ k : Nat, 0 ≤ gm_prt p z k ∧ gm_prt p z k ≤ 12 ^ k
  | 0 => by simp [gm_prt]
  | k + 1 => by
    have ih := gm_prt_R (z := z) hp k
    have h2 : 0 ≤ (if gm_bit z k = 1 then p else 12 - p) ∧ (if gm_bit z k = 1 then p else 12 - p) ≤ 12 := by split <;> omega
    have := pf_mulb ih h2
    unfold gm_prt
    rw [Int.pow_succ]
    exact this
theorem pf_12_9 {n : Nat} (h : n < 9) : (1 : Int) ≤ 12 ^ n ∧ (12 : Int) ^ n ≤ 429981696 := (show ∀ n : Nat, n < 9 → (1 : Int) ≤ 12 ^ n ∧ (12 : Int) ^ n ≤ 429981696 by decide) n h
theorem gm_W_R {μ : gf_M} {i p me z : Int} (hp : 0 ≤ p ∧ p ≤ 12) (hn : 0 ≤ μ 71 1 ∧ μ 71 1 ≤ 8) : 0 ≤ gm_W μ i p me z ∧ gm_W μ i p me z ≤ 4299816960 := by
  have h1 := gm_prt_R (z := z) hp (μ 71 1).toNat
  have h2 := pf_12_9 (n := (μ 71 1).toNat) (by omega)
  have h3 : 0 ≤ gm_rk μ i (gm_cy (gm_x μ) z) (μ 71 1) ∧ gm_rk μ i (gm_cy (gm_x μ) z) (μ 71 1) ≤ 10 := pf_reck_R _ _ _ _ _
  have h4 := pf_mulb (A := 429981696) (B := 10) ⟨h1.1, by omega⟩ h3
  unfold gm_W
  split
  · omega
  · split <;> omega
def gm_sh2 (μ : gf_M) (h : Int) : gf_M := gf_up (gf_up μ 65 5 (h / (Int.gcd h (12 ^ (μ 71 1).toNat) : Int))) 65 6 (12 ^ (μ 71 1).toNat / (Int.gcd h (12 ^ (μ 71 1).toNat) : Int))
theorem gm_sh2_sc {μ m μ' : gf_M} {h : Int} (hm : gm_sc m μ) (hμ : μ' = gm_sh2 m h) : gm_sc μ' (gm_sh2 μ h) := by
  intro a b hab
  rw [hμ]
  unfold gm_sh2
  rw [gm_sc_71 hm]
  by_cases e : a = 65 ∧ b = 6
  · rw [e.1, e.2, gf_up_s, gf_up_s]
  · rw [gf_up_o e, gf_up_o e]
    by_cases e2 : a = 65 ∧ b = 5
    · rw [e2.1, e2.2, gf_up_s, gf_up_s]
    · rw [gf_up_o e2, gf_up_o e2]; exact hm a b hab
theorem pf_28 {n : Nat} (h : n < 9) : (1 : Int) ≤ 2 ^ n ∧ (2 : Int) ^ n ≤ 256 := (show ∀ n : Nat, n < 9 → (1 : Int) ≤ 2 ^ n ∧ (2 : Int) ^ n ≤ 256 by decide) n h
theorem dd_Mo_tellShare_0 : decode cc_Mo_tellShare 0 = .ok (.lload_n 1, 1) := by decide +kernel
theorem dd_Mo_tellShare_1 : decode cc_Mo_tellShare 1 = .ok (.lstore 5, 2) := by decide +kernel
theorem dd_Mo_tellShare_3 : decode cc_Mo_tellShare 3 = .ok (.lload_n 3, 1) := by decide +kernel
theorem dd_Mo_tellShare_4 : decode cc_Mo_tellShare 4 = .ok (.lstore 7, 2) := by decide +kernel
theorem dd_Mo_tellShare_6 : decode cc_Mo_tellShare 6 = .ok (.lload 7, 2) := by decide +kernel
theorem dd_Mo_tellShare_8 : decode cc_Mo_tellShare 8 = .ok (.lconst 0, 1) := by decide +kernel
theorem dd_Mo_tellShare_9 : decode cc_Mo_tellShare 9 = .ok (.lcmp, 1) := by decide +kernel
theorem dd_Mo_tellShare_10 : decode cc_Mo_tellShare 10 = .ok (.ifCond .eq 21, 3) := by decide +kernel
theorem dd_Mo_tellShare_13 : decode cc_Mo_tellShare 13 = .ok (.lload 5, 2) := by decide +kernel
theorem dd_Mo_tellShare_15 : decode cc_Mo_tellShare 15 = .ok (.lload 7, 2) := by decide +kernel
theorem dd_Mo_tellShare_17 : decode cc_Mo_tellShare 17 = .ok (.lrem, 1) := by decide +kernel
theorem dd_Mo_tellShare_18 : decode cc_Mo_tellShare 18 = .ok (.lstore 9, 2) := by decide +kernel
theorem dd_Mo_tellShare_20 : decode cc_Mo_tellShare 20 = .ok (.lload 7, 2) := by decide +kernel
theorem dd_Mo_tellShare_22 : decode cc_Mo_tellShare 22 = .ok (.lstore 5, 2) := by decide +kernel
theorem dd_Mo_tellShare_24 : decode cc_Mo_tellShare 24 = .ok (.lload 9, 2) := by decide +kernel
theorem dd_Mo_tellShare_26 : decode cc_Mo_tellShare 26 = .ok (.lstore 7, 2) := by decide +kernel
theorem dd_Mo_tellShare_28 : decode cc_Mo_tellShare 28 = .ok (.goto (-22), 3) := by decide +kernel
theorem dd_Mo_tellShare_31 : decode cc_Mo_tellShare 31 = .ok (.aload_n 0, 1) := by decide +kernel
theorem dd_Mo_tellShare_32 : decode cc_Mo_tellShare 32 = .ok (.lload_n 1, 1) := by decide +kernel
theorem dd_Mo_tellShare_33 : decode cc_Mo_tellShare 33 = .ok (.lload 5, 2) := by decide +kernel
theorem dd_Mo_tellShare_35 : decode cc_Mo_tellShare 35 = .ok (.ldiv, 1) := by decide +kernel
theorem dd_Mo_tellShare_36 : decode cc_Mo_tellShare 36 = .ok (.putfield 253, 3) := by decide +kernel
theorem dd_Mo_tellShare_39 : decode cc_Mo_tellShare 39 = .ok (.aload_n 0, 1) := by decide +kernel
theorem dd_Mo_tellShare_40 : decode cc_Mo_tellShare 40 = .ok (.lload_n 3, 1) := by decide +kernel
theorem dd_Mo_tellShare_41 : decode cc_Mo_tellShare 41 = .ok (.lload 5, 2) := by decide +kernel
theorem dd_Mo_tellShare_43 : decode cc_Mo_tellShare 43 = .ok (.ldiv, 1) := by decide +kernel
theorem dd_Mo_tellShare_44 : decode cc_Mo_tellShare 44 = .ok (.putfield 23, 3) := by decide +kernel
theorem dd_Mo_tellShare_47 : decode cc_Mo_tellShare 47 = .ok (.iconst 1, 1) := by decide +kernel
theorem dd_Mo_tellShare_48 : decode cc_Mo_tellShare 48 = .ok (.ireturn, 1) := by decide +kernel
set_option maxRecDepth 100000 in
set_option maxHeartbeats 4000000 in
theorem ct_Mo_tellShare (l : Launch) (E : gf_E) (a b : Int) (μ : gf_M) (ha : 0 ≤ a ∧ a ≤ 2000000000000) (hb : 0 < b ∧ b ≤ 429981696) : gf_Mi l E yy_Mo_tellShare cc_Mo_tellShare 11 .int (gf_rm 0 0) 81 gf_ref μ [.ref (gf_ad E 65), .long (gf_l a), .long (gf_l b)] (fun q μ' => q = 1 ∧ μ' = gf_up (gf_up μ 65 5 (a / (Int.gcd a b : Int))) 65 6 (b / (Int.gcd a b : Int))) := by
  refine gf_mi (by decide +kernel) (Nat.le_of_ble_eq_true rfl) (by decide) (fun X Q hlx C hQ => ?_)
  subst hlx
  replace C : gf_C X E cc_Mo_tellShare 11 "GuardFiguresModel" (gf_rm 0 0) := C
  show gf_G X E Q 11 gf_φ μ 0 [(0, .ref (gf_ad E 65)), (1, .long (gf_l a)), (3, .long (gf_l b))] []
  refine gf_lload_n C dd_Mo_tellShare_0 1 rfl ?_
  refine gf_lstore (lv' := [(5, .long (gf_l a)), (0, .ref (gf_ad E 65)), (1, .long (gf_l a)), (3, .long (gf_l b))]) C dd_Mo_tellShare_1 (by decide) rfl ?_
  refine gf_lload_n C dd_Mo_tellShare_3 3 rfl ?_
  refine gf_lstore (lv' := [(7, .long (gf_l b)), (5, .long (gf_l a)), (0, .ref (gf_ad E 65)), (1, .long (gf_l a)), (3, .long (gf_l b))]) C dd_Mo_tellShare_4 (by decide) rfl ?_
  have L6_1 : ∀ (N : Nat) (x y : Int) , (0 ≤ x ∧ x ≤ 2000000000000 ∧ 0 ≤ y ∧ y ≤ 2000000000000 ∧ (0 < x ∨ 0 < y) ∧ (Int.gcd x y : Int) = (Int.gcd a b : Int)) → y.toNat < N → gf_G X E Q 11 gf_φ μ 6 [(5, .long (gf_l x)), (7, .long (gf_l y)), (0, .ref (gf_ad E 65)), (1, .long (gf_l a)), (3, .long (gf_l b))] [] := by
    intro N
    induction N with
    | zero => intro x y hinv hN; exact absurd hN (Nat.not_lt_zero _)
    | succ N ih6_1 =>
      intro x y hinv hN
      have hinv0 := hinv
      obtain ⟨hx0, hx1, hy0, hy1, hxy, hg⟩ := hinv
      refine gf_lload C dd_Mo_tellShare_6 1 rfl ?_
      refine gf_lconst 0 C dd_Mo_tellShare_8 (by decide +kernel) ?_
      refine gf_lcmp C dd_Mo_tellShare_9 (by omega) (by omega) (fun c9 hc9a hc9b hc9c => ?_)
      refine gf_if_eq 31 C dd_Mo_tellShare_10 (by decide) (by omega) (fun h10 => ?_) (fun h10 => ?_)
      · skip
        refine gf_aload_n C dd_Mo_tellShare_31 2 rfl ?_
        refine gf_lload_n C dd_Mo_tellShare_32 3 rfl ?_
        refine gf_lload C dd_Mo_tellShare_33 0 rfl ?_
        refine gf_ldiv C dd_Mo_tellShare_35 (by omega) ?_
        refine gf_putL (z := 5) C gf_cl7 fl_Mo_253 dd_Mo_tellShare_36 rfl rfl rfl (by decide +kernel) (show gf_is 81 65 0 7 26 by decide) (by rw [Int.tdiv_eq_ediv_of_nonneg (by omega)]; have h1 := Int.ediv_le_self (a := a) x (show 0 ≤ a by omega); have h2 : 0 ≤ a / x := Int.ediv_nonneg (by omega) (by omega); omega) ?_
        refine gf_nmM (fun m36 hm36 => ?_)
        refine gf_aload_n C dd_Mo_tellShare_39 2 rfl ?_
        refine gf_lload_n C dd_Mo_tellShare_40 4 rfl ?_
        refine gf_lload C dd_Mo_tellShare_41 0 rfl ?_
        refine gf_ldiv C dd_Mo_tellShare_43 (by omega) ?_
        refine gf_putL (z := 6) C gf_cl7 fl_Mo_23 dd_Mo_tellShare_44 rfl rfl rfl (by decide +kernel) (show gf_is 81 65 0 7 26 by decide) (by rw [Int.tdiv_eq_ediv_of_nonneg (by omega)]; have h1 := Int.ediv_le_self (a := b) x (show 0 ≤ b by omega); have h2 : 0 ≤ b / x := Int.ediv_nonneg (by omega) (by omega); omega) ?_
        refine gf_nmM (fun m44 hm44 => ?_)
        refine gf_iconst C dd_Mo_tellShare_47 ?_
        refine gf_iret C hQ dd_Mo_tellShare_48 (by omega) ?_
        have hy0' : y = 0 := by omega
        rw [hy0', Int.gcd_zero_right] at hg
        have hgx : x = (Int.gcd a b : Int) := by rw [← hg]; omega
        refine ⟨rfl, ?_⟩
        rw [hm44, hm36, Int.tdiv_eq_ediv_of_nonneg ha.1, Int.tdiv_eq_ediv_of_nonneg (by omega), ← hgx]
      · skip
        refine gf_lload C dd_Mo_tellShare_13 0 rfl ?_
        refine gf_lload C dd_Mo_tellShare_15 1 rfl ?_
        refine gf_lrem C dd_Mo_tellShare_17 (by omega) ?_
        refine gf_nml (fun x18 hx18 => ?_)
        refine gf_lstore (lv' := [(9, .long (gf_l x18)), (5, .long (gf_l x)), (7, .long (gf_l y)), (0, .ref (gf_ad E 65)), (1, .long (gf_l a)), (3, .long (gf_l b))]) C dd_Mo_tellShare_18 (by decide) rfl ?_
        refine gf_lload C dd_Mo_tellShare_20 2 rfl ?_
        refine gf_lstore (lv' := [(5, .long (gf_l y)), (9, .long (gf_l x18)), (7, .long (gf_l y)), (0, .ref (gf_ad E 65)), (1, .long (gf_l a)), (3, .long (gf_l b))]) C dd_Mo_tellShare_22 (by decide) rfl ?_
        refine gf_lload C dd_Mo_tellShare_24 1 rfl ?_
        refine gf_lstore (lv' := [(7, .long (gf_l x18)), (5, .long (gf_l y)), (9, .long (gf_l x18)), (0, .ref (gf_ad E 65)), (1, .long (gf_l a)), (3, .long (gf_l b))]) C dd_Mo_tellShare_26 (by decide) rfl ?_
        refine gf_goto 6 C dd_Mo_tellShare_28 (by decide) ?_
        refine gf_lsub [1, 0, 3, 4, 5] rfl ?_
        exact ih6_1 y x18 (by
                have h1 := Int.emod_nonneg x (show y ≠ 0 by omega)
                have h2 := Int.emod_lt_of_pos x (show 0 < y by omega)
                refine ⟨by omega, by omega, by omega, by omega, by omega, ?_⟩
                rw [← hg, hx18, pf_gcd_step (by omega) (by omega)]) (by
                have h1 := Int.emod_nonneg x (show y ≠ 0 by omega)
                have h2 := Int.emod_lt_of_pos x (show 0 < y by omega)
                omega)
  refine gf_lsub [1, 0, 2, 3, 4] rfl ?_
  exact L6_1 _ a b (⟨by omega, by omega, by omega, by omega, by omega, rfl⟩) (Nat.lt_succ_self _)

theorem dd_Mo_weigh_0 : decode cc_Mo_weigh 0 = .ok (.aload_n 0, 1) := by decide +kernel
theorem dd_Mo_weigh_1 : decode cc_Mo_weigh 1 = .ok (.iload_n 1, 1) := by decide +kernel
theorem dd_Mo_weigh_2 : decode cc_Mo_weigh 2 = .ok (.invokevirtual 183, 3) := by decide +kernel
theorem dd_Mo_weigh_5 : decode cc_Mo_weigh 5 = .ok (.ifCond .eq 15, 3) := by decide +kernel
theorem dd_Mo_weigh_8 : decode cc_Mo_weigh 8 = .ok (.iload_n 2, 1) := by decide +kernel
theorem dd_Mo_weigh_9 : decode cc_Mo_weigh 9 = .ok (.i2l, 1) := by decide +kernel
theorem dd_Mo_weigh_10 : decode cc_Mo_weigh 10 = .ok (.lconst 0, 1) := by decide +kernel
theorem dd_Mo_weigh_11 : decode cc_Mo_weigh 11 = .ok (.ldc2_w 256, 3) := by decide +kernel
theorem dd_Mo_weigh_14 : decode cc_Mo_weigh 14 = .ok (.invokestatic 69, 3) := by decide +kernel
theorem dd_Mo_weigh_17 : decode cc_Mo_weigh 17 = .ok (.ifCond .ne 5, 3) := by decide +kernel
theorem dd_Mo_weigh_20 : decode cc_Mo_weigh 20 = .ok (.iconst (-1), 1) := by decide +kernel
theorem dd_Mo_weigh_21 : decode cc_Mo_weigh 21 = .ok (.ireturn, 1) := by decide +kernel
theorem dd_Mo_weigh_22 : decode cc_Mo_weigh 22 = .ok (.aload_n 0, 1) := by decide +kernel
theorem dd_Mo_weigh_23 : decode cc_Mo_weigh 23 = .ok (.iload_n 1, 1) := by decide +kernel
theorem dd_Mo_weigh_24 : decode cc_Mo_weigh 24 = .ok (.invokevirtual 162, 3) := by decide +kernel
theorem dd_Mo_weigh_27 : decode cc_Mo_weigh 27 = .ok (.istore 4, 2) := by decide +kernel
theorem dd_Mo_weigh_29 : decode cc_Mo_weigh 29 = .ok (.lconst 0, 1) := by decide +kernel
theorem dd_Mo_weigh_30 : decode cc_Mo_weigh 30 = .ok (.lstore 5, 2) := by decide +kernel
theorem dd_Mo_weigh_32 : decode cc_Mo_weigh 32 = .ok (.lconst 1, 1) := by decide +kernel
theorem dd_Mo_weigh_33 : decode cc_Mo_weigh 33 = .ok (.lstore 7, 2) := by decide +kernel
theorem dd_Mo_weigh_35 : decode cc_Mo_weigh 35 = .ok (.iconst 0, 1) := by decide +kernel
theorem dd_Mo_weigh_36 : decode cc_Mo_weigh 36 = .ok (.istore 9, 2) := by decide +kernel
theorem dd_Mo_weigh_38 : decode cc_Mo_weigh 38 = .ok (.iload 9, 2) := by decide +kernel
theorem dd_Mo_weigh_40 : decode cc_Mo_weigh 40 = .ok (.aload_n 0, 1) := by decide +kernel
theorem dd_Mo_weigh_41 : decode cc_Mo_weigh 41 = .ok (.getfield 146, 3) := by decide +kernel
theorem dd_Mo_weigh_44 : decode cc_Mo_weigh 44 = .ok (.if_icmp .ge 17, 3) := by decide +kernel
theorem dd_Mo_weigh_47 : decode cc_Mo_weigh 47 = .ok (.lload 7, 2) := by decide +kernel
theorem dd_Mo_weigh_49 : decode cc_Mo_weigh 49 = .ok (.ldc2_w 256, 3) := by decide +kernel
theorem dd_Mo_weigh_52 : decode cc_Mo_weigh 52 = .ok (.lmul, 1) := by decide +kernel
theorem dd_Mo_weigh_53 : decode cc_Mo_weigh 53 = .ok (.lstore 7, 2) := by decide +kernel
theorem dd_Mo_weigh_55 : decode cc_Mo_weigh 55 = .ok (.iinc 9 1, 3) := by decide +kernel
theorem dd_Mo_weigh_58 : decode cc_Mo_weigh 58 = .ok (.goto (-20), 3) := by decide +kernel
theorem dd_Mo_weigh_61 : decode cc_Mo_weigh 61 = .ok (.iconst 0, 1) := by decide +kernel
theorem dd_Mo_weigh_62 : decode cc_Mo_weigh 62 = .ok (.istore 9, 2) := by decide +kernel
theorem dd_Mo_weigh_64 : decode cc_Mo_weigh 64 = .ok (.iload 9, 2) := by decide +kernel
theorem dd_Mo_weigh_66 : decode cc_Mo_weigh 66 = .ok (.iconst 1, 1) := by decide +kernel
theorem dd_Mo_weigh_67 : decode cc_Mo_weigh 67 = .ok (.aload_n 0, 1) := by decide +kernel
theorem dd_Mo_weigh_68 : decode cc_Mo_weigh 68 = .ok (.getfield 146, 3) := by decide +kernel
theorem dd_Mo_weigh_71 : decode cc_Mo_weigh 71 = .ok (.ishl, 1) := by decide +kernel
theorem dd_Mo_weigh_72 : decode cc_Mo_weigh 72 = .ok (.if_icmp .ge 134, 3) := by decide +kernel
theorem dd_Mo_weigh_75 : decode cc_Mo_weigh 75 = .ok (.lconst 1, 1) := by decide +kernel
theorem dd_Mo_weigh_76 : decode cc_Mo_weigh 76 = .ok (.lstore 10, 2) := by decide +kernel
theorem dd_Mo_weigh_78 : decode cc_Mo_weigh 78 = .ok (.iconst 0, 1) := by decide +kernel
theorem dd_Mo_weigh_79 : decode cc_Mo_weigh 79 = .ok (.istore 12, 2) := by decide +kernel
theorem dd_Mo_weigh_81 : decode cc_Mo_weigh 81 = .ok (.iload 12, 2) := by decide +kernel
theorem dd_Mo_weigh_83 : decode cc_Mo_weigh 83 = .ok (.aload_n 0, 1) := by decide +kernel
theorem dd_Mo_weigh_84 : decode cc_Mo_weigh 84 = .ok (.getfield 146, 3) := by decide +kernel
theorem dd_Mo_weigh_87 : decode cc_Mo_weigh 87 = .ok (.if_icmp .ge 62, 3) := by decide +kernel
theorem dd_Mo_weigh_90 : decode cc_Mo_weigh 90 = .ok (.iload 9, 2) := by decide +kernel
theorem dd_Mo_weigh_92 : decode cc_Mo_weigh 92 = .ok (.iload 12, 2) := by decide +kernel
theorem dd_Mo_weigh_94 : decode cc_Mo_weigh 94 = .ok (.ishr, 1) := by decide +kernel
theorem dd_Mo_weigh_95 : decode cc_Mo_weigh 95 = .ok (.iconst 1, 1) := by decide +kernel
theorem dd_Mo_weigh_96 : decode cc_Mo_weigh 96 = .ok (.iand, 1) := by decide +kernel
theorem dd_Mo_weigh_97 : decode cc_Mo_weigh 97 = .ok (.istore 13, 2) := by decide +kernel
theorem dd_Mo_weigh_99 : decode cc_Mo_weigh 99 = .ok (.lload 10, 2) := by decide +kernel
theorem dd_Mo_weigh_101 : decode cc_Mo_weigh 101 = .ok (.iload 13, 2) := by decide +kernel
theorem dd_Mo_weigh_103 : decode cc_Mo_weigh 103 = .ok (.iconst 1, 1) := by decide +kernel
theorem dd_Mo_weigh_104 : decode cc_Mo_weigh 104 = .ok (.if_icmp .ne 8, 3) := by decide +kernel
theorem dd_Mo_weigh_107 : decode cc_Mo_weigh 107 = .ok (.iload_n 2, 1) := by decide +kernel
theorem dd_Mo_weigh_108 : decode cc_Mo_weigh 108 = .ok (.i2l, 1) := by decide +kernel
theorem dd_Mo_weigh_109 : decode cc_Mo_weigh 109 = .ok (.goto 8, 3) := by decide +kernel
theorem dd_Mo_weigh_112 : decode cc_Mo_weigh 112 = .ok (.bipush 12, 2) := by decide +kernel
theorem dd_Mo_weigh_114 : decode cc_Mo_weigh 114 = .ok (.iload_n 2, 1) := by decide +kernel
theorem dd_Mo_weigh_115 : decode cc_Mo_weigh 115 = .ok (.isub, 1) := by decide +kernel
theorem dd_Mo_weigh_116 : decode cc_Mo_weigh 116 = .ok (.i2l, 1) := by decide +kernel
theorem dd_Mo_weigh_117 : decode cc_Mo_weigh 117 = .ok (.lmul, 1) := by decide +kernel
theorem dd_Mo_weigh_118 : decode cc_Mo_weigh 118 = .ok (.lstore 10, 2) := by decide +kernel
theorem dd_Mo_weigh_120 : decode cc_Mo_weigh 120 = .ok (.aload_n 0, 1) := by decide +kernel
theorem dd_Mo_weigh_121 : decode cc_Mo_weigh 121 = .ok (.getfield 36, 3) := by decide +kernel
theorem dd_Mo_weigh_124 : decode cc_Mo_weigh 124 = .ok (.iload 12, 2) := by decide +kernel
theorem dd_Mo_weigh_126 : decode cc_Mo_weigh 126 = .ok (.aload_n 0, 1) := by decide +kernel
theorem dd_Mo_weigh_127 : decode cc_Mo_weigh 127 = .ok (.getfield 30, 3) := by decide +kernel
theorem dd_Mo_weigh_130 : decode cc_Mo_weigh 130 = .ok (.bipush 24, 2) := by decide +kernel
theorem dd_Mo_weigh_132 : decode cc_Mo_weigh 132 = .ok (.iload 12, 2) := by decide +kernel
theorem dd_Mo_weigh_134 : decode cc_Mo_weigh 134 = .ok (.iadd, 1) := by decide +kernel
theorem dd_Mo_weigh_135 : decode cc_Mo_weigh 135 = .ok (.iaload, 1) := by decide +kernel
theorem dd_Mo_weigh_136 : decode cc_Mo_weigh 136 = .ok (.iload 13, 2) := by decide +kernel
theorem dd_Mo_weigh_138 : decode cc_Mo_weigh 138 = .ok (.iadd, 1) := by decide +kernel
theorem dd_Mo_weigh_139 : decode cc_Mo_weigh 139 = .ok (.bipush 10, 2) := by decide +kernel
theorem dd_Mo_weigh_141 : decode cc_Mo_weigh 141 = .ok (.irem, 1) := by decide +kernel
theorem dd_Mo_weigh_142 : decode cc_Mo_weigh 142 = .ok (.iastore, 1) := by decide +kernel
theorem dd_Mo_weigh_143 : decode cc_Mo_weigh 143 = .ok (.iinc 12 1, 3) := by decide +kernel
theorem dd_Mo_weigh_146 : decode cc_Mo_weigh 146 = .ok (.goto (-65), 3) := by decide +kernel
theorem dd_Mo_weigh_149 : decode cc_Mo_weigh 149 = .ok (.aload_n 0, 1) := by decide +kernel
theorem dd_Mo_weigh_150 : decode cc_Mo_weigh 150 = .ok (.iload_n 1, 1) := by decide +kernel
theorem dd_Mo_weigh_151 : decode cc_Mo_weigh 151 = .ok (.aload_n 0, 1) := by decide +kernel
theorem dd_Mo_weigh_152 : decode cc_Mo_weigh 152 = .ok (.getfield 36, 3) := by decide +kernel
theorem dd_Mo_weigh_155 : decode cc_Mo_weigh 155 = .ok (.aload_n 0, 1) := by decide +kernel
theorem dd_Mo_weigh_156 : decode cc_Mo_weigh 156 = .ok (.getfield 146, 3) := by decide +kernel
theorem dd_Mo_weigh_159 : decode cc_Mo_weigh 159 = .ok (.invokevirtual 152, 3) := by decide +kernel
theorem dd_Mo_weigh_162 : decode cc_Mo_weigh 162 = .ok (.istore 12, 2) := by decide +kernel
theorem dd_Mo_weigh_164 : decode cc_Mo_weigh 164 = .ok (.lload 5, 2) := by decide +kernel
theorem dd_Mo_weigh_166 : decode cc_Mo_weigh 166 = .ok (.iload_n 3, 1) := by decide +kernel
theorem dd_Mo_weigh_167 : decode cc_Mo_weigh 167 = .ok (.ifCond .eq 12, 3) := by decide +kernel
theorem dd_Mo_weigh_170 : decode cc_Mo_weigh 170 = .ok (.lload 10, 2) := by decide +kernel
theorem dd_Mo_weigh_172 : decode cc_Mo_weigh 172 = .ok (.iload 12, 2) := by decide +kernel
theorem dd_Mo_weigh_174 : decode cc_Mo_weigh 174 = .ok (.i2l, 1) := by decide +kernel
theorem dd_Mo_weigh_175 : decode cc_Mo_weigh 175 = .ok (.lmul, 1) := by decide +kernel
theorem dd_Mo_weigh_176 : decode cc_Mo_weigh 176 = .ok (.goto 21, 3) := by decide +kernel
theorem dd_Mo_weigh_179 : decode cc_Mo_weigh 179 = .ok (.iload 9, 2) := by decide +kernel
theorem dd_Mo_weigh_181 : decode cc_Mo_weigh 181 = .ok (.ifCond .eq 15, 3) := by decide +kernel
theorem dd_Mo_weigh_184 : decode cc_Mo_weigh 184 = .ok (.iload 12, 2) := by decide +kernel
theorem dd_Mo_weigh_186 : decode cc_Mo_weigh 186 = .ok (.iload 4, 2) := by decide +kernel
theorem dd_Mo_weigh_188 : decode cc_Mo_weigh 188 = .ok (.if_icmp .ne 8, 3) := by decide +kernel
theorem dd_Mo_weigh_191 : decode cc_Mo_weigh 191 = .ok (.lload 10, 2) := by decide +kernel
theorem dd_Mo_weigh_193 : decode cc_Mo_weigh 193 = .ok (.goto 4, 3) := by decide +kernel
theorem dd_Mo_weigh_196 : decode cc_Mo_weigh 196 = .ok (.lconst 0, 1) := by decide +kernel
theorem dd_Mo_weigh_197 : decode cc_Mo_weigh 197 = .ok (.ladd, 1) := by decide +kernel
theorem dd_Mo_weigh_198 : decode cc_Mo_weigh 198 = .ok (.lstore 5, 2) := by decide +kernel
theorem dd_Mo_weigh_200 : decode cc_Mo_weigh 200 = .ok (.iinc 9 1, 3) := by decide +kernel
theorem dd_Mo_weigh_203 : decode cc_Mo_weigh 203 = .ok (.goto (-139), 3) := by decide +kernel
theorem dd_Mo_weigh_206 : decode cc_Mo_weigh 206 = .ok (.aload_n 0, 1) := by decide +kernel
theorem dd_Mo_weigh_207 : decode cc_Mo_weigh 207 = .ok (.lload 5, 2) := by decide +kernel
theorem dd_Mo_weigh_209 : decode cc_Mo_weigh 209 = .ok (.lload 7, 2) := by decide +kernel
theorem dd_Mo_weigh_211 : decode cc_Mo_weigh 211 = .ok (.invokevirtual 258, 3) := by decide +kernel
theorem dd_Mo_weigh_214 : decode cc_Mo_weigh 214 = .ok (.ireturn, 1) := by decide +kernel
set_option maxRecDepth 100000 in
set_option maxHeartbeats 4000000 in
theorem ct_Mo_weigh (l : Launch) (E : gf_E) (i p me : Int) (μ : gf_M) (hi : gf_R i) (hpR : gf_R p) (hme : me = 0 ∨ me = 1) (hok : gm_ok μ)  : gf_Mi l E yy_Mo_weigh cc_Mo_weigh 14 .int (gf_rm 5 121) 81 gf_ref μ [.ref (gf_ad E 65), .int (gf_i i), .int (gf_i p), .int (gf_i me)] (fun q μ' => (¬ (0 ≤ i ∧ i < μ 71 0 ∧ 0 ≤ p ∧ p ≤ 12) → q = -1 ∧ μ' = μ) ∧ (0 ≤ i ∧ i < μ 71 0 ∧ 0 ≤ p ∧ p ≤ 12 → q = 1 ∧ gm_sc μ' (gm_sh2 μ (pf_sumf (gm_W μ i p me) (2 ^ (μ 71 1).toNat))))) := by
  refine gf_mi (by decide +kernel) (Nat.le_of_ble_eq_true rfl) (by decide) (fun X Q hlx C hQ => ?_)
  subst hlx
  replace C : gf_C X E cc_Mo_weigh 14 "GuardFiguresModel" (gf_rm 5 121) := C
  show gf_G X E Q 14 gf_φ μ 0 [(0, .ref (gf_ad E 65)), (1, .int (gf_i i)), (2, .int (gf_i p)), (3, .int (gf_i me))] []
  obtain ⟨hc, hgs, hn, hx, hd⟩ := id hok
  refine gf_aload_n C dd_Mo_weigh_0 0 rfl ?_
  refine gf_iload_n C dd_Mo_weigh_1 1 rfl ?_
  refine gf_callVi (st := []) (As := [.int (gf_i i)]) C wk_Mo_183 gf_cl7 (show gf_is 81 65 0 7 26 by decide) (ct_Mo_isGuard (gf_xl X) E i μ (by omega) (by omega)) rfl ⟨rfl, rfl, rfl, rfl⟩ (Nat.le_of_ble_eq_true rfl) rfl dd_Mo_weigh_2 (fun r2 m2 hR2 hp2 => ?_)
  have hr2 := hp2.1
  refine gf_pm hp2.2 ?_
  refine gf_if_eq 20 C dd_Mo_weigh_5 (by decide) (by omega) (fun h5 => ?_) (fun h5 => ?_)
  · skip
    refine gf_iconst C dd_Mo_weigh_20 ?_
    refine gf_iret C hQ dd_Mo_weigh_21 (by omega) ?_
    exact ⟨fun _ => ⟨rfl, rfl⟩, fun h => absurd h (by omega)⟩
  · skip
    refine gf_iload_n C dd_Mo_weigh_8 2 rfl ?_
    refine gf_gi2l C dd_Mo_weigh_9 (by omega) ?_
    refine gf_lconst 0 C dd_Mo_weigh_10 (by decide +kernel) ?_
    refine gf_ldc2 12 C dd_Mo_weigh_11 ck_Mo_256 (by decide +kernel) ?_
    refine gf_callSi (st := []) (As := [.long (gf_l p), .long (gf_l 0), .long (gf_l 12)]) C wk_Mo_69 (ct_Mo_in (gf_xl X) E p 0 12 μ (by omega) (by omega) (by omega)) rfl ⟨rfl, rfl, rfl, rfl⟩ (Nat.le_of_ble_eq_true rfl) rfl dd_Mo_weigh_14 (fun r14 m14 hR14 hp14 => ?_)
    have hr14 := hp14.1
    refine gf_pm hp14.2 ?_
    refine gf_if_ne 22 C dd_Mo_weigh_17 (by decide) (by omega) (fun h17 => ?_) (fun h17 => ?_)
    · skip
      have hin : 0 ≤ i ∧ i < μ 71 0 := by omega
      have hin2 : 0 ≤ p ∧ p ≤ 12 := by omega
      clear hr2 hr14 hp2 hp14
      have hg := gm_ok_g hok hin
      refine gf_aload_n C dd_Mo_weigh_22 0 rfl ?_
      refine gf_iload_n C dd_Mo_weigh_23 1 rfl ?_
      refine gf_callVi (st := []) (As := [.int (gf_i i)]) C wk_Mo_162 gf_cl7 (show gf_is 81 65 0 7 26 by decide) (ct_Mo_now (gf_xl X) E i μ (hg) (hn) (hx)) rfl ⟨rfl, rfl, rfl, rfl⟩ (Nat.le_of_ble_eq_true rfl) rfl dd_Mo_weigh_24 (fun r24 m24 hR24 hp24 => ?_)
      obtain ⟨⟨hwa, hwR⟩, hw15, hw73, hwf⟩ := hp24
      have h28 := pf_28 (n := (μ 71 1).toNat) (by omega)
      have esh : gf_shl 1 (μ 71 1) = 2 ^ (μ 71 1).toNat := by unfold gf_shl; rw [Int.one_mul]
      refine gf_istore (lv' := [(4, .int (gf_i r24)), (0, .ref (gf_ad E 65)), (1, .int (gf_i i)), (2, .int (gf_i p)), (3, .int (gf_i me))]) C dd_Mo_weigh_27 (by decide) rfl ?_
      refine gf_lconst 0 C dd_Mo_weigh_29 (by decide +kernel) ?_
      refine gf_lstore (lv' := [(5, .long (gf_l 0)), (4, .int (gf_i r24)), (0, .ref (gf_ad E 65)), (1, .int (gf_i i)), (2, .int (gf_i p)), (3, .int (gf_i me))]) C dd_Mo_weigh_30 (by decide) rfl ?_
      refine gf_lconst 1 C dd_Mo_weigh_32 (by decide +kernel) ?_
      refine gf_lstore (lv' := [(7, .long (gf_l 1)), (5, .long (gf_l 0)), (4, .int (gf_i r24)), (0, .ref (gf_ad E 65)), (1, .int (gf_i i)), (2, .int (gf_i p)), (3, .int (gf_i me))]) C dd_Mo_weigh_33 (by decide) rfl ?_
      refine gf_iconst C dd_Mo_weigh_35 ?_
      refine gf_istore (lv' := [(9, .int (gf_i 0)), (7, .long (gf_l 1)), (5, .long (gf_l 0)), (4, .int (gf_i r24)), (0, .ref (gf_ad E 65)), (1, .int (gf_i i)), (2, .int (gf_i p)), (3, .int (gf_i me))]) C dd_Mo_weigh_36 (by decide) rfl ?_
      have L38_1 : ∀ (N : Nat) (b k : Int) , (0 ≤ k ∧ k ≤ μ 71 1 ∧ b = 12 ^ k.toNat) → (8 - k).toNat < N → gf_G X E Q 14 gf_φ m24 38 [(7, .long (gf_l b)), (9, .int (gf_i k)), (0, .ref (gf_ad E 65)), (1, .int (gf_i i)), (2, .int (gf_i p)), (3, .int (gf_i me)), (4, .int (gf_i r24)), (5, .long (gf_l 0))] [] := by
        intro N
        induction N with
        | zero => intro b k hinv hN; exact absurd hN (Nat.not_lt_zero _)
        | succ N ih38_1 =>
          intro b k hinv hN
          have hinv0 := hinv
          obtain ⟨hk0, hk1, hb⟩ := hinv
          refine gf_iload C dd_Mo_weigh_38 1 rfl ?_
          refine gf_aload_n C dd_Mo_weigh_40 2 rfl ?_
          refine gf_getI (z := 15) C gf_cl7 fl_Mo_146 dd_Mo_weigh_41 rfl rfl (show gf_is 81 65 0 7 26 by decide) (fun hv41 => ?_)
          refine gf_icmp_ge 61 C dd_Mo_weigh_44 (by decide) (by omega) (by omega) (fun h44 => ?_) (fun h44 => ?_)
          · skip
            refine gf_iconst C dd_Mo_weigh_61 ?_
            refine gf_istore (lv' := [(9, .int (gf_i 0)), (7, .long (gf_l b)), (0, .ref (gf_ad E 65)), (1, .int (gf_i i)), (2, .int (gf_i p)), (3, .int (gf_i me)), (4, .int (gf_i r24)), (5, .long (gf_l 0))]) C dd_Mo_weigh_62 (by decide) rfl ?_
            have L64_2 : ∀ (N : Nat) (A z : Int) (m : gf_M) , (0 ≤ z ∧ z ≤ 2 ^ (μ 71 1).toNat ∧ A = pf_sumf (gm_W μ i p me) z.toNat ∧ m 65 15 = μ 71 1 ∧ ∀ a b : Int, ¬ (a = 65 ∧ b = 15) → a ≠ 73 → m a b = μ a b) → (256 - z).toNat < N → gf_G X E Q 14 gf_φ m 64 [(5, .long (gf_l A)), (9, .int (gf_i z)), (0, .ref (gf_ad E 65)), (1, .int (gf_i i)), (2, .int (gf_i p)), (3, .int (gf_i me)), (4, .int (gf_i r24)), (7, .long (gf_l b))] [] := by
              intro N
              induction N with
              | zero => intro A z m hinv hN; exact absurd hN (Nat.not_lt_zero _)
              | succ N ih64_2 =>
                intro A z m hinv hN
                have hinv0 := hinv
                obtain ⟨hz0, hz1, hA, hm15, hmf⟩ := hinv
                refine gf_iload C dd_Mo_weigh_64 1 rfl ?_
                refine gf_iconst C dd_Mo_weigh_66 ?_
                refine gf_aload_n C dd_Mo_weigh_67 2 rfl ?_
                refine gf_getI (z := 15) C gf_cl7 fl_Mo_146 dd_Mo_weigh_68 rfl rfl (show gf_is 81 65 0 7 26 by decide) (fun hv68 => ?_)
                refine gf_ishl C dd_Mo_weigh_71 (by omega) ?_
                rw [hm15, esh]
                refine gf_icmp_ge 206 C dd_Mo_weigh_72 (by decide) (by omega) (by omega) (fun h72 => ?_) (fun h72 => ?_)
                · skip
                  have hAR : 0 ≤ A ∧ A ≤ 2000000000000 := by
                    have h1 := pf_sumf_R (g := gm_W μ i p me) (B := 4299816960) z.toNat (fun f _ _ => gm_W_R hin2 hn)
                    rw [← hA] at h1
                    omega
                  have h128 := pf_12_9 (n := k.toNat) (by omega)
                  refine gf_aload_n C dd_Mo_weigh_206 2 rfl ?_
                  refine gf_lload C dd_Mo_weigh_207 0 rfl ?_
                  refine gf_lload C dd_Mo_weigh_209 7 rfl ?_
                  refine gf_callVi (st := []) (As := [.long (gf_l A), .long (gf_l b)]) C wk_Mo_258 gf_cl7 (show gf_is 81 65 0 7 26 by decide) (ct_Mo_tellShare (gf_xl X) E A b m hAR (by omega)) rfl ⟨rfl, rfl, rfl, rfl⟩ (Nat.le_of_ble_eq_true rfl) rfl dd_Mo_weigh_211 (fun r211 m211 hR211 hp211 => ?_)
                  refine gf_iret C hQ dd_Mo_weigh_214 (by omega) ?_
                  refine ⟨fun h => absurd h (by omega), fun _ => ⟨hp211.1, ?_⟩⟩
                  have en : z.toNat = 2 ^ (μ 71 1).toNat := by
                    have h1 : ((2 ^ (μ 71 1).toNat : Nat) : Int) = 2 ^ (μ 71 1).toNat := by simp
                    omega
                  rw [en] at hA
                  refine gm_sh2_sc (m := m) (fun a b hab => by unfold gm_scr at hab; exact hmf a b (by omega) (by omega)) ?_
                  rw [hp211.2, hA, hb, show k = μ 71 1 by omega]
                  unfold gm_sh2
                  rw [hmf 71 1 (by omega) (by omega)]
                · skip
                  refine gf_lconst 1 C dd_Mo_weigh_75 (by decide +kernel) ?_
                  refine gf_lstore (lv' := [(10, .long (gf_l 1)), (5, .long (gf_l A)), (9, .int (gf_i z)), (0, .ref (gf_ad E 65)), (1, .int (gf_i i)), (2, .int (gf_i p)), (3, .int (gf_i me)), (4, .int (gf_i r24)), (7, .long (gf_l b))]) C dd_Mo_weigh_76 (by decide) rfl ?_
                  refine gf_iconst C dd_Mo_weigh_78 ?_
                  refine gf_istore (lv' := [(12, .int (gf_i 0)), (10, .long (gf_l 1)), (5, .long (gf_l A)), (9, .int (gf_i z)), (0, .ref (gf_ad E 65)), (1, .int (gf_i i)), (2, .int (gf_i p)), (3, .int (gf_i me)), (4, .int (gf_i r24)), (7, .long (gf_l b))]) C dd_Mo_weigh_79 (by decide) rfl ?_
                  have L81_3 : ∀ (N : Nat) (pt k : Int) (m3 : gf_M) , (0 ≤ k ∧ k ≤ μ 71 1 ∧ pt = gm_prt p z k.toNat ∧ m3 65 15 = μ 71 1 ∧ (∀ j : Int, 0 ≤ j → j < k → m3 73 j = gm_cy (gm_x μ) z j) ∧ ∀ a b : Int, ¬ (a = 65 ∧ b = 15) → a ≠ 73 → m3 a b = μ a b) → (8 - k).toNat < N → gf_G X E Q 14 gf_φ m3 81 [(10, .long (gf_l pt)), (12, .int (gf_i k)), (0, .ref (gf_ad E 65)), (1, .int (gf_i i)), (2, .int (gf_i p)), (3, .int (gf_i me)), (4, .int (gf_i r24)), (5, .long (gf_l A)), (7, .long (gf_l b)), (9, .int (gf_i z))] [] := by
                    intro N
                    induction N with
                    | zero => intro pt k m3 hinv hN; exact absurd hN (Nat.not_lt_zero _)
                    | succ N ih81_3 =>
                      intro pt k m3 hinv hN
                      have hinv0 := hinv
                      obtain ⟨hk0, hk1, hpt, hm315, hm373, hm3f⟩ := hinv
                      refine gf_iload C dd_Mo_weigh_81 1 rfl ?_
                      refine gf_aload_n C dd_Mo_weigh_83 2 rfl ?_
                      refine gf_getI (z := 15) C gf_cl7 fl_Mo_146 dd_Mo_weigh_84 rfl rfl (show gf_is 81 65 0 7 26 by decide) (fun hv84 => ?_)
                      refine gf_icmp_ge 149 C dd_Mo_weigh_87 (by decide) (by omega) (by omega) (fun h87 => ?_) (fun h87 => ?_)
                      · skip
                        have q71 : ∀ b : Int, m3 71 b = μ 71 b := fun b => hm3f 71 b (by omega) (by omega)
                        have hpt2 : pt = gm_prt p z (μ 71 1).toNat := by rw [hpt, show k = μ 71 1 by omega]
                        refine gf_aload_n C dd_Mo_weigh_149 2 rfl ?_
                        refine gf_iload_n C dd_Mo_weigh_150 3 rfl ?_
                        refine gf_aload_n C dd_Mo_weigh_151 2 rfl ?_
                        refine gf_getA (r := 73) C gf_cl7 fl_Mo_36 dd_Mo_weigh_152 rfl (show gf_is 81 65 0 7 26 by decide) (by decide) (by decide) ?_
                        refine gf_aload_n C dd_Mo_weigh_155 2 rfl ?_
                        refine gf_getI (z := 15) C gf_cl7 fl_Mo_146 dd_Mo_weigh_156 rfl rfl (show gf_is 81 65 0 7 26 by decide) (fun hv156 => ?_)
                        refine gf_callVi (st := []) (As := [.int (gf_i i), .ref (gf_ad E 73), .int (gf_i (m3 65 15))]) C wk_Mo_152 gf_cl7 (show gf_is 81 65 0 7 26 by decide) (ct_Mo_byGuard (gf_xl X) E i 73 (m3 65 15) 8 m3 (gm_okg_f hg q71) (show gf_is 81 73 1 0 8 by decide) (by omega) (fun j h0 h1 => by rw [hm373 j h0 (by omega)]; unfold gm_cy; omega)) rfl ⟨rfl, rfl, rfl, rfl⟩ (Nat.le_of_ble_eq_true rfl) rfl dd_Mo_weigh_159 (fun r159 m159 hR159 hp159 => ?_)
                        have hr159 := hp159.1
                        refine gf_pm hp159.2 ?_
                        have hre : r159 = gm_rk μ i (gm_cy (gm_x μ) z) (μ 71 1) := by
                          rw [hr159.1, gm_rk_f q71, hm315]
                          exact gm_rk_congr (fun j h0 h1 => hm373 j h0 (by omega))
                        have hrb := hr159.2
                        clear hr159 hp159
                        refine gf_istore (lv' := [(12, .int (gf_i r159)), (10, .long (gf_l pt)), (0, .ref (gf_ad E 65)), (1, .int (gf_i i)), (2, .int (gf_i p)), (3, .int (gf_i me)), (4, .int (gf_i r24)), (5, .long (gf_l A)), (7, .long (gf_l b)), (9, .int (gf_i z))]) C dd_Mo_weigh_162 (by decide) rfl ?_
                        refine gf_lload C dd_Mo_weigh_164 7 rfl ?_
                        refine gf_iload_n C dd_Mo_weigh_166 5 rfl ?_
                        refine gf_if_eq 179 C dd_Mo_weigh_167 (by decide) (by omega) (fun h167 => ?_) (fun h167 => ?_)
                        · skip
                          refine gf_iload C dd_Mo_weigh_179 9 rfl ?_
                          refine gf_if_eq 196 C dd_Mo_weigh_181 (by decide) (by omega) (fun h181 => ?_) (fun h181 => ?_)
                          · skip
                            refine gf_lconst 0 C dd_Mo_weigh_196 (by decide +kernel) ?_
                            refine gf_ladd C dd_Mo_weigh_197 ?_
                            refine gf_nml (fun x198 hx198 => ?_)
                            refine gf_lstore (lv' := [(5, .long (gf_l x198)), (12, .int (gf_i r159)), (10, .long (gf_l pt)), (0, .ref (gf_ad E 65)), (1, .int (gf_i i)), (2, .int (gf_i p)), (3, .int (gf_i me)), (4, .int (gf_i r24)), (7, .long (gf_l b)), (9, .int (gf_i z))]) C dd_Mo_weigh_198 (by decide) rfl ?_
                            obtain ⟨x200, hx200⟩ : ∃ y : Int, y = z + 1 := ⟨_, rfl⟩
                            refine gf_iinc (q := 9) (v := x200) (lv' := [(9, .int (gf_i x200)), (5, .long (gf_l x198)), (12, .int (gf_i r159)), (10, .long (gf_l pt)), (0, .ref (gf_ad E 65)), (1, .int (gf_i i)), (2, .int (gf_i p)), (3, .int (gf_i me)), (4, .int (gf_i r24)), (7, .long (gf_l b))]) C dd_Mo_weigh_200 rfl hx200 (by decide) rfl ?_
                            refine gf_goto 64 C dd_Mo_weigh_203 (by decide) ?_
                            refine gf_lsub [1, 0, 4, 5, 6, 7, 8, 9] rfl ?_
                            exact ih64_2 x198 x200 m3 (by
                                    refine ⟨by omega, by omega, ?_, hm315, hm3f⟩
                                    rw [show x200.toNat = z.toNat + 1 by omega]
                                    show _ = pf_sumf _ z.toNat + gm_W μ i p me ((z.toNat : Nat) : Int)
                                    rw [show ((z.toNat : Nat) : Int) = z by omega, ← hA, hx198]
                                    unfold gm_W
                                    rw [← hre, ← hwa, ← hpt2]
                                    first
                                    | (rw [if_pos (by omega)]; done)
                                    | (rw [if_neg (by omega), if_pos (by omega)]; done)
                                    | (rw [if_neg (by omega), if_neg (by omega)]; done)) (by omega)
                          · skip
                            refine gf_iload C dd_Mo_weigh_184 0 rfl ?_
                            refine gf_iload C dd_Mo_weigh_186 6 rfl ?_
                            refine gf_icmp_ne 196 C dd_Mo_weigh_188 (by decide) (by omega) (by omega) (fun h188 => ?_) (fun h188 => ?_)
                            · skip
                              refine gf_lconst 0 C dd_Mo_weigh_196 (by decide +kernel) ?_
                              refine gf_ladd C dd_Mo_weigh_197 ?_
                              refine gf_nml (fun x198 hx198 => ?_)
                              refine gf_lstore (lv' := [(5, .long (gf_l x198)), (12, .int (gf_i r159)), (10, .long (gf_l pt)), (0, .ref (gf_ad E 65)), (1, .int (gf_i i)), (2, .int (gf_i p)), (3, .int (gf_i me)), (4, .int (gf_i r24)), (7, .long (gf_l b)), (9, .int (gf_i z))]) C dd_Mo_weigh_198 (by decide) rfl ?_
                              obtain ⟨x200, hx200⟩ : ∃ y : Int, y = z + 1 := ⟨_, rfl⟩
                              refine gf_iinc (q := 9) (v := x200) (lv' := [(9, .int (gf_i x200)), (5, .long (gf_l x198)), (12, .int (gf_i r159)), (10, .long (gf_l pt)), (0, .ref (gf_ad E 65)), (1, .int (gf_i i)), (2, .int (gf_i p)), (3, .int (gf_i me)), (4, .int (gf_i r24)), (7, .long (gf_l b))]) C dd_Mo_weigh_200 rfl hx200 (by decide) rfl ?_
                              refine gf_goto 64 C dd_Mo_weigh_203 (by decide) ?_
                              refine gf_lsub [1, 0, 4, 5, 6, 7, 8, 9] rfl ?_
                              exact ih64_2 x198 x200 m3 (by
                                      refine ⟨by omega, by omega, ?_, hm315, hm3f⟩
                                      rw [show x200.toNat = z.toNat + 1 by omega]
                                      show _ = pf_sumf _ z.toNat + gm_W μ i p me ((z.toNat : Nat) : Int)
                                      rw [show ((z.toNat : Nat) : Int) = z by omega, ← hA, hx198]
                                      unfold gm_W
                                      rw [← hre, ← hwa, ← hpt2]
                                      first
                                      | (rw [if_pos (by omega)]; done)
                                      | (rw [if_neg (by omega), if_pos (by omega)]; done)
                                      | (rw [if_neg (by omega), if_neg (by omega)]; done)) (by omega)
                            · skip
                              refine gf_lload C dd_Mo_weigh_191 1 rfl ?_
                              refine gf_goto 197 C dd_Mo_weigh_193 (by decide) ?_
                              refine gf_ladd C dd_Mo_weigh_197 ?_
                              refine gf_nml (fun x198 hx198 => ?_)
                              refine gf_lstore (lv' := [(5, .long (gf_l x198)), (12, .int (gf_i r159)), (10, .long (gf_l pt)), (0, .ref (gf_ad E 65)), (1, .int (gf_i i)), (2, .int (gf_i p)), (3, .int (gf_i me)), (4, .int (gf_i r24)), (7, .long (gf_l b)), (9, .int (gf_i z))]) C dd_Mo_weigh_198 (by decide) rfl ?_
                              obtain ⟨x200, hx200⟩ : ∃ y : Int, y = z + 1 := ⟨_, rfl⟩
                              refine gf_iinc (q := 9) (v := x200) (lv' := [(9, .int (gf_i x200)), (5, .long (gf_l x198)), (12, .int (gf_i r159)), (10, .long (gf_l pt)), (0, .ref (gf_ad E 65)), (1, .int (gf_i i)), (2, .int (gf_i p)), (3, .int (gf_i me)), (4, .int (gf_i r24)), (7, .long (gf_l b))]) C dd_Mo_weigh_200 rfl hx200 (by decide) rfl ?_
                              refine gf_goto 64 C dd_Mo_weigh_203 (by decide) ?_
                              refine gf_lsub [1, 0, 4, 5, 6, 7, 8, 9] rfl ?_
                              exact ih64_2 x198 x200 m3 (by
                                      refine ⟨by omega, by omega, ?_, hm315, hm3f⟩
                                      rw [show x200.toNat = z.toNat + 1 by omega]
                                      show _ = pf_sumf _ z.toNat + gm_W μ i p me ((z.toNat : Nat) : Int)
                                      rw [show ((z.toNat : Nat) : Int) = z by omega, ← hA, hx198]
                                      unfold gm_W
                                      rw [← hre, ← hwa, ← hpt2]
                                      first
                                      | (rw [if_pos (by omega)]; done)
                                      | (rw [if_neg (by omega), if_pos (by omega)]; done)
                                      | (rw [if_neg (by omega), if_neg (by omega)]; done)) (by omega)
                        · skip
                          refine gf_lload C dd_Mo_weigh_170 1 rfl ?_
                          refine gf_iload C dd_Mo_weigh_172 0 rfl ?_
                          refine gf_gi2l C dd_Mo_weigh_174 (by omega) ?_
                          refine gf_lmul C dd_Mo_weigh_175 ?_
                          refine gf_goto 197 C dd_Mo_weigh_176 (by decide) ?_
                          refine gf_ladd C dd_Mo_weigh_197 ?_
                          refine gf_nml (fun x198 hx198 => ?_)
                          refine gf_lstore (lv' := [(5, .long (gf_l x198)), (12, .int (gf_i r159)), (10, .long (gf_l pt)), (0, .ref (gf_ad E 65)), (1, .int (gf_i i)), (2, .int (gf_i p)), (3, .int (gf_i me)), (4, .int (gf_i r24)), (7, .long (gf_l b)), (9, .int (gf_i z))]) C dd_Mo_weigh_198 (by decide) rfl ?_
                          obtain ⟨x200, hx200⟩ : ∃ y : Int, y = z + 1 := ⟨_, rfl⟩
                          refine gf_iinc (q := 9) (v := x200) (lv' := [(9, .int (gf_i x200)), (5, .long (gf_l x198)), (12, .int (gf_i r159)), (10, .long (gf_l pt)), (0, .ref (gf_ad E 65)), (1, .int (gf_i i)), (2, .int (gf_i p)), (3, .int (gf_i me)), (4, .int (gf_i r24)), (7, .long (gf_l b))]) C dd_Mo_weigh_200 rfl hx200 (by decide) rfl ?_
                          refine gf_goto 64 C dd_Mo_weigh_203 (by decide) ?_
                          refine gf_lsub [1, 0, 4, 5, 6, 7, 8, 9] rfl ?_
                          exact ih64_2 x198 x200 m3 (by
                                  refine ⟨by omega, by omega, ?_, hm315, hm3f⟩
                                  rw [show x200.toNat = z.toNat + 1 by omega]
                                  show _ = pf_sumf _ z.toNat + gm_W μ i p me ((z.toNat : Nat) : Int)
                                  rw [show ((z.toNat : Nat) : Int) = z by omega, ← hA, hx198]
                                  unfold gm_W
                                  rw [← hre, ← hwa, ← hpt2]
                                  first
                                  | (rw [if_pos (by omega)]; done)
                                  | (rw [if_neg (by omega), if_pos (by omega)]; done)
                                  | (rw [if_neg (by omega), if_neg (by omega)]; done)) (by omega)
                      · skip
                        have hsr : 0 ≤ gf_shr z k ∧ gf_shr z k ≤ 256 := by
                          unfold gf_shr
                          have hp : (0 : Int) < 2 ^ k.toNat := Int.pow_pos (by decide)
                          exact ⟨Int.ediv_nonneg hz0 (by omega), Int.le_trans (Int.ediv_le_self _ hz0) (by omega)⟩
                        refine gf_iload C dd_Mo_weigh_90 9 rfl ?_
                        refine gf_iload C dd_Mo_weigh_92 1 rfl ?_
                        refine gf_ishr C dd_Mo_weigh_94 (by omega) ?_
                        refine gf_iconst C dd_Mo_weigh_95 ?_
                        refine gf_iand C dd_Mo_weigh_96 (by omega) ?_
                        refine gf_nm (fun x97 hx97 => ?_)
                        refine gf_istore (lv' := [(13, .int (gf_i x97)), (10, .long (gf_l pt)), (12, .int (gf_i k)), (0, .ref (gf_ad E 65)), (1, .int (gf_i i)), (2, .int (gf_i p)), (3, .int (gf_i me)), (4, .int (gf_i r24)), (5, .long (gf_l A)), (7, .long (gf_l b)), (9, .int (gf_i z))]) C dd_Mo_weigh_97 (by decide) rfl ?_
                        have hbb : x97 = gm_bit z k := hx97
                        have hab : 0 ≤ x97 ∧ x97 ≤ 1 := by rw [hx97]; unfold gf_and; have := Nat.and_le_right (n := (gf_shr z k).toNat) (m := (1 : Int).toNat); constructor <;> omega
                        have q24 := hm3f 71 (24 + k) (by omega) (by omega)
                        have hxk := hx k (by omega) (by omega)
                        refine gf_lload C dd_Mo_weigh_99 1 rfl ?_
                        refine gf_iload C dd_Mo_weigh_101 0 rfl ?_
                        refine gf_iconst C dd_Mo_weigh_103 ?_
                        refine gf_icmp_ne 112 C dd_Mo_weigh_104 (by decide) (by omega) (by omega) (fun h104 => ?_) (fun h104 => ?_)
                        · skip
                          refine gf_bipush C dd_Mo_weigh_112 (by decide +kernel) ?_
                          refine gf_iload_n C dd_Mo_weigh_114 5 rfl ?_
                          refine gf_isub C dd_Mo_weigh_115 ?_
                          refine gf_gi2l C dd_Mo_weigh_116 (by omega) ?_
                          refine gf_lmul C dd_Mo_weigh_117 ?_
                          refine gf_nml (fun x118 hx118 => ?_)
                          refine gf_lstore (lv' := [(10, .long (gf_l x118)), (13, .int (gf_i x97)), (12, .int (gf_i k)), (0, .ref (gf_ad E 65)), (1, .int (gf_i i)), (2, .int (gf_i p)), (3, .int (gf_i me)), (4, .int (gf_i r24)), (5, .long (gf_l A)), (7, .long (gf_l b)), (9, .int (gf_i z))]) C dd_Mo_weigh_118 (by decide) rfl ?_
                          refine gf_aload_n C dd_Mo_weigh_120 3 rfl ?_
                          refine gf_getA (r := 73) C gf_cl7 fl_Mo_36 dd_Mo_weigh_121 rfl (show gf_is 81 65 0 7 26 by decide) (by decide) (by decide) ?_
                          refine gf_iload C dd_Mo_weigh_124 2 rfl ?_
                          refine gf_aload_n C dd_Mo_weigh_126 3 rfl ?_
                          refine gf_getA (r := 71) C gf_cl7 fl_Mo_30 dd_Mo_weigh_127 rfl (show gf_is 81 65 0 7 26 by decide) (by decide) (by decide) ?_
                          refine gf_bipush C dd_Mo_weigh_130 (by decide +kernel) ?_
                          refine gf_iload C dd_Mo_weigh_132 2 rfl ?_
                          refine gf_iadd C dd_Mo_weigh_134 ?_
                          refine gf_iald C dd_Mo_weigh_135 (show gf_is 81 71 1 0 392 by decide) (by omega) (fun hv135 => ?_)
                          refine gf_iload C dd_Mo_weigh_136 1 rfl ?_
                          refine gf_iadd C dd_Mo_weigh_138 ?_
                          refine gf_bipush C dd_Mo_weigh_139 (by decide +kernel) ?_
                          refine gf_irem C dd_Mo_weigh_141 (by omega) ?_
                          refine gf_iast C dd_Mo_weigh_142 (show gf_is 81 73 1 0 8 by decide) (by omega) (by omega) ?_
                          refine gf_nmM (fun m142 hm142 => ?_)
                          obtain ⟨x143, hx143⟩ : ∃ y : Int, y = k + 1 := ⟨_, rfl⟩
                          refine gf_iinc (q := 2) (v := x143) (lv' := [(12, .int (gf_i x143)), (10, .long (gf_l x118)), (13, .int (gf_i x97)), (0, .ref (gf_ad E 65)), (1, .int (gf_i i)), (2, .int (gf_i p)), (3, .int (gf_i me)), (4, .int (gf_i r24)), (5, .long (gf_l A)), (7, .long (gf_l b)), (9, .int (gf_i z))]) C dd_Mo_weigh_143 rfl hx143 (by decide) rfl ?_
                          refine gf_goto 81 C dd_Mo_weigh_146 (by decide) ?_
                          refine gf_lsub [1, 0, 3, 4, 5, 6, 7, 8, 9, 10] rfl ?_
                          exact ih81_3 x118 x143 m142 (by
                                  refine ⟨by omega, by omega, ?_, by rw [hm142, gf_up_k (by decide)]; exact hm315, fun j h0 h1 => ?_, fun a b h1 h2 => by rw [hm142, gf_up_k h2]; exact hm3f a b h1 h2⟩
                                  · rw [show x143.toNat = k.toNat + 1 by omega]
                                    show _ = gm_prt p z k.toNat * (if gm_bit z ((k.toNat : Nat) : Int) = 1 then p else 12 - p)
                                    rw [show ((k.toNat : Nat) : Int) = k by omega, ← hpt, ← hbb, hx118]
                                    first | (rw [if_pos (by omega)]; done) | (rw [if_neg (by omega)]; done)
                                  · rw [hm142]
                                    by_cases e : j = k
                                    · rw [e, gf_up_s, q24, hbb]; rfl
                                    · rw [gf_up_j e]; exact hm373 j h0 (by omega)) (by omega)
                        · skip
                          refine gf_iload_n C dd_Mo_weigh_107 5 rfl ?_
                          refine gf_gi2l C dd_Mo_weigh_108 (by omega) ?_
                          refine gf_goto 117 C dd_Mo_weigh_109 (by decide) ?_
                          refine gf_lmul C dd_Mo_weigh_117 ?_
                          refine gf_nml (fun x118 hx118 => ?_)
                          refine gf_lstore (lv' := [(10, .long (gf_l x118)), (13, .int (gf_i x97)), (12, .int (gf_i k)), (0, .ref (gf_ad E 65)), (1, .int (gf_i i)), (2, .int (gf_i p)), (3, .int (gf_i me)), (4, .int (gf_i r24)), (5, .long (gf_l A)), (7, .long (gf_l b)), (9, .int (gf_i z))]) C dd_Mo_weigh_118 (by decide) rfl ?_
                          refine gf_aload_n C dd_Mo_weigh_120 3 rfl ?_
                          refine gf_getA (r := 73) C gf_cl7 fl_Mo_36 dd_Mo_weigh_121 rfl (show gf_is 81 65 0 7 26 by decide) (by decide) (by decide) ?_
                          refine gf_iload C dd_Mo_weigh_124 2 rfl ?_
                          refine gf_aload_n C dd_Mo_weigh_126 3 rfl ?_
                          refine gf_getA (r := 71) C gf_cl7 fl_Mo_30 dd_Mo_weigh_127 rfl (show gf_is 81 65 0 7 26 by decide) (by decide) (by decide) ?_
                          refine gf_bipush C dd_Mo_weigh_130 (by decide +kernel) ?_
                          refine gf_iload C dd_Mo_weigh_132 2 rfl ?_
                          refine gf_iadd C dd_Mo_weigh_134 ?_
                          refine gf_iald C dd_Mo_weigh_135 (show gf_is 81 71 1 0 392 by decide) (by omega) (fun hv135 => ?_)
                          refine gf_iload C dd_Mo_weigh_136 1 rfl ?_
                          refine gf_iadd C dd_Mo_weigh_138 ?_
                          refine gf_bipush C dd_Mo_weigh_139 (by decide +kernel) ?_
                          refine gf_irem C dd_Mo_weigh_141 (by omega) ?_
                          refine gf_iast C dd_Mo_weigh_142 (show gf_is 81 73 1 0 8 by decide) (by omega) (by omega) ?_
                          refine gf_nmM (fun m142 hm142 => ?_)
                          obtain ⟨x143, hx143⟩ : ∃ y : Int, y = k + 1 := ⟨_, rfl⟩
                          refine gf_iinc (q := 2) (v := x143) (lv' := [(12, .int (gf_i x143)), (10, .long (gf_l x118)), (13, .int (gf_i x97)), (0, .ref (gf_ad E 65)), (1, .int (gf_i i)), (2, .int (gf_i p)), (3, .int (gf_i me)), (4, .int (gf_i r24)), (5, .long (gf_l A)), (7, .long (gf_l b)), (9, .int (gf_i z))]) C dd_Mo_weigh_143 rfl hx143 (by decide) rfl ?_
                          refine gf_goto 81 C dd_Mo_weigh_146 (by decide) ?_
                          refine gf_lsub [1, 0, 3, 4, 5, 6, 7, 8, 9, 10] rfl ?_
                          exact ih81_3 x118 x143 m142 (by
                                  refine ⟨by omega, by omega, ?_, by rw [hm142, gf_up_k (by decide)]; exact hm315, fun j h0 h1 => ?_, fun a b h1 h2 => by rw [hm142, gf_up_k h2]; exact hm3f a b h1 h2⟩
                                  · rw [show x143.toNat = k.toNat + 1 by omega]
                                    show _ = gm_prt p z k.toNat * (if gm_bit z ((k.toNat : Nat) : Int) = 1 then p else 12 - p)
                                    rw [show ((k.toNat : Nat) : Int) = k by omega, ← hpt, ← hbb, hx118]
                                    first | (rw [if_pos (by omega)]; done) | (rw [if_neg (by omega)]; done)
                                  · rw [hm142]
                                    by_cases e : j = k
                                    · rw [e, gf_up_s, q24, hbb]; rfl
                                    · rw [gf_up_j e]; exact hm373 j h0 (by omega)) (by omega)
                  refine gf_lsub [1, 0, 4, 5, 6, 7, 8, 2, 9, 3] rfl ?_
                  exact L81_3 _ 1 0 m (⟨by omega, by omega, rfl, hm15, fun j h0 h1 => by omega, hmf⟩) (Nat.lt_succ_self _)
            refine gf_lsub [7, 0, 2, 3, 4, 5, 6, 1] rfl ?_
            exact L64_2 _ 0 0 m24 (⟨by omega, by omega, rfl, hw15, hwf⟩) (Nat.lt_succ_self _)
          · skip
            refine gf_lload C dd_Mo_weigh_47 0 rfl ?_
            refine gf_ldc2 12 C dd_Mo_weigh_49 ck_Mo_256 (by decide +kernel) ?_
            refine gf_lmul C dd_Mo_weigh_52 ?_
            refine gf_nml (fun x53 hx53 => ?_)
            refine gf_lstore (lv' := [(7, .long (gf_l x53)), (9, .int (gf_i k)), (0, .ref (gf_ad E 65)), (1, .int (gf_i i)), (2, .int (gf_i p)), (3, .int (gf_i me)), (4, .int (gf_i r24)), (5, .long (gf_l 0))]) C dd_Mo_weigh_53 (by decide) rfl ?_
            obtain ⟨x55, hx55⟩ : ∃ y : Int, y = k + 1 := ⟨_, rfl⟩
            refine gf_iinc (q := 1) (v := x55) (lv' := [(9, .int (gf_i x55)), (7, .long (gf_l x53)), (0, .ref (gf_ad E 65)), (1, .int (gf_i i)), (2, .int (gf_i p)), (3, .int (gf_i me)), (4, .int (gf_i r24)), (5, .long (gf_l 0))]) C dd_Mo_weigh_55 rfl hx55 (by decide) rfl ?_
            refine gf_goto 38 C dd_Mo_weigh_58 (by decide) ?_
            refine gf_lsub [1, 0, 2, 3, 4, 5, 6, 7] rfl ?_
            exact ih38_1 x53 x55 (by
                    refine ⟨by omega, by omega, ?_⟩
                    rw [show x55.toNat = k.toNat + 1 by omega, Int.pow_succ, ← hb]
                    exact hx53) (by omega)
      refine gf_lsub [1, 0, 4, 5, 6, 7, 3, 2] rfl ?_
      exact L38_1 _ 1 0 (⟨by omega, by omega, rfl⟩) (Nat.lt_succ_self _)
    · skip
      refine gf_iconst C dd_Mo_weigh_20 ?_
      refine gf_iret C hQ dd_Mo_weigh_21 (by omega) ?_
      exact ⟨fun _ => ⟨rfl, rfl⟩, fun h => absurd h (by omega)⟩

theorem dd_Mo_odds_0 : decode cc_Mo_odds 0 = .ok (.aload_n 0, 1) := by decide +kernel
theorem dd_Mo_odds_1 : decode cc_Mo_odds 1 = .ok (.iload_n 1, 1) := by decide +kernel
theorem dd_Mo_odds_2 : decode cc_Mo_odds 2 = .ok (.iload_n 2, 1) := by decide +kernel
theorem dd_Mo_odds_3 : decode cc_Mo_odds 3 = .ok (.iconst 0, 1) := by decide +kernel
theorem dd_Mo_odds_4 : decode cc_Mo_odds 4 = .ok (.invokevirtual 262, 3) := by decide +kernel
theorem dd_Mo_odds_7 : decode cc_Mo_odds 7 = .ok (.ireturn, 1) := by decide +kernel
set_option maxRecDepth 100000 in
set_option maxHeartbeats 4000000 in
theorem ct_Mo_odds (l : Launch) (E : gf_E) (i p : Int) (μ : gf_M) (hi : gf_R i) (hpR : gf_R p) (hok : gm_ok μ)  : gf_Mi l E yy_Mo_odds cc_Mo_odds 3 .int (gf_rm 6 154) 81 gf_ref μ [.ref (gf_ad E 65), .int (gf_i i), .int (gf_i p)] (fun q μ' => (¬ (0 ≤ i ∧ i < μ 71 0 ∧ 0 ≤ p ∧ p ≤ 12) → q = -1 ∧ μ' = μ) ∧ (0 ≤ i ∧ i < μ 71 0 ∧ 0 ≤ p ∧ p ≤ 12 → q = 1 ∧ gm_sc μ' (gm_sh2 μ (pf_sumf (gm_W μ i p 0) (2 ^ (μ 71 1).toNat))))) := by
  refine gf_mi (by decide +kernel) (Nat.le_of_ble_eq_true rfl) (by decide) (fun X Q hlx C hQ => ?_)
  subst hlx
  replace C : gf_C X E cc_Mo_odds 3 "GuardFiguresModel" (gf_rm 6 154) := C
  show gf_G X E Q 3 gf_φ μ 0 [(0, .ref (gf_ad E 65)), (1, .int (gf_i i)), (2, .int (gf_i p))] []
  refine gf_aload_n C dd_Mo_odds_0 0 rfl ?_
  refine gf_iload_n C dd_Mo_odds_1 1 rfl ?_
  refine gf_iload_n C dd_Mo_odds_2 2 rfl ?_
  refine gf_iconst C dd_Mo_odds_3 ?_
  refine gf_callVi (st := []) (As := [.int (gf_i i), .int (gf_i p), .int (gf_i 0)]) C wk_Mo_262 gf_cl7 (show gf_is 81 65 0 7 26 by decide) (ct_Mo_weigh (gf_xl X) E i p 0 μ (by omega) (by omega) (by omega) (hok)) rfl ⟨rfl, rfl, rfl, rfl⟩ (Nat.le_of_ble_eq_true rfl) rfl dd_Mo_odds_4 (fun r4 m4 hR4 hp4 => ?_)
  refine gf_iret C hQ dd_Mo_odds_7 (by omega) ?_
  exact hp4

theorem dd_Mo_mid_0 : decode cc_Mo_mid 0 = .ok (.aload_n 0, 1) := by decide +kernel
theorem dd_Mo_mid_1 : decode cc_Mo_mid 1 = .ok (.iload_n 1, 1) := by decide +kernel
theorem dd_Mo_mid_2 : decode cc_Mo_mid 2 = .ok (.iload_n 2, 1) := by decide +kernel
theorem dd_Mo_mid_3 : decode cc_Mo_mid 3 = .ok (.iconst 1, 1) := by decide +kernel
theorem dd_Mo_mid_4 : decode cc_Mo_mid 4 = .ok (.invokevirtual 262, 3) := by decide +kernel
theorem dd_Mo_mid_7 : decode cc_Mo_mid 7 = .ok (.ireturn, 1) := by decide +kernel
set_option maxRecDepth 100000 in
set_option maxHeartbeats 4000000 in
theorem ct_Mo_mid (l : Launch) (E : gf_E) (i p : Int) (μ : gf_M) (hi : gf_R i) (hpR : gf_R p) (hok : gm_ok μ)  : gf_Mi l E yy_Mo_mid cc_Mo_mid 3 .int (gf_rm 6 154) 81 gf_ref μ [.ref (gf_ad E 65), .int (gf_i i), .int (gf_i p)] (fun q μ' => (¬ (0 ≤ i ∧ i < μ 71 0 ∧ 0 ≤ p ∧ p ≤ 12) → q = -1 ∧ μ' = μ) ∧ (0 ≤ i ∧ i < μ 71 0 ∧ 0 ≤ p ∧ p ≤ 12 → q = 1 ∧ gm_sc μ' (gm_sh2 μ (pf_sumf (gm_W μ i p 1) (2 ^ (μ 71 1).toNat))))) := by
  refine gf_mi (by decide +kernel) (Nat.le_of_ble_eq_true rfl) (by decide) (fun X Q hlx C hQ => ?_)
  subst hlx
  replace C : gf_C X E cc_Mo_mid 3 "GuardFiguresModel" (gf_rm 6 154) := C
  show gf_G X E Q 3 gf_φ μ 0 [(0, .ref (gf_ad E 65)), (1, .int (gf_i i)), (2, .int (gf_i p))] []
  refine gf_aload_n C dd_Mo_mid_0 0 rfl ?_
  refine gf_iload_n C dd_Mo_mid_1 1 rfl ?_
  refine gf_iload_n C dd_Mo_mid_2 2 rfl ?_
  refine gf_iconst C dd_Mo_mid_3 ?_
  refine gf_callVi (st := []) (As := [.int (gf_i i), .int (gf_i p), .int (gf_i 1)]) C wk_Mo_262 gf_cl7 (show gf_is 81 65 0 7 26 by decide) (ct_Mo_weigh (gf_xl X) E i p 1 μ (by omega) (by omega) (by omega) (hok)) rfl ⟨rfl, rfl, rfl, rfl⟩ (Nat.le_of_ble_eq_true rfl) rfl dd_Mo_mid_4 (fun r4 m4 hR4 hp4 => ?_)
  refine gf_iret C hQ dd_Mo_mid_7 (by omega) ?_
  exact hp4
