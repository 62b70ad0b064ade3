/-! Reader -/
def pf_pk (c : Int) : Int := if c = 103 then 0 else if c = 101 then 1 else if c = 99 then 2 else if c = 104 then 3 else if c = 98 then 4 else if c = 100 then 5 else -9
theorem pf_pk_R (c : Int) : pf_pk c = -9 ∨ (0 ≤ pf_pk c ∧ pf_pk c ≤ 5) := by
  unfold pf_pk
  repeat' split
  all_goals omega
theorem pf_lets {x : Int} (h : 0 ≤ x ∧ x < 6) : gf_R (([103, 101, 99, 104, 98, 100] : List Int).getD x.toNat 0) := by
  have : x = 0 ∨ x = 1 ∨ x = 2 ∨ x = 3 ∨ x = 4 ∨ x = 5 := by omega
  rcases this with rfl | rfl | rfl | rfl | rfl | rfl <;> decide
theorem pf_pk_of {x : Int} (h : 0 ≤ x ∧ x < 6) : pf_pk (([103, 101, 99, 104, 98, 100] : List Int).getD x.toNat 0) = x := by
  have : x = 0 ∨ x = 1 ∨ x = 2 ∨ x = 3 ∨ x = 4 ∨ x = 5 := by omega
  rcases this with rfl | rfl | rfl | rfl | rfl | rfl <;> decide
theorem pf_pk_let {c : Int} (h : 0 ≤ pf_pk c) : ([103, 101, 99, 104, 98, 100] : List Int).getD (pf_pk c).toNat 0 = c := by
  unfold pf_pk at h ⊢
  repeat' split
  all_goals first | (subst_vars; decide) | (simp_all)
/-- reading one guard at place p, c are there: the fault, or -9 -/
def pf_rg (f : Int → Int) (n p c : Int) : Int :=
  if pf_pk (f p) = -9 ∨ 7 ≤ c then p
  else if n ≤ p + 1 then n
  else if ¬ (48 ≤ f (p + 1) ∧ f (p + 1) ≤ 57) then p + 1
  else if n ≤ p + 2 then n
  else if ¬ (48 ≤ f (p + 2) ∧ f (p + 2) ≤ 57) then p + 2
  else -9
/-- reading on: the fault or -9, and the guards -/
def pf_pr (f : Int → Int) (n : Int) : Nat → Int → List (Int × Int × Int) → Int × List (Int × Int × Int)
  | 0, _, a => (if (a.length : Int) < 2 then n else -9, a)
  | k + 1, p, a =>
    if n ≤ p then (if (a.length : Int) < 2 then n else -9, a)
    else if f p = 32 then pf_pr f n k (p + 1) a
    else if pf_rg f n p a.length = -9 then pf_pr f n k (p + 3) (a ++ [(pf_pk (f p), f (p + 1) - 48, f (p + 2) - 48)])
    else (pf_rg f n p a.length, a)
/-- a row of cells holds the guards of a list -/
def gf_hold (μ : gf_M) (b : Int) (a : List (Int × Int × Int)) : Prop := ∀ (i : Nat) (q : Int × Int × Int), a[i]? = some q → μ (b + i) 0 = q.1 ∧ μ (b + i) 1 = q.2.1 ∧ μ (b + i) 2 = q.2.2
theorem gf_hold_app {μ μ' : gf_M} {b : Int} {a : List (Int × Int × Int)} {q : Int × Int × Int} (h : gf_hold μ b a) (hm : ∀ (i : Nat) (j : Int), i < a.length → μ' (b + i) j = μ (b + i) j) (hq : μ' (b + a.length) 0 = q.1 ∧ μ' (b + a.length) 1 = q.2.1 ∧ μ' (b + a.length) 2 = q.2.2) : gf_hold μ' b (a ++ [q]) := by
  intro i r hr
  by_cases hi : i < a.length
  · rw [List.getElem?_append_left hi] at hr
    rw [hm i 0 hi, hm i 1 hi, hm i 2 hi]
    exact h i r hr
  · rw [List.getElem?_append_right (by omega)] at hr
    have hz : i - a.length < 1 := (List.getElem?_eq_some_iff.mp hr).1
    have : i = a.length := by omega
    subst this
    rw [Nat.sub_self] at hr
    cases hr
    exact hq
theorem dd_Re_kindOf_0 : decode cc_Re_kindOf 0 = .ok (.iconst 0, 1) := by decide +kernel
theorem dd_Re_kindOf_1 : decode cc_Re_kindOf 1 = .ok (.istore_n 1, 1) := by decide +kernel
theorem dd_Re_kindOf_2 : decode cc_Re_kindOf 2 = .ok (.iload_n 1, 1) := by decide +kernel
theorem dd_Re_kindOf_3 : decode cc_Re_kindOf 3 = .ok (.bipush 6, 2) := by decide +kernel
theorem dd_Re_kindOf_5 : decode cc_Re_kindOf 5 = .ok (.if_icmp .ge 20, 3) := by decide +kernel
theorem dd_Re_kindOf_8 : decode cc_Re_kindOf 8 = .ok (.getstatic 52, 3) := by decide +kernel
theorem dd_Re_kindOf_11 : decode cc_Re_kindOf 11 = .ok (.iload_n 1, 1) := by decide +kernel
theorem dd_Re_kindOf_12 : decode cc_Re_kindOf 12 = .ok (.iaload, 1) := by decide +kernel
theorem dd_Re_kindOf_13 : decode cc_Re_kindOf 13 = .ok (.iload_n 0, 1) := by decide +kernel
theorem dd_Re_kindOf_14 : decode cc_Re_kindOf 14 = .ok (.if_icmp .ne 5, 3) := by decide +kernel
theorem dd_Re_kindOf_17 : decode cc_Re_kindOf 17 = .ok (.iload_n 1, 1) := by decide +kernel
theorem dd_Re_kindOf_18 : decode cc_Re_kindOf 18 = .ok (.ireturn, 1) := by decide +kernel
theorem dd_Re_kindOf_19 : decode cc_Re_kindOf 19 = .ok (.iinc 1 1, 3) := by decide +kernel
theorem dd_Re_kindOf_22 : decode cc_Re_kindOf 22 = .ok (.goto (-20), 3) := by decide +kernel
theorem dd_Re_kindOf_25 : decode cc_Re_kindOf 25 = .ok (.bipush (-9), 2) := by decide +kernel
theorem dd_Re_kindOf_27 : decode cc_Re_kindOf 27 = .ok (.ireturn, 1) := by decide +kernel
set_option maxRecDepth 100000 in
set_option maxHeartbeats 4000000 in
theorem ct_Re_kindOf (l : Launch) (E : gf_E) (c : Int) (μ : gf_M) (hc : gf_R c) : gf_Mi l E yy_Re_kindOf cc_Re_kindOf 2 .int (gf_rm 0 0) 81 gf_ref μ [.int (gf_i c)] (fun r μ' => r = pf_pk c ∧ μ' = μ) := by
  refine gf_mi (by decide +kernel) (Nat.le_of_ble_eq_true rfl) (by decide) (fun X Q hlx C hQ => ?_)
  subst hlx
  replace C : gf_C X E cc_Re_kindOf 2 "GuardFigures$Reader" (gf_rm 0 0) := C
  show gf_G X E Q 2 gf_φ μ 0 [(0, .int (gf_i c))] []
  have hpR := pf_pk_R c
  refine gf_iconst C dd_Re_kindOf_0 ?_
  refine gf_istore_n (lv' := [(1, .int (gf_i 0)), (0, .int (gf_i c))]) C dd_Re_kindOf_1 (by decide) rfl ?_
  have L2_1 : ∀ (N : Nat) (i : Int) , (0 ≤ i ∧ i ≤ 6 ∧ (pf_pk c = -9 ∨ i ≤ pf_pk c)) → (6 - i).toNat < N → gf_G X E Q 2 gf_φ μ 2 [(1, .int (gf_i i)), (0, .int (gf_i c))] [] := by
    intro N
    induction N with
    | zero => intro i hinv hN; exact absurd hN (Nat.not_lt_zero _)
    | succ N ih2_1 =>
      intro i hinv hN
      have hinv0 := hinv
      obtain ⟨hi0, hi1, hi2⟩ := hinv
      refine gf_iload_n C dd_Re_kindOf_2 0 rfl ?_
      refine gf_bipush C dd_Re_kindOf_3 (by decide +kernel) ?_
      refine gf_icmp_ge 25 C dd_Re_kindOf_5 (by decide) (by omega) (by omega) (fun h5 => ?_) (fun h5 => ?_)
      · skip
        refine gf_bipush C dd_Re_kindOf_25 (by decide +kernel) ?_
        refine gf_iret C hQ dd_Re_kindOf_27 (by omega) ?_
        exact ⟨by omega, rfl⟩
      · skip
        refine gf_getsL C dd_Re_kindOf_8 ?_
        refine gf_iload_n C dd_Re_kindOf_11 0 rfl ?_
        have hle := pf_lets (x := i) (by omega)
        refine gf_tldL C dd_Re_kindOf_12 (by omega) ?_
        refine gf_iload_n C dd_Re_kindOf_13 1 rfl ?_
        refine gf_icmp_ne 19 C dd_Re_kindOf_14 (by decide) (by omega) (by omega) (fun h14 => ?_) (fun h14 => ?_)
        · skip
          obtain ⟨x19, hx19⟩ : ∃ y : Int, y = i + 1 := ⟨_, rfl⟩
          refine gf_iinc (q := 0) (v := x19) (lv' := [(1, .int (gf_i x19)), (0, .int (gf_i c))]) C dd_Re_kindOf_19 rfl hx19 (by decide) rfl ?_
          refine gf_goto 2 C dd_Re_kindOf_22 (by decide) ?_
          refine gf_lsub [0, 1] rfl ?_
          exact ih2_1 x19 (by
                  refine ⟨by omega, by omega, ?_⟩
                  have hne : pf_pk c ≠ i := fun e => h14 (by have := pf_pk_let (c := c) (by omega); rw [e] at this; exact this)
                  omega) (by omega)
        · skip
          refine gf_iload_n C dd_Re_kindOf_17 0 rfl ?_
          refine gf_iret C hQ dd_Re_kindOf_18 (by omega) ?_
          refine ⟨?_, rfl⟩
          rw [← h14]
          exact (pf_pk_of (by omega)).symm
  refine gf_lsub [0, 1] rfl ?_
  exact L2_1 _ 0 (by omega) (Nat.lt_succ_self _)

theorem dd_Re_readGuard_0 : decode cc_Re_readGuard 0 = .ok (.aload_n 1, 1) := by decide +kernel
theorem dd_Re_readGuard_1 : decode cc_Re_readGuard 1 = .ok (.getfield 27, 3) := by decide +kernel
theorem dd_Re_readGuard_4 : decode cc_Re_readGuard 4 = .ok (.iload_n 2, 1) := by decide +kernel
theorem dd_Re_readGuard_5 : decode cc_Re_readGuard 5 = .ok (.iaload, 1) := by decide +kernel
theorem dd_Re_readGuard_6 : decode cc_Re_readGuard 6 = .ok (.invokestatic 35, 3) := by decide +kernel
theorem dd_Re_readGuard_9 : decode cc_Re_readGuard 9 = .ok (.istore_n 3, 1) := by decide +kernel
theorem dd_Re_readGuard_10 : decode cc_Re_readGuard 10 = .ok (.iload_n 3, 1) := by decide +kernel
theorem dd_Re_readGuard_11 : decode cc_Re_readGuard 11 = .ok (.bipush (-9), 2) := by decide +kernel
theorem dd_Re_readGuard_13 : decode cc_Re_readGuard 13 = .ok (.if_icmp .eq 12, 3) := by decide +kernel
theorem dd_Re_readGuard_16 : decode cc_Re_readGuard 16 = .ok (.aload_n 0, 1) := by decide +kernel
theorem dd_Re_readGuard_17 : decode cc_Re_readGuard 17 = .ok (.getfield 18, 3) := by decide +kernel
theorem dd_Re_readGuard_20 : decode cc_Re_readGuard 20 = .ok (.bipush 7, 2) := by decide +kernel
theorem dd_Re_readGuard_22 : decode cc_Re_readGuard 22 = .ok (.if_icmp .lt 5, 3) := by decide +kernel
theorem dd_Re_readGuard_25 : decode cc_Re_readGuard 25 = .ok (.iload_n 2, 1) := by decide +kernel
theorem dd_Re_readGuard_26 : decode cc_Re_readGuard 26 = .ok (.ireturn, 1) := by decide +kernel
theorem dd_Re_readGuard_27 : decode cc_Re_readGuard 27 = .ok (.iload_n 2, 1) := by decide +kernel
theorem dd_Re_readGuard_28 : decode cc_Re_readGuard 28 = .ok (.iconst 1, 1) := by decide +kernel
theorem dd_Re_readGuard_29 : decode cc_Re_readGuard 29 = .ok (.iadd, 1) := by decide +kernel
theorem dd_Re_readGuard_30 : decode cc_Re_readGuard 30 = .ok (.istore 4, 2) := by decide +kernel
theorem dd_Re_readGuard_32 : decode cc_Re_readGuard 32 = .ok (.iload 4, 2) := by decide +kernel
theorem dd_Re_readGuard_34 : decode cc_Re_readGuard 34 = .ok (.iload_n 2, 1) := by decide +kernel
theorem dd_Re_readGuard_35 : decode cc_Re_readGuard 35 = .ok (.iconst 2, 1) := by decide +kernel
theorem dd_Re_readGuard_36 : decode cc_Re_readGuard 36 = .ok (.iadd, 1) := by decide +kernel
theorem dd_Re_readGuard_37 : decode cc_Re_readGuard 37 = .ok (.if_icmp .gt 44, 3) := by decide +kernel
theorem dd_Re_readGuard_40 : decode cc_Re_readGuard 40 = .ok (.iload 4, 2) := by decide +kernel
theorem dd_Re_readGuard_42 : decode cc_Re_readGuard 42 = .ok (.aload_n 1, 1) := by decide +kernel
theorem dd_Re_readGuard_43 : decode cc_Re_readGuard 43 = .ok (.getfield 22, 3) := by decide +kernel
theorem dd_Re_readGuard_46 : decode cc_Re_readGuard 46 = .ok (.if_icmp .lt 8, 3) := by decide +kernel
theorem dd_Re_readGuard_49 : decode cc_Re_readGuard 49 = .ok (.aload_n 1, 1) := by decide +kernel
theorem dd_Re_readGuard_50 : decode cc_Re_readGuard 50 = .ok (.getfield 22, 3) := by decide +kernel
theorem dd_Re_readGuard_53 : decode cc_Re_readGuard 53 = .ok (.ireturn, 1) := by decide +kernel
theorem dd_Re_readGuard_54 : decode cc_Re_readGuard 54 = .ok (.aload_n 1, 1) := by decide +kernel
theorem dd_Re_readGuard_55 : decode cc_Re_readGuard 55 = .ok (.getfield 27, 3) := by decide +kernel
theorem dd_Re_readGuard_58 : decode cc_Re_readGuard 58 = .ok (.iload 4, 2) := by decide +kernel
theorem dd_Re_readGuard_60 : decode cc_Re_readGuard 60 = .ok (.iaload, 1) := by decide +kernel
theorem dd_Re_readGuard_61 : decode cc_Re_readGuard 61 = .ok (.bipush 48, 2) := by decide +kernel
theorem dd_Re_readGuard_63 : decode cc_Re_readGuard 63 = .ok (.isub, 1) := by decide +kernel
theorem dd_Re_readGuard_64 : decode cc_Re_readGuard 64 = .ok (.bipush 10, 2) := by decide +kernel
theorem dd_Re_readGuard_66 : decode cc_Re_readGuard 66 = .ok (.invokestatic 39, 3) := by decide +kernel
theorem dd_Re_readGuard_69 : decode cc_Re_readGuard 69 = .ok (.ifCond .ne 6, 3) := by decide +kernel
theorem dd_Re_readGuard_72 : decode cc_Re_readGuard 72 = .ok (.iload 4, 2) := by decide +kernel
theorem dd_Re_readGuard_74 : decode cc_Re_readGuard 74 = .ok (.ireturn, 1) := by decide +kernel
theorem dd_Re_readGuard_75 : decode cc_Re_readGuard 75 = .ok (.iinc 4 1, 3) := by decide +kernel
theorem dd_Re_readGuard_78 : decode cc_Re_readGuard 78 = .ok (.goto (-46), 3) := by decide +kernel
theorem dd_Re_readGuard_81 : decode cc_Re_readGuard 81 = .ok (.aload_n 0, 1) := by decide +kernel
theorem dd_Re_readGuard_82 : decode cc_Re_readGuard 82 = .ok (.getfield 11, 3) := by decide +kernel
theorem dd_Re_readGuard_85 : decode cc_Re_readGuard 85 = .ok (.aload_n 0, 1) := by decide +kernel
theorem dd_Re_readGuard_86 : decode cc_Re_readGuard 86 = .ok (.getfield 18, 3) := by decide +kernel
theorem dd_Re_readGuard_89 : decode cc_Re_readGuard 89 = .ok (.aaload, 1) := by decide +kernel
theorem dd_Re_readGuard_90 : decode cc_Re_readGuard 90 = .ok (.astore 4, 2) := by decide +kernel
theorem dd_Re_readGuard_92 : decode cc_Re_readGuard 92 = .ok (.aload 4, 2) := by decide +kernel
theorem dd_Re_readGuard_94 : decode cc_Re_readGuard 94 = .ok (.iload_n 3, 1) := by decide +kernel
theorem dd_Re_readGuard_95 : decode cc_Re_readGuard 95 = .ok (.putfield 43, 3) := by decide +kernel
theorem dd_Re_readGuard_98 : decode cc_Re_readGuard 98 = .ok (.aload 4, 2) := by decide +kernel
theorem dd_Re_readGuard_100 : decode cc_Re_readGuard 100 = .ok (.aload_n 1, 1) := by decide +kernel
theorem dd_Re_readGuard_101 : decode cc_Re_readGuard 101 = .ok (.getfield 27, 3) := by decide +kernel
theorem dd_Re_readGuard_104 : decode cc_Re_readGuard 104 = .ok (.iload_n 2, 1) := by decide +kernel
theorem dd_Re_readGuard_105 : decode cc_Re_readGuard 105 = .ok (.iconst 1, 1) := by decide +kernel
theorem dd_Re_readGuard_106 : decode cc_Re_readGuard 106 = .ok (.iadd, 1) := by decide +kernel
theorem dd_Re_readGuard_107 : decode cc_Re_readGuard 107 = .ok (.iaload, 1) := by decide +kernel
theorem dd_Re_readGuard_108 : decode cc_Re_readGuard 108 = .ok (.bipush 48, 2) := by decide +kernel
theorem dd_Re_readGuard_110 : decode cc_Re_readGuard 110 = .ok (.isub, 1) := by decide +kernel
theorem dd_Re_readGuard_111 : decode cc_Re_readGuard 111 = .ok (.putfield 46, 3) := by decide +kernel
theorem dd_Re_readGuard_114 : decode cc_Re_readGuard 114 = .ok (.aload 4, 2) := by decide +kernel
theorem dd_Re_readGuard_116 : decode cc_Re_readGuard 116 = .ok (.aload_n 1, 1) := by decide +kernel
theorem dd_Re_readGuard_117 : decode cc_Re_readGuard 117 = .ok (.getfield 27, 3) := by decide +kernel
theorem dd_Re_readGuard_120 : decode cc_Re_readGuard 120 = .ok (.iload_n 2, 1) := by decide +kernel
theorem dd_Re_readGuard_121 : decode cc_Re_readGuard 121 = .ok (.iconst 2, 1) := by decide +kernel
theorem dd_Re_readGuard_122 : decode cc_Re_readGuard 122 = .ok (.iadd, 1) := by decide +kernel
theorem dd_Re_readGuard_123 : decode cc_Re_readGuard 123 = .ok (.iaload, 1) := by decide +kernel
theorem dd_Re_readGuard_124 : decode cc_Re_readGuard 124 = .ok (.bipush 48, 2) := by decide +kernel
theorem dd_Re_readGuard_126 : decode cc_Re_readGuard 126 = .ok (.isub, 1) := by decide +kernel
theorem dd_Re_readGuard_127 : decode cc_Re_readGuard 127 = .ok (.putfield 49, 3) := by decide +kernel
theorem dd_Re_readGuard_130 : decode cc_Re_readGuard 130 = .ok (.aload_n 0, 1) := by decide +kernel
theorem dd_Re_readGuard_131 : decode cc_Re_readGuard 131 = .ok (.dup, 1) := by decide +kernel
theorem dd_Re_readGuard_132 : decode cc_Re_readGuard 132 = .ok (.getfield 18, 3) := by decide +kernel
theorem dd_Re_readGuard_135 : decode cc_Re_readGuard 135 = .ok (.iconst 1, 1) := by decide +kernel
theorem dd_Re_readGuard_136 : decode cc_Re_readGuard 136 = .ok (.iadd, 1) := by decide +kernel
theorem dd_Re_readGuard_137 : decode cc_Re_readGuard 137 = .ok (.putfield 18, 3) := by decide +kernel
theorem dd_Re_readGuard_140 : decode cc_Re_readGuard 140 = .ok (.bipush (-9), 2) := by decide +kernel
theorem dd_Re_readGuard_142 : decode cc_Re_readGuard 142 = .ok (.ireturn, 1) := by decide +kernel
set_option maxRecDepth 100000 in
set_option maxHeartbeats 4000000 in
theorem ct_Re_readGuard (l : Launch) (E : gf_E) (k p : Int) (μ : gf_M) (hk : gf_oRow k 60) (hs : μ k 1 ≤ 60) (hp : 0 ≤ p ∧ p < μ k 1) (hc : 0 ≤ μ 44 1 ∧ μ 44 1 ≤ 7) (hk44 : k < 44) (hB : ∀ j : Int, 0 ≤ j → j < μ k 1 → -128 ≤ μ (k + 1) j ∧ μ (k + 1) j ≤ 127) : gf_Mi l E yy_Re_readGuard cc_Re_readGuard 5 .int (gf_rm 1 21) 81 gf_ref μ [.ref (gf_ad E 44), .ref (gf_ad E k), .int (gf_i p)] (fun r μ' => r = pf_rg (μ (k + 1)) (μ k 1) p (μ 44 1) ∧ (r ≠ -9 → μ' = μ) ∧ (r = -9 → μ' = gf_up (gf_up (gf_up (gf_up μ (46 + μ 44 1) 0 (pf_pk (μ (k + 1) p))) (46 + μ 44 1) 1 (μ (k + 1) (p + 1) - 48)) (46 + μ 44 1) 2 (μ (k + 1) (p + 2) - 48)) 44 1 (μ 44 1 + 1))) := by
  refine gf_mi (by decide +kernel) (Nat.le_of_ble_eq_true rfl) (by decide) (fun X Q hlx C hQ => ?_)
  subst hlx
  replace C : gf_C X E cc_Re_readGuard 5 "GuardFigures$Reader" (gf_rm 1 21) := C
  show gf_G X E Q 5 gf_φ μ 0 [(0, .ref (gf_ad E 44)), (1, .ref (gf_ad E k)), (2, .int (gf_i p))] []
  refine gf_aload_n C dd_Re_readGuard_0 1 rfl ?_
  refine gf_getA (r := (k + 1)) C gf_cl3 fl_Re_27 dd_Re_readGuard_1 rfl hk.1 hk.2.1 (hk.2.2).1 ?_
  refine gf_iload_n C dd_Re_readGuard_4 2 rfl ?_
  refine gf_iald C dd_Re_readGuard_5 hk.2.2 (by omega) (fun hv5 => ?_)
  refine gf_callSi (st := []) (As := [.int (gf_i (μ (k + 1) p))]) C wk_Re_35 (ct_Re_kindOf (gf_xl X) E (μ (k + 1) p) μ (by omega)) rfl ⟨rfl, rfl, rfl, rfl⟩ (Nat.le_of_ble_eq_true rfl) rfl dd_Re_readGuard_6 (fun r6 m6 hR6 hp6 => ?_)
  have hr6 := hp6.1
  refine gf_pm hp6.2 ?_
  have hpk := pf_pk_R (μ (k + 1) p)
  refine gf_istore_n (lv' := [(3, .int (gf_i r6)), (0, .ref (gf_ad E 44)), (1, .ref (gf_ad E k)), (2, .int (gf_i p))]) C dd_Re_readGuard_9 (by decide) rfl ?_
  refine gf_iload_n C dd_Re_readGuard_10 0 rfl ?_
  refine gf_bipush C dd_Re_readGuard_11 (by decide +kernel) ?_
  refine gf_icmp_eq 25 C dd_Re_readGuard_13 (by decide) (by omega) (by omega) (fun h13 => ?_) (fun h13 => ?_)
  · skip
    refine gf_iload_n C dd_Re_readGuard_25 3 rfl ?_
    refine gf_iret C hQ dd_Re_readGuard_26 (by omega) ?_
    refine ⟨?_, fun _ => rfl, fun h => by omega⟩
    unfold pf_rg
    rw [if_pos (by omega)]
  · skip
    refine gf_aload_n C dd_Re_readGuard_16 1 rfl ?_
    refine gf_getI (z := 1) C gf_cl2 fl_Re_18 dd_Re_readGuard_17 rfl rfl (show gf_is 81 44 0 2 2 by decide) (fun hv17 => ?_)
    refine gf_bipush C dd_Re_readGuard_20 (by decide +kernel) ?_
    refine gf_icmp_lt 27 C dd_Re_readGuard_22 (by decide) (by omega) (by omega) (fun h22 => ?_) (fun h22 => ?_)
    · skip
      refine gf_iload_n C dd_Re_readGuard_27 3 rfl ?_
      refine gf_iconst C dd_Re_readGuard_28 ?_
      refine gf_iadd C dd_Re_readGuard_29 ?_
      refine gf_nm (fun x30 hx30 => ?_)
      refine gf_istore (lv' := [(4, .int (gf_i x30)), (3, .int (gf_i r6)), (0, .ref (gf_ad E 44)), (1, .ref (gf_ad E k)), (2, .int (gf_i p))]) C dd_Re_readGuard_30 (by decide) rfl ?_
      have L32_1 : ∀ (N : Nat) (q : Int) , (p + 1 ≤ q ∧ q ≤ p + 3 ∧ (p + 1 < q → p + 1 < μ k 1 ∧ 48 ≤ μ (k + 1) (p + 1) ∧ μ (k + 1) (p + 1) ≤ 57) ∧ (p + 2 < q → p + 2 < μ k 1 ∧ 48 ≤ μ (k + 1) (p + 2) ∧ μ (k + 1) (p + 2) ≤ 57)) → (p + 3 - q).toNat < N → gf_G X E Q 5 gf_φ μ 32 [(4, .int (gf_i q)), (3, .int (gf_i r6)), (0, .ref (gf_ad E 44)), (1, .ref (gf_ad E k)), (2, .int (gf_i p))] [] := by
        intro N
        induction N with
        | zero => intro q hinv hN; exact absurd hN (Nat.not_lt_zero _)
        | succ N ih32_1 =>
          intro q hinv hN
          have hinv0 := hinv
          obtain ⟨hq0, hq1, hq2, hq3⟩ := hinv
          refine gf_iload C dd_Re_readGuard_32 0 rfl ?_
          refine gf_iload_n C dd_Re_readGuard_34 4 rfl ?_
          refine gf_iconst C dd_Re_readGuard_35 ?_
          refine gf_iadd C dd_Re_readGuard_36 ?_
          refine gf_icmp_gt 81 C dd_Re_readGuard_37 (by decide) (by omega) (by omega) (fun h37 => ?_) (fun h37 => ?_)
          · skip
            refine gf_aload_n C dd_Re_readGuard_81 2 rfl ?_
            refine gf_getA (r := 45) C gf_cl2 fl_Re_11 dd_Re_readGuard_82 rfl (show gf_is 81 44 0 2 2 by decide) (by decide) (by decide) ?_
            refine gf_aload_n C dd_Re_readGuard_85 2 rfl ?_
            refine gf_getI (z := 1) C gf_cl2 fl_Re_18 dd_Re_readGuard_86 rfl rfl (show gf_is 81 44 0 2 2 by decide) (fun hv86 => ?_)
            have ha89 := gf_rguard_of (r := (μ 44 1)) (by omega)
            refine gf_aald C dd_Re_readGuard_89 (show gf_is 81 45 4 4 7 by decide) (by decide) (by omega) ha89.1 (by omega) ?_
            refine gf_astore (lv' := [(4, .ref (gf_ad E (46 + (μ 44 1)))), (3, .int (gf_i r6)), (0, .ref (gf_ad E 44)), (1, .ref (gf_ad E k)), (2, .int (gf_i p))]) C dd_Re_readGuard_90 (by decide) rfl ?_
            have nk := hk.1.1
            refine gf_aload C dd_Re_readGuard_92 0 rfl ?_
            refine gf_iload_n C dd_Re_readGuard_94 1 rfl ?_
            refine gf_putI (z := 0) C gf_cl0 fl_Re_43 dd_Re_readGuard_95 rfl rfl rfl (by decide +kernel) ha89.2 (by omega) ?_
            refine gf_nmM (fun m95 hm95 => ?_)
            have e95 : ∀ b : Int, m95 (k + 1) b = μ (k + 1) b := fun b => by rw [hm95]; exact gf_up_k (by omega)
            have f1 := e95 (p + 1)
            refine gf_aload C dd_Re_readGuard_98 0 rfl ?_
            refine gf_aload_n C dd_Re_readGuard_100 3 rfl ?_
            refine gf_getA (r := (k + 1)) C gf_cl3 fl_Re_27 dd_Re_readGuard_101 rfl hk.1 hk.2.1 (hk.2.2).1 ?_
            refine gf_iload_n C dd_Re_readGuard_104 4 rfl ?_
            refine gf_iconst C dd_Re_readGuard_105 ?_
            refine gf_iadd C dd_Re_readGuard_106 ?_
            refine gf_iald C dd_Re_readGuard_107 hk.2.2 (by omega) (fun hv107 => ?_)
            refine gf_bipush C dd_Re_readGuard_108 (by decide +kernel) ?_
            refine gf_isub C dd_Re_readGuard_110 ?_
            refine gf_putI (z := 1) C gf_cl0 fl_Re_46 dd_Re_readGuard_111 rfl rfl rfl (by decide +kernel) ha89.2 (by omega) ?_
            refine gf_nmM (fun m111 hm111 => ?_)
            have e111 : ∀ b : Int, m111 (k + 1) b = μ (k + 1) b := fun b => by rw [hm111, gf_up_k (by omega)]; exact e95 b
            have f2 := e111 (p + 2)
            rw [f1] at hm111
            refine gf_aload C dd_Re_readGuard_114 0 rfl ?_
            refine gf_aload_n C dd_Re_readGuard_116 3 rfl ?_
            refine gf_getA (r := (k + 1)) C gf_cl3 fl_Re_27 dd_Re_readGuard_117 rfl hk.1 hk.2.1 (hk.2.2).1 ?_
            refine gf_iload_n C dd_Re_readGuard_120 4 rfl ?_
            refine gf_iconst C dd_Re_readGuard_121 ?_
            refine gf_iadd C dd_Re_readGuard_122 ?_
            refine gf_iald C dd_Re_readGuard_123 hk.2.2 (by omega) (fun hv123 => ?_)
            refine gf_bipush C dd_Re_readGuard_124 (by decide +kernel) ?_
            refine gf_isub C dd_Re_readGuard_126 ?_
            refine gf_putI (z := 2) C gf_cl0 fl_Re_49 dd_Re_readGuard_127 rfl rfl rfl (by decide +kernel) ha89.2 (by omega) ?_
            refine gf_nmM (fun m127 hm127 => ?_)
            have e127 : m127 44 1 = μ 44 1 := by rw [hm127, gf_up_k (by omega), hm111, gf_up_k (by omega), hm95, gf_up_k (by omega)]
            rw [f2] at hm127
            refine gf_aload_n C dd_Re_readGuard_130 2 rfl ?_
            refine gf_dup C dd_Re_readGuard_131 rfl ?_
            refine gf_getI (z := 1) C gf_cl2 fl_Re_18 dd_Re_readGuard_132 rfl rfl (show gf_is 81 44 0 2 2 by decide) (fun hv132 => ?_)
            refine gf_iconst C dd_Re_readGuard_135 ?_
            refine gf_iadd C dd_Re_readGuard_136 ?_
            refine gf_putI (z := 1) C gf_cl2 fl_Re_18 dd_Re_readGuard_137 rfl rfl rfl (by decide +kernel) (show gf_is 81 44 0 2 2 by decide) (by omega) ?_
            refine gf_nmM (fun m137 hm137 => ?_)
            refine gf_bipush C dd_Re_readGuard_140 (by decide +kernel) ?_
            refine gf_iret C hQ dd_Re_readGuard_142 (by omega) ?_
            refine ⟨?_, fun h => absurd rfl h, fun _ => ?_⟩
            · unfold pf_rg
              rw [if_neg (by omega), if_neg (by omega), if_neg (by omega), if_neg (by omega), if_neg (by omega)]
            · rw [hm137, e127, hm127, hm111, hm95, hr6]
          · skip
            refine gf_iload C dd_Re_readGuard_40 0 rfl ?_
            refine gf_aload_n C dd_Re_readGuard_42 3 rfl ?_
            refine gf_getI (z := 1) C gf_cl3 fl_Re_22 dd_Re_readGuard_43 rfl rfl hk.1 (fun hv43 => ?_)
            refine gf_icmp_lt 54 C dd_Re_readGuard_46 (by decide) (by omega) (by omega) (fun h46 => ?_) (fun h46 => ?_)
            · skip
              refine gf_aload_n C dd_Re_readGuard_54 3 rfl ?_
              refine gf_getA (r := (k + 1)) C gf_cl3 fl_Re_27 dd_Re_readGuard_55 rfl hk.1 hk.2.1 (hk.2.2).1 ?_
              refine gf_iload C dd_Re_readGuard_58 0 rfl ?_
              have hBq := hB q (by omega) (by omega)
              refine gf_iald C dd_Re_readGuard_60 hk.2.2 (by omega) (fun hv60 => ?_)
              refine gf_bipush C dd_Re_readGuard_61 (by decide +kernel) ?_
              refine gf_isub C dd_Re_readGuard_63 ?_
              refine gf_bipush C dd_Re_readGuard_64 (by decide +kernel) ?_
              refine gf_callNi (st := []) (As := [.int (gf_i ((μ (k + 1) q) - 48)), .int (gf_i 10)]) C im_Fi_isWithin C.2.2.2.2.2.2.1.2.2.2.2.2.2.2.2.1 (ct_Fi_isWithin (gf_xl X) E ((μ (k + 1) q) - 48) 10 μ (by omega) (by omega)) rfl ⟨rfl, rfl, rfl, rfl⟩ (Nat.le_of_ble_eq_true rfl) rfl dd_Re_readGuard_66 (fun r66 m66 hR66 hp66 => ?_)
              have hr66 := hp66.1
              refine gf_pm hp66.2 ?_
              refine gf_if_ne 75 C dd_Re_readGuard_69 (by decide) (by omega) (fun h69 => ?_) (fun h69 => ?_)
              · skip
                obtain ⟨x75, hx75⟩ : ∃ y : Int, y = q + 1 := ⟨_, rfl⟩
                refine gf_iinc (q := 0) (v := x75) (lv' := [(4, .int (gf_i x75)), (3, .int (gf_i r6)), (0, .ref (gf_ad E 44)), (1, .ref (gf_ad E k)), (2, .int (gf_i p))]) C dd_Re_readGuard_75 rfl hx75 (by decide) rfl ?_
                refine gf_goto 32 C dd_Re_readGuard_78 (by decide) ?_
                refine gf_lsub [0, 1, 2, 3, 4] rfl ?_
                exact ih32_1 x75 (by
                        have hw := hr66.2
                        refine ⟨by omega, by omega, fun h => ?_, fun h => ?_⟩
                        · by_cases e : q = p + 1
                          · subst e; omega
                          · exact hq2 (by omega)
                        · have e : q = p + 2 := by omega
                          subst e; omega) (by omega)
              · skip
                refine gf_iload C dd_Re_readGuard_72 0 rfl ?_
                refine gf_iret C hQ dd_Re_readGuard_74 (by omega) ?_
                have hw := hr66.1
                have hz : ¬ (48 ≤ μ (k + 1) q ∧ μ (k + 1) q ≤ 57) := by omega
                refine ⟨?_, fun _ => rfl, fun h => by omega⟩
                have hqc : q = p + 1 ∨ q = p + 2 := by omega
                unfold pf_rg
                rcases hqc with e | e <;> subst e
                · rw [if_neg (by omega), if_neg (by omega), if_pos hz]
                · rw [if_neg (by omega), if_neg (by omega), if_neg (by omega), if_neg (by omega), if_pos hz]
            · skip
              refine gf_aload_n C dd_Re_readGuard_49 3 rfl ?_
              refine gf_getI (z := 1) C gf_cl3 fl_Re_22 dd_Re_readGuard_50 rfl rfl hk.1 (fun hv50 => ?_)
              refine gf_iret C hQ dd_Re_readGuard_53 (by omega) ?_
              refine ⟨?_, fun _ => rfl, fun h => by omega⟩
              unfold pf_rg
              rw [if_neg (by omega)]
              repeat' split
              all_goals omega
      refine gf_lsub [0, 1, 2, 3, 4] rfl ?_
      exact L32_1 _ x30 (by omega) (Nat.lt_succ_self _)
    · skip
      refine gf_iload_n C dd_Re_readGuard_25 3 rfl ?_
      refine gf_iret C hQ dd_Re_readGuard_26 (by omega) ?_
      refine ⟨?_, fun _ => rfl, fun h => by omega⟩
      unfold pf_rg
      rw [if_pos (by omega)]

theorem dd_Re_read_0 : decode cc_Re_read 0 = .ok (.aload_n 0, 1) := by decide +kernel
theorem dd_Re_read_1 : decode cc_Re_read 1 = .ok (.iconst 0, 1) := by decide +kernel
theorem dd_Re_read_2 : decode cc_Re_read 2 = .ok (.putfield 18, 3) := by decide +kernel
theorem dd_Re_read_5 : decode cc_Re_read 5 = .ok (.iconst 0, 1) := by decide +kernel
theorem dd_Re_read_6 : decode cc_Re_read 6 = .ok (.istore_n 2, 1) := by decide +kernel
theorem dd_Re_read_7 : decode cc_Re_read 7 = .ok (.iconst 0, 1) := by decide +kernel
theorem dd_Re_read_8 : decode cc_Re_read 8 = .ok (.istore_n 3, 1) := by decide +kernel
theorem dd_Re_read_9 : decode cc_Re_read 9 = .ok (.iload_n 3, 1) := by decide +kernel
theorem dd_Re_read_10 : decode cc_Re_read 10 = .ok (.bipush 60, 2) := by decide +kernel
theorem dd_Re_read_12 : decode cc_Re_read 12 = .ok (.if_icmp .ge 55, 3) := by decide +kernel
theorem dd_Re_read_15 : decode cc_Re_read 15 = .ok (.iload_n 2, 1) := by decide +kernel
theorem dd_Re_read_16 : decode cc_Re_read 16 = .ok (.aload_n 1, 1) := by decide +kernel
theorem dd_Re_read_17 : decode cc_Re_read 17 = .ok (.getfield 22, 3) := by decide +kernel
theorem dd_Re_read_20 : decode cc_Re_read 20 = .ok (.if_icmp .ge 47, 3) := by decide +kernel
theorem dd_Re_read_23 : decode cc_Re_read 23 = .ok (.aload_n 1, 1) := by decide +kernel
theorem dd_Re_read_24 : decode cc_Re_read 24 = .ok (.getfield 27, 3) := by decide +kernel
theorem dd_Re_read_27 : decode cc_Re_read 27 = .ok (.iload_n 2, 1) := by decide +kernel
theorem dd_Re_read_28 : decode cc_Re_read 28 = .ok (.iaload, 1) := by decide +kernel
theorem dd_Re_read_29 : decode cc_Re_read 29 = .ok (.bipush 32, 2) := by decide +kernel
theorem dd_Re_read_31 : decode cc_Re_read 31 = .ok (.if_icmp .ne 9, 3) := by decide +kernel
theorem dd_Re_read_34 : decode cc_Re_read 34 = .ok (.iinc 2 1, 3) := by decide +kernel
theorem dd_Re_read_37 : decode cc_Re_read 37 = .ok (.goto 24, 3) := by decide +kernel
theorem dd_Re_read_40 : decode cc_Re_read 40 = .ok (.aload_n 0, 1) := by decide +kernel
theorem dd_Re_read_41 : decode cc_Re_read 41 = .ok (.aload_n 1, 1) := by decide +kernel
theorem dd_Re_read_42 : decode cc_Re_read 42 = .ok (.iload_n 2, 1) := by decide +kernel
theorem dd_Re_read_43 : decode cc_Re_read 43 = .ok (.invokevirtual 31, 3) := by decide +kernel
theorem dd_Re_read_46 : decode cc_Re_read 46 = .ok (.istore 4, 2) := by decide +kernel
theorem dd_Re_read_48 : decode cc_Re_read 48 = .ok (.iload 4, 2) := by decide +kernel
theorem dd_Re_read_50 : decode cc_Re_read 50 = .ok (.bipush (-9), 2) := by decide +kernel
theorem dd_Re_read_52 : decode cc_Re_read 52 = .ok (.if_icmp .eq 6, 3) := by decide +kernel
theorem dd_Re_read_55 : decode cc_Re_read 55 = .ok (.iload 4, 2) := by decide +kernel
theorem dd_Re_read_57 : decode cc_Re_read 57 = .ok (.ireturn, 1) := by decide +kernel
theorem dd_Re_read_58 : decode cc_Re_read 58 = .ok (.iinc 2 3, 3) := by decide +kernel
theorem dd_Re_read_61 : decode cc_Re_read 61 = .ok (.iinc 3 1, 3) := by decide +kernel
theorem dd_Re_read_64 : decode cc_Re_read 64 = .ok (.goto (-55), 3) := by decide +kernel
theorem dd_Re_read_67 : decode cc_Re_read 67 = .ok (.aload_n 0, 1) := by decide +kernel
theorem dd_Re_read_68 : decode cc_Re_read 68 = .ok (.getfield 18, 3) := by decide +kernel
theorem dd_Re_read_71 : decode cc_Re_read 71 = .ok (.iconst 2, 1) := by decide +kernel
theorem dd_Re_read_72 : decode cc_Re_read 72 = .ok (.if_icmp .ge 10, 3) := by decide +kernel
theorem dd_Re_read_75 : decode cc_Re_read 75 = .ok (.aload_n 1, 1) := by decide +kernel
theorem dd_Re_read_76 : decode cc_Re_read 76 = .ok (.getfield 22, 3) := by decide +kernel
theorem dd_Re_read_79 : decode cc_Re_read 79 = .ok (.goto 5, 3) := by decide +kernel
theorem dd_Re_read_82 : decode cc_Re_read 82 = .ok (.bipush (-9), 2) := by decide +kernel
theorem dd_Re_read_84 : decode cc_Re_read 84 = .ok (.ireturn, 1) := by decide +kernel
set_option maxRecDepth 100000 in
set_option maxHeartbeats 4000000 in
theorem ct_Re_read (l : Launch) (E : gf_E) (k : Int) (μ : gf_M) (hk : gf_oRow k 60) (hs : 0 ≤ μ k 1 ∧ μ k 1 ≤ 60) (hk44 : k < 43) (hB : ∀ j : Int, 0 ≤ j → j < μ k 1 → -128 ≤ μ (k + 1) j ∧ μ (k + 1) j ≤ 127) : gf_Mi l E yy_Re_read cc_Re_read 5 .int (gf_rm 2 45) 81 gf_ref μ [.ref (gf_ad E 44), .ref (gf_ad E k)] (fun r μ' => r = (pf_pr (μ (k + 1)) (μ k 1) 61 0 []).1 ∧ (r = -9 → μ' 44 1 = ((pf_pr (μ (k + 1)) (μ k 1) 61 0 []).2.length : Int) ∧ 2 ≤ μ' 44 1 ∧ μ' 44 1 ≤ 7 ∧ gf_hold μ' 46 (pf_pr (μ (k + 1)) (μ k 1) 61 0 []).2) ∧ ∀ a b : Int, ¬ (44 ≤ a ∧ a ≤ 52) → μ' a b = μ a b) := by
  refine gf_mi (by decide +kernel) (Nat.le_of_ble_eq_true rfl) (by decide) (fun X Q hlx C hQ => ?_)
  subst hlx
  replace C : gf_C X E cc_Re_read 5 "GuardFigures$Reader" (gf_rm 2 45) := C
  show gf_G X E Q 5 gf_φ μ 0 [(0, .ref (gf_ad E 44)), (1, .ref (gf_ad E k))] []
  have nk := hk.1.1
  refine gf_aload_n C dd_Re_read_0 0 rfl ?_
  refine gf_iconst C dd_Re_read_1 ?_
  refine gf_putI (z := 1) C gf_cl2 fl_Re_18 dd_Re_read_2 rfl rfl rfl (by decide +kernel) (show gf_is 81 44 0 2 2 by decide) (by omega) ?_
  refine gf_nmM (fun m2 hm2 => ?_)
  refine gf_iconst C dd_Re_read_5 ?_
  refine gf_istore_n (lv' := [(2, .int (gf_i 0)), (0, .ref (gf_ad E 44)), (1, .ref (gf_ad E k))]) C dd_Re_read_6 (by decide) rfl ?_
  refine gf_iconst C dd_Re_read_7 ?_
  refine gf_istore_n (lv' := [(3, .int (gf_i 0)), (2, .int (gf_i 0)), (0, .ref (gf_ad E 44)), (1, .ref (gf_ad E k))]) C dd_Re_read_8 (by decide) rfl ?_
  have L9_1 : ∀ (N : Nat) (p u : Int) (m : gf_M) , (∃ a : List (Int × Int × Int), 0 ≤ u ∧ u ≤ 60 ∧ u ≤ p ∧ p ≤ 180 ∧ a.length ≤ 7 ∧ pf_pr (μ (k + 1)) (μ k 1) 61 0 [] = pf_pr (μ (k + 1)) (μ k 1) (61 - u.toNat) p a ∧ m 44 1 = (a.length : Int) ∧ gf_hold m 46 a ∧ ∀ c b : Int, ¬ (44 ≤ c ∧ c ≤ 52) → m c b = μ c b) → (60 - u).toNat < N → gf_G X E Q 5 gf_φ m 9 [(2, .int (gf_i p)), (3, .int (gf_i u)), (0, .ref (gf_ad E 44)), (1, .ref (gf_ad E k))] [] := by
    intro N
    induction N with
    | zero => intro p u m hinv hN; exact absurd hN (Nat.not_lt_zero _)
    | succ N ih9_1 =>
      intro p u m hinv hN
      have hinv0 := hinv
      obtain ⟨a, hu0, hu1, hu2, hu3, hal, hpr, hm1, hho, hfr⟩ := hinv
      have fk1 := hfr k 1 (by omega)
      have ff : ∀ b : Int, m (k + 1) b = μ (k + 1) b := fun b => hfr (k + 1) b (by omega)
      have ffp := ff p
      refine gf_iload_n C dd_Re_read_9 1 rfl ?_
      refine gf_bipush C dd_Re_read_10 (by decide +kernel) ?_
      refine gf_icmp_ge 67 C dd_Re_read_12 (by decide) (by omega) (by omega) (fun h12 => ?_) (fun h12 => ?_)
      · skip
        refine gf_aload_n C dd_Re_read_67 2 rfl ?_
        refine gf_getI (z := 1) C gf_cl2 fl_Re_18 dd_Re_read_68 rfl rfl (show gf_is 81 44 0 2 2 by decide) (fun hv68 => ?_)
        refine gf_iconst C dd_Re_read_71 ?_
        refine gf_icmp_ge 82 C dd_Re_read_72 (by decide) (by omega) (by omega) (fun h72 => ?_) (fun h72 => ?_)
        · skip
          refine gf_bipush C dd_Re_read_82 (by decide +kernel) ?_
          refine gf_iret C hQ dd_Re_read_84 (by omega) ?_
          have hfin : pf_pr (μ (k + 1)) (μ k 1) 61 0 [] = (if (a.length : Int) < 2 then μ k 1 else -9, a) := by
            rw [hpr, show 61 - u.toNat = (60 - u.toNat) + 1 by omega]
            show (if _ ≤ p then _ else if _ then _ else if _ then _ else _) = _
            rw [if_pos (by omega)]
          rw [hfin]
          first
            | (refine ⟨?_, fun h => by omega, hfr⟩; show _ = if _ then _ else _; rw [if_pos (by omega)]; exact fk1)
            | (refine ⟨?_, fun h => ⟨hm1, by omega, by omega, hho⟩, hfr⟩; show _ = if _ then _ else _; rw [if_neg (by omega)])
        · skip
          refine gf_aload_n C dd_Re_read_75 3 rfl ?_
          refine gf_getI (z := 1) C gf_cl3 fl_Re_22 dd_Re_read_76 rfl rfl hk.1 (fun hv76 => ?_)
          refine gf_goto 84 C dd_Re_read_79 (by decide) ?_
          refine gf_iret C hQ dd_Re_read_84 (by omega) ?_
          have hfin : pf_pr (μ (k + 1)) (μ k 1) 61 0 [] = (if (a.length : Int) < 2 then μ k 1 else -9, a) := by
            rw [hpr, show 61 - u.toNat = (60 - u.toNat) + 1 by omega]
            show (if _ ≤ p then _ else if _ then _ else if _ then _ else _) = _
            rw [if_pos (by omega)]
          rw [hfin]
          first
            | (refine ⟨?_, fun h => by omega, hfr⟩; show _ = if _ then _ else _; rw [if_pos (by omega)]; exact fk1)
            | (refine ⟨?_, fun h => ⟨hm1, by omega, by omega, hho⟩, hfr⟩; show _ = if _ then _ else _; rw [if_neg (by omega)])
      · skip
        refine gf_iload_n C dd_Re_read_15 0 rfl ?_
        refine gf_aload_n C dd_Re_read_16 3 rfl ?_
        refine gf_getI (z := 1) C gf_cl3 fl_Re_22 dd_Re_read_17 rfl rfl hk.1 (fun hv17 => ?_)
        refine gf_icmp_ge 67 C dd_Re_read_20 (by decide) (by omega) (by omega) (fun h20 => ?_) (fun h20 => ?_)
        · skip
          refine gf_aload_n C dd_Re_read_67 2 rfl ?_
          refine gf_getI (z := 1) C gf_cl2 fl_Re_18 dd_Re_read_68 rfl rfl (show gf_is 81 44 0 2 2 by decide) (fun hv68 => ?_)
          refine gf_iconst C dd_Re_read_71 ?_
          refine gf_icmp_ge 82 C dd_Re_read_72 (by decide) (by omega) (by omega) (fun h72 => ?_) (fun h72 => ?_)
          · skip
            refine gf_bipush C dd_Re_read_82 (by decide +kernel) ?_
            refine gf_iret C hQ dd_Re_read_84 (by omega) ?_
            have hfin : pf_pr (μ (k + 1)) (μ k 1) 61 0 [] = (if (a.length : Int) < 2 then μ k 1 else -9, a) := by
              rw [hpr, show 61 - u.toNat = (60 - u.toNat) + 1 by omega]
              show (if _ ≤ p then _ else if _ then _ else if _ then _ else _) = _
              rw [if_pos (by omega)]
            rw [hfin]
            first
              | (refine ⟨?_, fun h => by omega, hfr⟩; show _ = if _ then _ else _; rw [if_pos (by omega)]; exact fk1)
              | (refine ⟨?_, fun h => ⟨hm1, by omega, by omega, hho⟩, hfr⟩; show _ = if _ then _ else _; rw [if_neg (by omega)])
          · skip
            refine gf_aload_n C dd_Re_read_75 3 rfl ?_
            refine gf_getI (z := 1) C gf_cl3 fl_Re_22 dd_Re_read_76 rfl rfl hk.1 (fun hv76 => ?_)
            refine gf_goto 84 C dd_Re_read_79 (by decide) ?_
            refine gf_iret C hQ dd_Re_read_84 (by omega) ?_
            have hfin : pf_pr (μ (k + 1)) (μ k 1) 61 0 [] = (if (a.length : Int) < 2 then μ k 1 else -9, a) := by
              rw [hpr, show 61 - u.toNat = (60 - u.toNat) + 1 by omega]
              show (if _ ≤ p then _ else if _ then _ else if _ then _ else _) = _
              rw [if_pos (by omega)]
            rw [hfin]
            first
              | (refine ⟨?_, fun h => by omega, hfr⟩; show _ = if _ then _ else _; rw [if_pos (by omega)]; exact fk1)
              | (refine ⟨?_, fun h => ⟨hm1, by omega, by omega, hho⟩, hfr⟩; show _ = if _ then _ else _; rw [if_neg (by omega)])
        · skip
          refine gf_aload_n C dd_Re_read_23 3 rfl ?_
          refine gf_getA (r := (k + 1)) C gf_cl3 fl_Re_27 dd_Re_read_24 rfl hk.1 hk.2.1 (hk.2.2).1 ?_
          refine gf_iload_n C dd_Re_read_27 0 rfl ?_
          refine gf_iald C dd_Re_read_28 hk.2.2 (by omega) (fun hv28 => ?_)
          refine gf_bipush C dd_Re_read_29 (by decide +kernel) ?_
          refine gf_icmp_ne 40 C dd_Re_read_31 (by decide) (by omega) (by omega) (fun h31 => ?_) (fun h31 => ?_)
          · skip
            refine gf_aload_n C dd_Re_read_40 2 rfl ?_
            refine gf_aload_n C dd_Re_read_41 3 rfl ?_
            refine gf_iload_n C dd_Re_read_42 0 rfl ?_
            refine gf_callVi (st := []) (As := [.ref (gf_ad E k), .int (gf_i p)]) C wk_Re_31 gf_cl2 (show gf_is 81 44 0 2 2 by decide) (ct_Re_readGuard (gf_xl X) E k p m hk (by omega) (by omega) (by omega) (by omega) (fun j h0 h1 => by rw [hfr (k + 1) j (by omega)]; exact hB j h0 (by omega))) rfl ⟨rfl, rfl, rfl, rfl⟩ (Nat.le_of_ble_eq_true rfl) rfl dd_Re_read_43 (fun r43 m43 hR43 hp43 => ?_)
            refine gf_istore (lv' := [(4, .int (gf_i r43)), (2, .int (gf_i p)), (3, .int (gf_i u)), (0, .ref (gf_ad E 44)), (1, .ref (gf_ad E k))]) C dd_Re_read_46 (by decide) rfl ?_
            refine gf_iload C dd_Re_read_48 0 rfl ?_
            refine gf_bipush C dd_Re_read_50 (by decide +kernel) ?_
            refine gf_icmp_eq 58 C dd_Re_read_52 (by decide) (by omega) (by omega) (fun h52 => ?_) (fun h52 => ?_)
            · skip
              obtain ⟨x58, hx58⟩ : ∃ y : Int, y = p + 3 := ⟨_, rfl⟩
              refine gf_iinc (q := 1) (v := x58) (lv' := [(2, .int (gf_i x58)), (4, .int (gf_i r43)), (3, .int (gf_i u)), (0, .ref (gf_ad E 44)), (1, .ref (gf_ad E k))]) C dd_Re_read_58 rfl hx58 (by decide) rfl ?_
              obtain ⟨x61, hx61⟩ : ∃ y : Int, y = u + 1 := ⟨_, rfl⟩
              refine gf_iinc (q := 2) (v := x61) (lv' := [(3, .int (gf_i x61)), (2, .int (gf_i x58)), (4, .int (gf_i r43)), (0, .ref (gf_ad E 44)), (1, .ref (gf_ad E k))]) C dd_Re_read_61 rfl hx61 (by decide) rfl ?_
              refine gf_goto 9 C dd_Re_read_64 (by decide) ?_
              refine gf_lsub [1, 0, 3, 4] rfl ?_
              exact ih9_1 x58 x61 m43 (by
                      first
                      | (refine ⟨a, by omega, by omega, by omega, by omega, hal, ?_, hm1, hho, hfr⟩
                         rw [hpr, show 61 - u.toNat = (61 - x61.toNat) + 1 by omega]
                         show (if _ ≤ p then _ else if _ then _ else _) = _
                         rw [if_neg (by omega), if_pos (by omega), hx34])
                      | (obtain ⟨hra, hrb, hrc⟩ := hp43
                         have h9 : r43 = -9 := by omega
                         have hu := hrc h9
                         have hlen : pf_rg (μ (k + 1)) (μ k 1) p (a.length : Int) = -9 := by rw [← h9, hra, hm1, fk1, show m (k + 1) = μ (k + 1) from funext ff]
                         have hl7 : (a.length : Int) < 7 := by
                           unfold pf_rg at hlen
                           by_cases z : pf_pk (μ (k + 1) p) = -9 ∨ 7 ≤ (a.length : Int)
                           · rw [if_pos z] at hlen; omega
                           · omega
                         have hf : ∀ c b : Int, c ≠ 44 → c ≠ 46 + (a.length : Int) → m43 c b = m c b := fun c b h1 h2 => by rw [hu, hm1, gf_up_k h1, gf_up_k h2, gf_up_k h2, gf_up_k h2]
                         refine ⟨a ++ [(pf_pk (μ (k + 1) p), μ (k + 1) (p + 1) - 48, μ (k + 1) (p + 2) - 48)], by omega, by omega, by omega, by omega, by simp; omega, ?_, by rw [hu, gf_up_s, hm1]; simp, ?_, fun c b h => by rw [hf c b (by omega) (by omega)]; exact hfr c b h⟩
                         · rw [hpr, show 61 - u.toNat = (61 - x61.toNat) + 1 by omega]
                           show (if _ ≤ p then _ else if _ then _ else if _ then _ else _) = _
                           rw [if_neg (by omega), if_neg (by omega), if_pos hlen, hx58]
                         · refine gf_hold_app hho (fun i j hi => hf _ _ (by omega) (by omega)) ?_
                           rw [hu, hm1, ff p, ff (p + 1), ff (p + 2)]
                           refine ⟨?_, ?_, ?_⟩
                           · rw [gf_up_k (by omega), gf_up_j (by decide), gf_up_j (by decide)]; exact gf_up_s
                           · rw [gf_up_k (by omega), gf_up_j (by decide)]; exact gf_up_s
                           · rw [gf_up_k (by omega)]; exact gf_up_s)) (by omega)
            · skip
              refine gf_iload C dd_Re_read_55 0 rfl ?_
              refine gf_iret C hQ dd_Re_read_57 (by omega) ?_
              obtain ⟨hra, hrb, hrc⟩ := hp43
              have h9 : r43 ≠ -9 := by omega
              have hlen : r43 = pf_rg (μ (k + 1)) (μ k 1) p (a.length : Int) := by rw [hra, hm1, fk1, show m (k + 1) = μ (k + 1) from funext ff]
              have hfin : pf_pr (μ (k + 1)) (μ k 1) 61 0 [] = (r43, a) := by
                rw [hpr, show 61 - u.toNat = (60 - u.toNat) + 1 by omega]
                show (if _ ≤ p then _ else if _ then _ else if _ then _ else _) = _
                rw [if_neg (by omega), if_neg (by omega), if_neg (by omega), ← hlen]
              refine ⟨by rw [hfin], fun h => absurd h h9, fun c b h => by rw [hrb h9]; exact hfr c b h⟩
          · skip
            obtain ⟨x34, hx34⟩ : ∃ y : Int, y = p + 1 := ⟨_, rfl⟩
            refine gf_iinc (q := 0) (v := x34) (lv' := [(2, .int (gf_i x34)), (3, .int (gf_i u)), (0, .ref (gf_ad E 44)), (1, .ref (gf_ad E k))]) C dd_Re_read_34 rfl hx34 (by decide) rfl ?_
            refine gf_goto 61 C dd_Re_read_37 (by decide) ?_
            obtain ⟨x61, hx61⟩ : ∃ y : Int, y = u + 1 := ⟨_, rfl⟩
            refine gf_iinc (q := 1) (v := x61) (lv' := [(3, .int (gf_i x61)), (2, .int (gf_i x34)), (0, .ref (gf_ad E 44)), (1, .ref (gf_ad E k))]) C dd_Re_read_61 rfl hx61 (by decide) rfl ?_
            refine gf_goto 9 C dd_Re_read_64 (by decide) ?_
            refine gf_lsub [1, 0, 2, 3] rfl ?_
            exact ih9_1 x34 x61 m (by
                    first
                    | (refine ⟨a, by omega, by omega, by omega, by omega, hal, ?_, hm1, hho, hfr⟩
                       rw [hpr, show 61 - u.toNat = (61 - x61.toNat) + 1 by omega]
                       show (if _ ≤ p then _ else if _ then _ else _) = _
                       rw [if_neg (by omega), if_pos (by omega), hx34])
                    | (obtain ⟨hra, hrb, hrc⟩ := hp43
                       have h9 : r43 = -9 := by omega
                       have hu := hrc h9
                       have hlen : pf_rg (μ (k + 1)) (μ k 1) p (a.length : Int) = -9 := by rw [← h9, hra, hm1, fk1, show m (k + 1) = μ (k + 1) from funext ff]
                       have hl7 : (a.length : Int) < 7 := by
                         unfold pf_rg at hlen
                         by_cases z : pf_pk (μ (k + 1) p) = -9 ∨ 7 ≤ (a.length : Int)
                         · rw [if_pos z] at hlen; omega
                         · omega
                       have hf : ∀ c b : Int, c ≠ 44 → c ≠ 46 + (a.length : Int) → m43 c b = m c b := fun c b h1 h2 => by rw [hu, hm1, gf_up_k h1, gf_up_k h2, gf_up_k h2, gf_up_k h2]
                       refine ⟨a ++ [(pf_pk (μ (k + 1) p), μ (k + 1) (p + 1) - 48, μ (k + 1) (p + 2) - 48)], by omega, by omega, by omega, by omega, by simp; omega, ?_, by rw [hu, gf_up_s, hm1]; simp, ?_, fun c b h => by rw [hf c b (by omega) (by omega)]; exact hfr c b h⟩
                       · rw [hpr, show 61 - u.toNat = (61 - x61.toNat) + 1 by omega]
                         show (if _ ≤ p then _ else if _ then _ else if _ then _ else _) = _
                         rw [if_neg (by omega), if_neg (by omega), if_pos hlen, hx58]
                       · refine gf_hold_app hho (fun i j hi => hf _ _ (by omega) (by omega)) ?_
                         rw [hu, hm1, ff p, ff (p + 1), ff (p + 2)]
                         refine ⟨?_, ?_, ?_⟩
                         · rw [gf_up_k (by omega), gf_up_j (by decide), gf_up_j (by decide)]; exact gf_up_s
                         · rw [gf_up_k (by omega), gf_up_j (by decide)]; exact gf_up_s
                         · rw [gf_up_k (by omega)]; exact gf_up_s)) (by omega)
  refine gf_lsub [1, 0, 2, 3] rfl ?_
  exact L9_1 _ 0 0 m2 (⟨[], by omega, by omega, by omega, by omega, by simp, rfl, by rw [hm2]; exact gf_up_s, fun i q h => by simp at h, fun c b h => by rw [hm2]; exact gf_up_k (by omega)⟩) (Nat.lt_succ_self _)
