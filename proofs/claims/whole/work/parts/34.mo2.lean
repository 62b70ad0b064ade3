/-! the reference: reading a text -/
theorem gf_up_id (μ : gf_M) (k j : Int) : gf_up μ k j (μ k j) = μ := by
  funext a b
  by_cases e : a = k ∧ b = j
  · rw [e.1, e.2, gf_up_s]
  · rw [gf_up_o e]
theorem gf_up_up (μ : gf_M) (k j v w : Int) : gf_up (gf_up μ k j v) k j w = gf_up μ k j w := by
  funext a b
  by_cases e : a = k ∧ b = j
  · rw [e.1, e.2, gf_up_s, gf_up_s]
  · rw [gf_up_o e, gf_up_o e, gf_up_o e]
def gm_let (f : Int → Int) (n p : Int) : Int := if p < n then f p else -1000
theorem pf_pr_up {f : Int → Int} {n : Int} : ∀ (k : Nat) (p : Int) (a : List (Int × Int × Int)), n - p < k → pf_pr f n k p a = pf_pr f n (k + 1) p a
  | 0, p, a, h => by
    show _ = if n ≤ p then _ else _
    rw [if_pos (by omega)]
    rfl
  | k + 1, p, a, h => by
    show (if n ≤ p then _ else if f p = 32 then pf_pr f n k (p + 1) a else if pf_rg f n p a.length = -9 then pf_pr f n k (p + 3) _ else _) = (if n ≤ p then _ else if f p = 32 then pf_pr f n (k + 1) (p + 1) a else if pf_rg f n p a.length = -9 then pf_pr f n (k + 1) (p + 3) _ else _)
    rw [pf_pr_up k (p + 1) a (by omega), pf_pr_up k (p + 3) _ (by omega)]
theorem pf_pr_s {f : Int → Int} {n p : Int} {a : List (Int × Int × Int)} (hn : n ≤ 60) (hp : 0 ≤ p) : pf_pr f n 61 p a = if n ≤ p then (if (a.length : Int) < 2 then n else -9, a) else if f p = 32 then pf_pr f n 61 (p + 1) a else if pf_rg f n p a.length = -9 then pf_pr f n 61 (p + 3) (a ++ [(pf_pk (f p), f (p + 1) - 48, f (p + 2) - 48)]) else (pf_rg f n p a.length, a) := by
  show (if n ≤ p then _ else if f p = 32 then pf_pr f n 60 (p + 1) a else if pf_rg f n p a.length = -9 then pf_pr f n 60 (p + 3) _ else _) = _
  rw [pf_pr_up 60 (p + 1) a (by omega), pf_pr_up 60 (p + 3) _ (by omega)]
theorem pf_pr_skip {f : Int → Int} {n : Int} {a : List (Int × Int × Int)} (hn : n ≤ 60) {p : Int} (hp : 0 ≤ p) : ∀ (d : Nat), (∀ j : Int, p ≤ j → j < p + d → j < n ∧ f j = 32) → pf_pr f n 61 p a = pf_pr f n 61 (p + d) a
  | 0, _ => by rw [show p + ((0 : Nat) : Int) = p by omega]
  | d + 1, h => by
    rw [pf_pr_skip hn hp d (fun j h0 h1 => h j h0 (by omega)), pf_pr_s hn (show 0 ≤ p + (d : Int) by omega)]
    have := h (p + d) (by omega) (by omega)
    rw [if_neg (by omega), if_pos this.2, show p + (d : Int) + 1 = p + ((d + 1 : Nat) : Int) by omega]
/-- the reader's rows hold the guards of a list -/
def gm_hold (μ : gf_M) (k : Int) (a : List (Int × Int × Int)) : Prop := ∀ (i : Nat) (q : Int × Int × Int), a[i]? = some q → μ k (3 + i) = q.1 ∧ μ k (10 + i) = q.2.1 ∧ μ k (17 + i) = q.2.2
theorem pf_rg_R {f : Int → Int} {n p c : Int} (hp : 0 ≤ p ∧ p < n) : pf_rg f n p c = -9 ∨ (0 ≤ pf_rg f n p c ∧ pf_rg f n p c ≤ n) := by
  unfold pf_rg
  repeat' split
  all_goals omega
theorem pf_pr_R {f : Int → Int} {n : Int} (hn : 0 ≤ n) : ∀ (k : Nat) (p : Int) (a : List (Int × Int × Int)), 0 ≤ p → a.length ≤ 7 → ((pf_pr f n k p a).1 = -9 ∨ (0 ≤ (pf_pr f n k p a).1 ∧ (pf_pr f n k p a).1 ≤ n)) ∧ (pf_pr f n k p a).2.length ≤ 7 ∧ ((pf_pr f n k p a).1 = -9 → 2 ≤ (pf_pr f n k p a).2.length)
  | 0, p, a, hp, ha => by
    show ((if (a.length : Int) < 2 then n else -9) = -9 ∨ (0 ≤ (if (a.length : Int) < 2 then n else -9) ∧ (if (a.length : Int) < 2 then n else -9) ≤ n)) ∧ a.length ≤ 7 ∧ ((if (a.length : Int) < 2 then n else -9) = -9 → 2 ≤ a.length)
    split <;> omega
  | k + 1, p, a, hp, ha => by
    unfold pf_pr
    split
    · show ((if (a.length : Int) < 2 then n else -9) = -9 ∨ (0 ≤ (if (a.length : Int) < 2 then n else -9) ∧ (if (a.length : Int) < 2 then n else -9) ≤ n)) ∧ a.length ≤ 7 ∧ ((if (a.length : Int) < 2 then n else -9) = -9 → 2 ≤ a.length)
      split <;> omega
    · split
      · exact pf_pr_R hn k (p + 1) a (by omega) ha
      · split
        · rename_i h1 h2 h3
          refine pf_pr_R hn k (p + 3) _ (by omega) ?_
          rw [List.length_append]
          have : a.length < 7 := by
            unfold pf_rg at h3
            by_cases e : pf_pk (f p) = -9 ∨ (7 : Int) ≤ a.length
            · rw [if_pos e] at h3; omega
            · omega
          show a.length + 1 ≤ 7
          omega
        · rename_i h1 h2 h3
          have := pf_rg_R (f := f) (c := a.length) (show 0 ≤ p ∧ p < n by omega)
          exact ⟨this, ha, fun h => absurd h h3⟩
theorem dd_Mo_letter_0 : decode cc_Mo_letter 0 = .ok (.aload_n 0, 1) := by decide +kernel
theorem dd_Mo_letter_1 : decode cc_Mo_letter 1 = .ok (.getfield 93, 3) := by decide +kernel
theorem dd_Mo_letter_4 : decode cc_Mo_letter 4 = .ok (.aload_n 0, 1) := by decide +kernel
theorem dd_Mo_letter_5 : decode cc_Mo_letter 5 = .ok (.getfield 16, 3) := by decide +kernel
theorem dd_Mo_letter_8 : decode cc_Mo_letter 8 = .ok (.aload_n 0, 1) := by decide +kernel
theorem dd_Mo_letter_9 : decode cc_Mo_letter 9 = .ok (.getfield 96, 3) := by decide +kernel
theorem dd_Mo_letter_12 : decode cc_Mo_letter 12 = .ok (.iaload, 1) := by decide +kernel
theorem dd_Mo_letter_13 : decode cc_Mo_letter 13 = .ok (.if_icmp .ge 23, 3) := by decide +kernel
theorem dd_Mo_letter_16 : decode cc_Mo_letter 16 = .ok (.aload_n 0, 1) := by decide +kernel
theorem dd_Mo_letter_17 : decode cc_Mo_letter 17 = .ok (.getfield 19, 3) := by decide +kernel
theorem dd_Mo_letter_20 : decode cc_Mo_letter 20 = .ok (.bipush 60, 2) := by decide +kernel
theorem dd_Mo_letter_22 : decode cc_Mo_letter 22 = .ok (.aload_n 0, 1) := by decide +kernel
theorem dd_Mo_letter_23 : decode cc_Mo_letter 23 = .ok (.getfield 96, 3) := by decide +kernel
theorem dd_Mo_letter_26 : decode cc_Mo_letter 26 = .ok (.imul, 1) := by decide +kernel
theorem dd_Mo_letter_27 : decode cc_Mo_letter 27 = .ok (.aload_n 0, 1) := by decide +kernel
theorem dd_Mo_letter_28 : decode cc_Mo_letter 28 = .ok (.getfield 93, 3) := by decide +kernel
theorem dd_Mo_letter_31 : decode cc_Mo_letter 31 = .ok (.iadd, 1) := by decide +kernel
theorem dd_Mo_letter_32 : decode cc_Mo_letter 32 = .ok (.baload, 1) := by decide +kernel
theorem dd_Mo_letter_33 : decode cc_Mo_letter 33 = .ok (.goto 6, 3) := by decide +kernel
theorem dd_Mo_letter_36 : decode cc_Mo_letter 36 = .ok (.sipush (-1000), 3) := by decide +kernel
theorem dd_Mo_letter_39 : decode cc_Mo_letter 39 = .ok (.ireturn, 1) := by decide +kernel
set_option maxRecDepth 100000 in
set_option maxHeartbeats 4000000 in
theorem ct_Mo_letter (l : Launch) (E : gf_E) (t n p : Int) (μ : gf_M) (ht : μ 65 10 = t) (ht4 : 0 ≤ t ∧ t < 4) (hn : μ 68 t = n) (hn60 : 0 ≤ n ∧ n ≤ 60) (hp : μ 65 11 = p) (hpn : 0 ≤ p ∧ p ≤ n) (htb : ∀ j : Int, -128 ≤ μ 69 j ∧ μ 69 j ≤ 127)  : gf_Mi l E yy_Mo_letter cc_Mo_letter 1 .int (gf_rm 0 0) 81 gf_ref μ [.ref (gf_ad E 65)] (fun q μ' => (q = gm_let (fun j => μ 69 (60 * t + j)) n p ∧ -1000 ≤ q ∧ q ≤ 127) ∧ μ' = μ) := by
  refine gf_mi (by decide +kernel) (Nat.le_of_ble_eq_true rfl) (by decide) (fun X Q hlx C hQ => ?_)
  subst hlx
  replace C : gf_C X E cc_Mo_letter 1 "GuardFiguresModel" (gf_rm 0 0) := C
  show gf_G X E Q 1 gf_φ μ 0 [(0, .ref (gf_ad E 65))] []
  have hn2 : μ 68 (μ 65 10) = n := by rw [ht]; exact hn
  have hb0 := htb (60 * (μ 65 10) + μ 65 11)
  refine gf_aload_n C dd_Mo_letter_0 0 rfl ?_
  refine gf_getI (z := 11) C gf_cl7 fl_Mo_93 dd_Mo_letter_1 rfl rfl (show gf_is 81 65 0 7 26 by decide) (fun hv1 => ?_)
  refine gf_aload_n C dd_Mo_letter_4 0 rfl ?_
  refine gf_getA (r := 68) C gf_cl7 fl_Mo_16 dd_Mo_letter_5 rfl (show gf_is 81 65 0 7 26 by decide) (by decide) (by decide) ?_
  refine gf_aload_n C dd_Mo_letter_8 0 rfl ?_
  refine gf_getI (z := 10) C gf_cl7 fl_Mo_96 dd_Mo_letter_9 rfl rfl (show gf_is 81 65 0 7 26 by decide) (fun hv9 => ?_)
  refine gf_iald C dd_Mo_letter_12 (show gf_is 81 68 1 0 4 by decide) (by omega) (fun hv12 => ?_)
  refine gf_icmp_ge 36 C dd_Mo_letter_13 (by decide) (by omega) (by omega) (fun h13 => ?_) (fun h13 => ?_)
  · skip
    refine gf_sipush C dd_Mo_letter_36 (by decide +kernel) ?_
    refine gf_iret C hQ dd_Mo_letter_39 (by omega) ?_
    refine ⟨⟨?_, by omega, by omega⟩, rfl⟩
    unfold gm_let
    first | (rw [if_pos (by omega), ht, hp]; done) | (rw [if_neg (by omega)]; done)
  · skip
    refine gf_aload_n C dd_Mo_letter_16 0 rfl ?_
    refine gf_getA (r := 69) C gf_cl7 fl_Mo_19 dd_Mo_letter_17 rfl (show gf_is 81 65 0 7 26 by decide) (by decide) (by decide) ?_
    refine gf_bipush C dd_Mo_letter_20 (by decide +kernel) ?_
    refine gf_aload_n C dd_Mo_letter_22 0 rfl ?_
    refine gf_getI (z := 10) C gf_cl7 fl_Mo_96 dd_Mo_letter_23 rfl rfl (show gf_is 81 65 0 7 26 by decide) (fun hv23 => ?_)
    refine gf_imul C dd_Mo_letter_26 ?_
    refine gf_aload_n C dd_Mo_letter_27 0 rfl ?_
    refine gf_getI (z := 11) C gf_cl7 fl_Mo_93 dd_Mo_letter_28 rfl rfl (show gf_is 81 65 0 7 26 by decide) (fun hv28 => ?_)
    refine gf_iadd C dd_Mo_letter_31 ?_
    refine gf_bald C dd_Mo_letter_32 (show gf_is 81 69 3 2 240 by decide) (by omega) (fun hv32 => ?_)
    refine gf_goto 39 C dd_Mo_letter_33 (by decide) ?_
    refine gf_iret C hQ dd_Mo_letter_39 (by omega) ?_
    refine ⟨⟨?_, by omega, by omega⟩, rfl⟩
    unfold gm_let
    first | (rw [if_pos (by omega), ht, hp]; done) | (rw [if_neg (by omega)]; done)

theorem dd_Mo_nextLetter_0 : decode cc_Mo_nextLetter 0 = .ok (.aload_n 0, 1) := by decide +kernel
theorem dd_Mo_nextLetter_1 : decode cc_Mo_nextLetter 1 = .ok (.invokevirtual 99, 3) := by decide +kernel
theorem dd_Mo_nextLetter_4 : decode cc_Mo_nextLetter 4 = .ok (.bipush 32, 2) := by decide +kernel
theorem dd_Mo_nextLetter_6 : decode cc_Mo_nextLetter 6 = .ok (.if_icmp .ne 16, 3) := by decide +kernel
theorem dd_Mo_nextLetter_9 : decode cc_Mo_nextLetter 9 = .ok (.aload_n 0, 1) := by decide +kernel
theorem dd_Mo_nextLetter_10 : decode cc_Mo_nextLetter 10 = .ok (.dup, 1) := by decide +kernel
theorem dd_Mo_nextLetter_11 : decode cc_Mo_nextLetter 11 = .ok (.getfield 93, 3) := by decide +kernel
theorem dd_Mo_nextLetter_14 : decode cc_Mo_nextLetter 14 = .ok (.iconst 1, 1) := by decide +kernel
theorem dd_Mo_nextLetter_15 : decode cc_Mo_nextLetter 15 = .ok (.iadd, 1) := by decide +kernel
theorem dd_Mo_nextLetter_16 : decode cc_Mo_nextLetter 16 = .ok (.putfield 93, 3) := by decide +kernel
theorem dd_Mo_nextLetter_19 : decode cc_Mo_nextLetter 19 = .ok (.goto (-19), 3) := by decide +kernel
theorem dd_Mo_nextLetter_22 : decode cc_Mo_nextLetter 22 = .ok (.aload_n 0, 1) := by decide +kernel
theorem dd_Mo_nextLetter_23 : decode cc_Mo_nextLetter 23 = .ok (.invokevirtual 99, 3) := by decide +kernel
theorem dd_Mo_nextLetter_26 : decode cc_Mo_nextLetter 26 = .ok (.ireturn, 1) := by decide +kernel
set_option maxRecDepth 100000 in
set_option maxHeartbeats 4000000 in
theorem ct_Mo_nextLetter (l : Launch) (E : gf_E) (t n p : Int) (μ : gf_M) (ht : μ 65 10 = t) (ht4 : 0 ≤ t ∧ t < 4) (hn : μ 68 t = n) (hn60 : 0 ≤ n ∧ n ≤ 60) (hp : μ 65 11 = p) (hpn : 0 ≤ p ∧ p ≤ n) (htb : ∀ j : Int, -128 ≤ μ 69 j ∧ μ 69 j ≤ 127)  : gf_Mi l E yy_Mo_nextLetter cc_Mo_nextLetter 1 .int (gf_rm 1 20) 81 gf_ref μ [.ref (gf_ad E 65)] (fun q μ' => ∃ p' : Int, (p ≤ p' ∧ p' ≤ n) ∧ (∀ j : Int, p ≤ j → j < p' → j < n ∧ μ 69 (60 * t + j) = 32) ∧ ¬ (p' < n ∧ μ 69 (60 * t + p') = 32) ∧ (q = gm_let (fun j => μ 69 (60 * t + j)) n p' ∧ -1000 ≤ q ∧ q ≤ 127) ∧ μ' = gf_up μ 65 11 p') := by
  refine gf_mi (by decide +kernel) (Nat.le_of_ble_eq_true rfl) (by decide) (fun X Q hlx C hQ => ?_)
  subst hlx
  replace C : gf_C X E cc_Mo_nextLetter 1 "GuardFiguresModel" (gf_rm 1 20) := C
  show gf_G X E Q 1 gf_φ μ 0 [(0, .ref (gf_ad E 65))] []
  have L0_1 : ∀ (N : Nat) (z : Int) (m : gf_M) , (m = gf_up μ 65 11 z ∧ p ≤ z ∧ z ≤ n ∧ ∀ j : Int, p ≤ j → j < z → j < n ∧ μ 69 (60 * t + j) = 32) → (n - z).toNat < N → gf_G X E Q 1 gf_φ m 0 [(0, .ref (gf_ad E 65))] [] := by
    intro N
    induction N with
    | zero => intro z m hinv hN; exact absurd hN (Nat.not_lt_zero _)
    | succ N ih0_1 =>
      intro z m hinv hN
      have hinv0 := hinv
      obtain ⟨hm, hz0, hz1, hzs⟩ := hinv
      have m65 : m 65 11 = z := by rw [hm]; exact gf_up_s
      have mt : m 65 10 = t := by rw [hm, gf_up_j (by decide)]; exact ht
      have mo : ∀ a b : Int, a ≠ 65 → m a b = μ a b := fun a b h => by rw [hm]; exact gf_up_k h
      refine gf_aload_n C dd_Mo_nextLetter_0 0 rfl ?_
      refine gf_callVi (st := []) (As := []) C wk_Mo_99 gf_cl7 (show gf_is 81 65 0 7 26 by decide) (ct_Mo_letter (gf_xl X) E t n z m mt ht4 (by rw [mo 68 t (by decide)]; exact hn) hn60 m65 (by omega) (fun j => by rw [mo 69 j (by decide)]; exact htb j)) rfl ⟨rfl, rfl, rfl, rfl⟩ (Nat.le_of_ble_eq_true rfl) rfl dd_Mo_nextLetter_1 (fun r1 m1 hR1 hp1 => ?_)
      have hr1 := hp1.1
      refine gf_pm hp1.2 ?_
      refine gf_bipush C dd_Mo_nextLetter_4 (by decide +kernel) ?_
      refine gf_icmp_ne 22 C dd_Mo_nextLetter_6 (by decide) (by omega) (by omega) (fun h6 => ?_) (fun h6 => ?_)
      · skip
        refine gf_aload_n C dd_Mo_nextLetter_22 0 rfl ?_
        refine gf_callVi (st := []) (As := []) C wk_Mo_99 gf_cl7 (show gf_is 81 65 0 7 26 by decide) (ct_Mo_letter (gf_xl X) E t n z m mt ht4 (by rw [mo 68 t (by decide)]; exact hn) hn60 m65 (by omega) (fun j => by rw [mo 69 j (by decide)]; exact htb j)) rfl ⟨rfl, rfl, rfl, rfl⟩ (Nat.le_of_ble_eq_true rfl) rfl dd_Mo_nextLetter_23 (fun r23 m23 hR23 hp23 => ?_)
        have hr23 := hp23.1
        refine gf_pm hp23.2 ?_
        refine gf_iret C hQ dd_Mo_nextLetter_26 (by omega) ?_
        have hl := hr23.1
        have ef : (fun j => m 69 (60 * t + j)) = (fun j => μ 69 (60 * t + j)) := funext fun j => mo 69 _ (by decide)
        rw [ef] at hl
        refine ⟨z, ⟨hz0, hz1⟩, hzs, ?_, ⟨hl, hr23.2⟩, hm⟩
        intro ⟨h1, h2⟩
        have hl1 : r1 = m 69 (60 * t + z) := hr1.1.trans (if_pos h1)
        rw [mo 69 _ (by decide)] at hl1
        omega
      · skip
        refine gf_aload_n C dd_Mo_nextLetter_9 0 rfl ?_
        refine gf_dup C dd_Mo_nextLetter_10 rfl ?_
        refine gf_getI (z := 11) C gf_cl7 fl_Mo_93 dd_Mo_nextLetter_11 rfl rfl (show gf_is 81 65 0 7 26 by decide) (fun hv11 => ?_)
        refine gf_iconst C dd_Mo_nextLetter_14 ?_
        refine gf_iadd C dd_Mo_nextLetter_15 ?_
        refine gf_putI (z := 11) C gf_cl7 fl_Mo_93 dd_Mo_nextLetter_16 rfl rfl rfl (by decide +kernel) (show gf_is 81 65 0 7 26 by decide) (by omega) ?_
        refine gf_nmM (fun m16 hm16 => ?_)
        refine gf_goto 0 C dd_Mo_nextLetter_19 (by decide) ?_
        refine gf_lsub [0] rfl ?_
        exact ih0_1 (z + 1) m16 (by
                by_cases e : z < n
                · have hl : r1 = m 69 (60 * t + z) := hr1.1.trans (if_pos e)
                  have hl2 : μ 69 (60 * t + z) = 32 := by rw [← mo 69 _ (by decide)]; omega
                  refine ⟨?_, by omega, by omega, fun j h0 h1 => ?_⟩
                  · rw [hm16, hm, gf_up_s, gf_up_up]
                  · by_cases ej : j = z
                    · rw [ej]; exact ⟨e, hl2⟩
                    · exact hzs j h0 (by omega)
                · have hl : r1 = -1000 := hr1.1.trans (if_neg e)
                  omega) (by
                by_cases e : z < n
                · omega
                · have hl : r1 = -1000 := hr1.1.trans (if_neg e)
                  omega)
  refine gf_lsub [0] rfl ?_
  exact L0_1 _ p μ (⟨by rw [← hp]; exact (gf_up_id μ 65 11).symm, by omega, by omega, fun j h0 h1 => by omega⟩) (Nat.lt_succ_self _)

theorem dd_Mo_faults_0 : decode cc_Mo_faults 0 = .ok (.aload_n 0, 1) := by decide +kernel
theorem dd_Mo_faults_1 : decode cc_Mo_faults 1 = .ok (.aload_n 0, 1) := by decide +kernel
theorem dd_Mo_faults_2 : decode cc_Mo_faults 2 = .ok (.getfield 93, 3) := by decide +kernel
theorem dd_Mo_faults_5 : decode cc_Mo_faults 5 = .ok (.putfield 103, 3) := by decide +kernel
theorem dd_Mo_faults_8 : decode cc_Mo_faults 8 = .ok (.iconst 0, 1) := by decide +kernel
theorem dd_Mo_faults_9 : decode cc_Mo_faults 9 = .ok (.ireturn, 1) := by decide +kernel
set_option maxRecDepth 100000 in
set_option maxHeartbeats 4000000 in
theorem ct_Mo_faults (l : Launch) (E : gf_E) (μ : gf_M) : gf_Mi l E yy_Mo_faults cc_Mo_faults 1 .boolean (gf_rm 0 0) 81 gf_ref μ [.ref (gf_ad E 65)] (fun q μ' => q = 0 ∧ μ' = gf_up μ 65 12 (μ 65 11)) := by
  refine gf_mi (by decide +kernel) (Nat.le_of_ble_eq_true rfl) (by decide) (fun X Q hlx C hQ => ?_)
  subst hlx
  replace C : gf_C X E cc_Mo_faults 1 "GuardFiguresModel" (gf_rm 0 0) := C
  show gf_G X E Q 1 gf_φ μ 0 [(0, .ref (gf_ad E 65))] []
  refine gf_aload_n C dd_Mo_faults_0 0 rfl ?_
  refine gf_aload_n C dd_Mo_faults_1 0 rfl ?_
  refine gf_getI (z := 11) C gf_cl7 fl_Mo_93 dd_Mo_faults_2 rfl rfl (show gf_is 81 65 0 7 26 by decide) (fun hv2 => ?_)
  refine gf_putI (z := 12) C gf_cl7 fl_Mo_103 dd_Mo_faults_5 rfl rfl rfl (by decide +kernel) (show gf_is 81 65 0 7 26 by decide) (by omega) ?_
  refine gf_nmM (fun m5 hm5 => ?_)
  refine gf_iconst C dd_Mo_faults_8 ?_
  refine gf_zret C hQ dd_Mo_faults_9 (by omega) ?_
  exact ⟨rfl, hm5⟩

theorem dd_Mo_kindBy_0 : decode cc_Mo_kindBy 0 = .ok (.iload_n 0, 1) := by decide +kernel
theorem dd_Mo_kindBy_1 : decode cc_Mo_kindBy 1 = .ok (.bipush 103, 2) := by decide +kernel
theorem dd_Mo_kindBy_3 : decode cc_Mo_kindBy 3 = .ok (.if_icmp .ne 7, 3) := by decide +kernel
theorem dd_Mo_kindBy_6 : decode cc_Mo_kindBy 6 = .ok (.iconst 0, 1) := by decide +kernel
theorem dd_Mo_kindBy_7 : decode cc_Mo_kindBy 7 = .ok (.goto 55, 3) := by decide +kernel
theorem dd_Mo_kindBy_10 : decode cc_Mo_kindBy 10 = .ok (.iload_n 0, 1) := by decide +kernel
theorem dd_Mo_kindBy_11 : decode cc_Mo_kindBy 11 = .ok (.bipush 101, 2) := by decide +kernel
theorem dd_Mo_kindBy_13 : decode cc_Mo_kindBy 13 = .ok (.if_icmp .ne 7, 3) := by decide +kernel
theorem dd_Mo_kindBy_16 : decode cc_Mo_kindBy 16 = .ok (.iconst 1, 1) := by decide +kernel
theorem dd_Mo_kindBy_17 : decode cc_Mo_kindBy 17 = .ok (.goto 45, 3) := by decide +kernel
theorem dd_Mo_kindBy_20 : decode cc_Mo_kindBy 20 = .ok (.iload_n 0, 1) := by decide +kernel
theorem dd_Mo_kindBy_21 : decode cc_Mo_kindBy 21 = .ok (.bipush 99, 2) := by decide +kernel
theorem dd_Mo_kindBy_23 : decode cc_Mo_kindBy 23 = .ok (.if_icmp .ne 7, 3) := by decide +kernel
theorem dd_Mo_kindBy_26 : decode cc_Mo_kindBy 26 = .ok (.iconst 2, 1) := by decide +kernel
theorem dd_Mo_kindBy_27 : decode cc_Mo_kindBy 27 = .ok (.goto 35, 3) := by decide +kernel
theorem dd_Mo_kindBy_30 : decode cc_Mo_kindBy 30 = .ok (.iload_n 0, 1) := by decide +kernel
theorem dd_Mo_kindBy_31 : decode cc_Mo_kindBy 31 = .ok (.bipush 104, 2) := by decide +kernel
theorem dd_Mo_kindBy_33 : decode cc_Mo_kindBy 33 = .ok (.if_icmp .ne 7, 3) := by decide +kernel
theorem dd_Mo_kindBy_36 : decode cc_Mo_kindBy 36 = .ok (.iconst 3, 1) := by decide +kernel
theorem dd_Mo_kindBy_37 : decode cc_Mo_kindBy 37 = .ok (.goto 25, 3) := by decide +kernel
theorem dd_Mo_kindBy_40 : decode cc_Mo_kindBy 40 = .ok (.iload_n 0, 1) := by decide +kernel
theorem dd_Mo_kindBy_41 : decode cc_Mo_kindBy 41 = .ok (.bipush 98, 2) := by decide +kernel
theorem dd_Mo_kindBy_43 : decode cc_Mo_kindBy 43 = .ok (.if_icmp .ne 7, 3) := by decide +kernel
theorem dd_Mo_kindBy_46 : decode cc_Mo_kindBy 46 = .ok (.iconst 4, 1) := by decide +kernel
theorem dd_Mo_kindBy_47 : decode cc_Mo_kindBy 47 = .ok (.goto 15, 3) := by decide +kernel
theorem dd_Mo_kindBy_50 : decode cc_Mo_kindBy 50 = .ok (.iload_n 0, 1) := by decide +kernel
theorem dd_Mo_kindBy_51 : decode cc_Mo_kindBy 51 = .ok (.bipush 100, 2) := by decide +kernel
theorem dd_Mo_kindBy_53 : decode cc_Mo_kindBy 53 = .ok (.if_icmp .ne 7, 3) := by decide +kernel
theorem dd_Mo_kindBy_56 : decode cc_Mo_kindBy 56 = .ok (.iconst 5, 1) := by decide +kernel
theorem dd_Mo_kindBy_57 : decode cc_Mo_kindBy 57 = .ok (.goto 5, 3) := by decide +kernel
theorem dd_Mo_kindBy_60 : decode cc_Mo_kindBy 60 = .ok (.bipush (-9), 2) := by decide +kernel
theorem dd_Mo_kindBy_62 : decode cc_Mo_kindBy 62 = .ok (.ireturn, 1) := by decide +kernel
set_option maxRecDepth 100000 in
set_option maxHeartbeats 4000000 in
theorem ct_Mo_kindBy (l : Launch) (E : gf_E) (c : Int) (μ : gf_M) (hc : gf_R c) : gf_Mi l E yy_Mo_kindBy cc_Mo_kindBy 1 .int (gf_rm 0 0) 81 gf_ref μ [.int (gf_i c)] (fun q μ' => (q = pf_pk c ∧ -9 ≤ q ∧ q ≤ 5) ∧ μ' = μ) := by
  refine gf_mi (by decide +kernel) (Nat.le_of_ble_eq_true rfl) (by decide) (fun X Q hlx C hQ => ?_)
  subst hlx
  replace C : gf_C X E cc_Mo_kindBy 1 "GuardFiguresModel" (gf_rm 0 0) := C
  show gf_G X E Q 1 gf_φ μ 0 [(0, .int (gf_i c))] []
  refine gf_iload_n C dd_Mo_kindBy_0 0 rfl ?_
  refine gf_bipush C dd_Mo_kindBy_1 (by decide +kernel) ?_
  refine gf_icmp_ne 10 C dd_Mo_kindBy_3 (by decide) (by omega) (by omega) (fun h3 => ?_) (fun h3 => ?_)
  · skip
    refine gf_iload_n C dd_Mo_kindBy_10 0 rfl ?_
    refine gf_bipush C dd_Mo_kindBy_11 (by decide +kernel) ?_
    refine gf_icmp_ne 20 C dd_Mo_kindBy_13 (by decide) (by omega) (by omega) (fun h13 => ?_) (fun h13 => ?_)
    · skip
      refine gf_iload_n C dd_Mo_kindBy_20 0 rfl ?_
      refine gf_bipush C dd_Mo_kindBy_21 (by decide +kernel) ?_
      refine gf_icmp_ne 30 C dd_Mo_kindBy_23 (by decide) (by omega) (by omega) (fun h23 => ?_) (fun h23 => ?_)
      · skip
        refine gf_iload_n C dd_Mo_kindBy_30 0 rfl ?_
        refine gf_bipush C dd_Mo_kindBy_31 (by decide +kernel) ?_
        refine gf_icmp_ne 40 C dd_Mo_kindBy_33 (by decide) (by omega) (by omega) (fun h33 => ?_) (fun h33 => ?_)
        · skip
          refine gf_iload_n C dd_Mo_kindBy_40 0 rfl ?_
          refine gf_bipush C dd_Mo_kindBy_41 (by decide +kernel) ?_
          refine gf_icmp_ne 50 C dd_Mo_kindBy_43 (by decide) (by omega) (by omega) (fun h43 => ?_) (fun h43 => ?_)
          · skip
            refine gf_iload_n C dd_Mo_kindBy_50 0 rfl ?_
            refine gf_bipush C dd_Mo_kindBy_51 (by decide +kernel) ?_
            refine gf_icmp_ne 60 C dd_Mo_kindBy_53 (by decide) (by omega) (by omega) (fun h53 => ?_) (fun h53 => ?_)
            · skip
              refine gf_bipush C dd_Mo_kindBy_60 (by decide +kernel) ?_
              refine gf_iret C hQ dd_Mo_kindBy_62 (by omega) ?_
              refine ⟨⟨?_, by omega, by omega⟩, rfl⟩
              unfold pf_pk
              first | (rw [if_pos (by omega)]; done) | (rw [if_neg (by omega), if_pos (by omega)]; done) | (rw [if_neg (by omega), if_neg (by omega), if_pos (by omega)]; done) | (rw [if_neg (by omega), if_neg (by omega), if_neg (by omega), if_pos (by omega)]; done) | (rw [if_neg (by omega), if_neg (by omega), if_neg (by omega), if_neg (by omega), if_pos (by omega)]; done) | (rw [if_neg (by omega), if_neg (by omega), if_neg (by omega), if_neg (by omega), if_neg (by omega), if_pos (by omega)]; done) | (rw [if_neg (by omega), if_neg (by omega), if_neg (by omega), if_neg (by omega), if_neg (by omega), if_neg (by omega)]; done)
            · skip
              refine gf_iconst C dd_Mo_kindBy_56 ?_
              refine gf_goto 62 C dd_Mo_kindBy_57 (by decide) ?_
              refine gf_iret C hQ dd_Mo_kindBy_62 (by omega) ?_
              refine ⟨⟨?_, by omega, by omega⟩, rfl⟩
              unfold pf_pk
              first | (rw [if_pos (by omega)]; done) | (rw [if_neg (by omega), if_pos (by omega)]; done) | (rw [if_neg (by omega), if_neg (by omega), if_pos (by omega)]; done) | (rw [if_neg (by omega), if_neg (by omega), if_neg (by omega), if_pos (by omega)]; done) | (rw [if_neg (by omega), if_neg (by omega), if_neg (by omega), if_neg (by omega), if_pos (by omega)]; done) | (rw [if_neg (by omega), if_neg (by omega), if_neg (by omega), if_neg (by omega), if_neg (by omega), if_pos (by omega)]; done) | (rw [if_neg (by omega), if_neg (by omega), if_neg (by omega), if_neg (by omega), if_neg (by omega), if_neg (by omega)]; done)
          · skip
            refine gf_iconst C dd_Mo_kindBy_46 ?_
            refine gf_goto 62 C dd_Mo_kindBy_47 (by decide) ?_
            refine gf_iret C hQ dd_Mo_kindBy_62 (by omega) ?_
            refine ⟨⟨?_, by omega, by omega⟩, rfl⟩
            unfold pf_pk
            first | (rw [if_pos (by omega)]; done) | (rw [if_neg (by omega), if_pos (by omega)]; done) | (rw [if_neg (by omega), if_neg (by omega), if_pos (by omega)]; done) | (rw [if_neg (by omega), if_neg (by omega), if_neg (by omega), if_pos (by omega)]; done) | (rw [if_neg (by omega), if_neg (by omega), if_neg (by omega), if_neg (by omega), if_pos (by omega)]; done) | (rw [if_neg (by omega), if_neg (by omega), if_neg (by omega), if_neg (by omega), if_neg (by omega), if_pos (by omega)]; done) | (rw [if_neg (by omega), if_neg (by omega), if_neg (by omega), if_neg (by omega), if_neg (by omega), if_neg (by omega)]; done)
        · skip
          refine gf_iconst C dd_Mo_kindBy_36 ?_
          refine gf_goto 62 C dd_Mo_kindBy_37 (by decide) ?_
          refine gf_iret C hQ dd_Mo_kindBy_62 (by omega) ?_
          refine ⟨⟨?_, by omega, by omega⟩, rfl⟩
          unfold pf_pk
          first | (rw [if_pos (by omega)]; done) | (rw [if_neg (by omega), if_pos (by omega)]; done) | (rw [if_neg (by omega), if_neg (by omega), if_pos (by omega)]; done) | (rw [if_neg (by omega), if_neg (by omega), if_neg (by omega), if_pos (by omega)]; done) | (rw [if_neg (by omega), if_neg (by omega), if_neg (by omega), if_neg (by omega), if_pos (by omega)]; done) | (rw [if_neg (by omega), if_neg (by omega), if_neg (by omega), if_neg (by omega), if_neg (by omega), if_pos (by omega)]; done) | (rw [if_neg (by omega), if_neg (by omega), if_neg (by omega), if_neg (by omega), if_neg (by omega), if_neg (by omega)]; done)
      · skip
        refine gf_iconst C dd_Mo_kindBy_26 ?_
        refine gf_goto 62 C dd_Mo_kindBy_27 (by decide) ?_
        refine gf_iret C hQ dd_Mo_kindBy_62 (by omega) ?_
        refine ⟨⟨?_, by omega, by omega⟩, rfl⟩
        unfold pf_pk
        first | (rw [if_pos (by omega)]; done) | (rw [if_neg (by omega), if_pos (by omega)]; done) | (rw [if_neg (by omega), if_neg (by omega), if_pos (by omega)]; done) | (rw [if_neg (by omega), if_neg (by omega), if_neg (by omega), if_pos (by omega)]; done) | (rw [if_neg (by omega), if_neg (by omega), if_neg (by omega), if_neg (by omega), if_pos (by omega)]; done) | (rw [if_neg (by omega), if_neg (by omega), if_neg (by omega), if_neg (by omega), if_neg (by omega), if_pos (by omega)]; done) | (rw [if_neg (by omega), if_neg (by omega), if_neg (by omega), if_neg (by omega), if_neg (by omega), if_neg (by omega)]; done)
    · skip
      refine gf_iconst C dd_Mo_kindBy_16 ?_
      refine gf_goto 62 C dd_Mo_kindBy_17 (by decide) ?_
      refine gf_iret C hQ dd_Mo_kindBy_62 (by omega) ?_
      refine ⟨⟨?_, by omega, by omega⟩, rfl⟩
      unfold pf_pk
      first | (rw [if_pos (by omega)]; done) | (rw [if_neg (by omega), if_pos (by omega)]; done) | (rw [if_neg (by omega), if_neg (by omega), if_pos (by omega)]; done) | (rw [if_neg (by omega), if_neg (by omega), if_neg (by omega), if_pos (by omega)]; done) | (rw [if_neg (by omega), if_neg (by omega), if_neg (by omega), if_neg (by omega), if_pos (by omega)]; done) | (rw [if_neg (by omega), if_neg (by omega), if_neg (by omega), if_neg (by omega), if_neg (by omega), if_pos (by omega)]; done) | (rw [if_neg (by omega), if_neg (by omega), if_neg (by omega), if_neg (by omega), if_neg (by omega), if_neg (by omega)]; done)
  · skip
    refine gf_iconst C dd_Mo_kindBy_6 ?_
    refine gf_goto 62 C dd_Mo_kindBy_7 (by decide) ?_
    refine gf_iret C hQ dd_Mo_kindBy_62 (by omega) ?_
    refine ⟨⟨?_, by omega, by omega⟩, rfl⟩
    unfold pf_pk
    first | (rw [if_pos (by omega)]; done) | (rw [if_neg (by omega), if_pos (by omega)]; done) | (rw [if_neg (by omega), if_neg (by omega), if_pos (by omega)]; done) | (rw [if_neg (by omega), if_neg (by omega), if_neg (by omega), if_pos (by omega)]; done) | (rw [if_neg (by omega), if_neg (by omega), if_neg (by omega), if_neg (by omega), if_pos (by omega)]; done) | (rw [if_neg (by omega), if_neg (by omega), if_neg (by omega), if_neg (by omega), if_neg (by omega), if_pos (by omega)]; done) | (rw [if_neg (by omega), if_neg (by omega), if_neg (by omega), if_neg (by omega), if_neg (by omega), if_neg (by omega)]; done)

theorem dd_Mo_takesFigure_0 : decode cc_Mo_takesFigure 0 = .ok (.aload_n 0, 1) := by decide +kernel
theorem dd_Mo_takesFigure_1 : decode cc_Mo_takesFigure 1 = .ok (.invokevirtual 99, 3) := by decide +kernel
theorem dd_Mo_takesFigure_4 : decode cc_Mo_takesFigure 4 = .ok (.i2l, 1) := by decide +kernel
theorem dd_Mo_takesFigure_5 : decode cc_Mo_takesFigure 5 = .ok (.ldc2_w 106, 3) := by decide +kernel
theorem dd_Mo_takesFigure_8 : decode cc_Mo_takesFigure 8 = .ok (.ldc2_w 108, 3) := by decide +kernel
theorem dd_Mo_takesFigure_11 : decode cc_Mo_takesFigure 11 = .ok (.invokestatic 69, 3) := by decide +kernel
theorem dd_Mo_takesFigure_14 : decode cc_Mo_takesFigure 14 = .ok (.ifCond .ne 8, 3) := by decide +kernel
theorem dd_Mo_takesFigure_17 : decode cc_Mo_takesFigure 17 = .ok (.aload_n 0, 1) := by decide +kernel
theorem dd_Mo_takesFigure_18 : decode cc_Mo_takesFigure 18 = .ok (.invokevirtual 110, 3) := by decide +kernel
theorem dd_Mo_takesFigure_21 : decode cc_Mo_takesFigure 21 = .ok (.ireturn, 1) := by decide +kernel
theorem dd_Mo_takesFigure_22 : decode cc_Mo_takesFigure 22 = .ok (.aload_n 0, 1) := by decide +kernel
theorem dd_Mo_takesFigure_23 : decode cc_Mo_takesFigure 23 = .ok (.getfield 33, 3) := by decide +kernel
theorem dd_Mo_takesFigure_26 : decode cc_Mo_takesFigure 26 = .ok (.iload_n 1, 1) := by decide +kernel
theorem dd_Mo_takesFigure_27 : decode cc_Mo_takesFigure 27 = .ok (.aload_n 0, 1) := by decide +kernel
theorem dd_Mo_takesFigure_28 : decode cc_Mo_takesFigure 28 = .ok (.invokevirtual 99, 3) := by decide +kernel
theorem dd_Mo_takesFigure_31 : decode cc_Mo_takesFigure 31 = .ok (.bipush 48, 2) := by decide +kernel
theorem dd_Mo_takesFigure_33 : decode cc_Mo_takesFigure 33 = .ok (.isub, 1) := by decide +kernel
theorem dd_Mo_takesFigure_34 : decode cc_Mo_takesFigure 34 = .ok (.iastore, 1) := by decide +kernel
theorem dd_Mo_takesFigure_35 : decode cc_Mo_takesFigure 35 = .ok (.aload_n 0, 1) := by decide +kernel
theorem dd_Mo_takesFigure_36 : decode cc_Mo_takesFigure 36 = .ok (.dup, 1) := by decide +kernel
theorem dd_Mo_takesFigure_37 : decode cc_Mo_takesFigure 37 = .ok (.getfield 93, 3) := by decide +kernel
theorem dd_Mo_takesFigure_40 : decode cc_Mo_takesFigure 40 = .ok (.iconst 1, 1) := by decide +kernel
theorem dd_Mo_takesFigure_41 : decode cc_Mo_takesFigure 41 = .ok (.iadd, 1) := by decide +kernel
theorem dd_Mo_takesFigure_42 : decode cc_Mo_takesFigure 42 = .ok (.putfield 93, 3) := by decide +kernel
theorem dd_Mo_takesFigure_45 : decode cc_Mo_takesFigure 45 = .ok (.iconst 1, 1) := by decide +kernel
theorem dd_Mo_takesFigure_46 : decode cc_Mo_takesFigure 46 = .ok (.ireturn, 1) := by decide +kernel
set_option maxRecDepth 100000 in
set_option maxHeartbeats 4000000 in
theorem ct_Mo_takesFigure (l : Launch) (E : gf_E) (w : Int) (t n p : Int) (μ : gf_M) (ht : μ 65 10 = t) (ht4 : 0 ≤ t ∧ t < 4) (hn : μ 68 t = n) (hn60 : 0 ≤ n ∧ n ≤ 60) (hp : μ 65 11 = p) (hpn : 0 ≤ p ∧ p ≤ n) (htb : ∀ j : Int, -128 ≤ μ 69 j ∧ μ 69 j ≤ 127) (hw : 0 ≤ w ∧ w < 24) : gf_Mi l E yy_Mo_takesFigure cc_Mo_takesFigure 2 .boolean (gf_rm 1 25) 81 gf_ref μ [.ref (gf_ad E 65), .int (gf_i w)] (fun q μ' => (¬ (48 ≤ gm_let (fun j => μ 69 (60 * t + j)) n p ∧ gm_let (fun j => μ 69 (60 * t + j)) n p ≤ 57) → q = 0 ∧ μ' = gf_up μ 65 12 p) ∧ (48 ≤ gm_let (fun j => μ 69 (60 * t + j)) n p ∧ gm_let (fun j => μ 69 (60 * t + j)) n p ≤ 57 → p < n ∧ q = 1 ∧ μ' = gf_up (gf_up μ 72 w (μ 69 (60 * t + p) - 48)) 65 11 (p + 1))) := by
  refine gf_mi (by decide +kernel) (Nat.le_of_ble_eq_true rfl) (by decide) (fun X Q hlx C hQ => ?_)
  subst hlx
  replace C : gf_C X E cc_Mo_takesFigure 2 "GuardFiguresModel" (gf_rm 1 25) := C
  show gf_G X E Q 2 gf_φ μ 0 [(0, .ref (gf_ad E 65)), (1, .int (gf_i w))] []
  refine gf_aload_n C dd_Mo_takesFigure_0 0 rfl ?_
  refine gf_callVi (st := []) (As := []) C wk_Mo_99 gf_cl7 (show gf_is 81 65 0 7 26 by decide) (ct_Mo_letter (gf_xl X) E t n p μ ht ht4 hn hn60 hp hpn htb) rfl ⟨rfl, rfl, rfl, rfl⟩ (Nat.le_of_ble_eq_true rfl) rfl dd_Mo_takesFigure_1 (fun r1 m1 hR1 hp1 => ?_)
  have hr1 := hp1.1
  refine gf_pm hp1.2 ?_
  refine gf_gi2l C dd_Mo_takesFigure_4 (by omega) ?_
  refine gf_ldc2 48 C dd_Mo_takesFigure_5 ck_Mo_106 (by decide +kernel) ?_
  refine gf_ldc2 57 C dd_Mo_takesFigure_8 ck_Mo_108 (by decide +kernel) ?_
  refine gf_callSi (st := []) (As := [.long (gf_l r1), .long (gf_l 48), .long (gf_l 57)]) C wk_Mo_69 (ct_Mo_in (gf_xl X) E r1 48 57 μ (by omega) (by omega) (by omega)) rfl ⟨rfl, rfl, rfl, rfl⟩ (Nat.le_of_ble_eq_true rfl) rfl dd_Mo_takesFigure_11 (fun r11 m11 hR11 hp11 => ?_)
  have hr11 := hp11.1
  refine gf_pm hp11.2 ?_
  refine gf_if_ne 22 C dd_Mo_takesFigure_14 (by decide) (by omega) (fun h14 => ?_) (fun h14 => ?_)
  · skip
    refine gf_aload_n C dd_Mo_takesFigure_22 0 rfl ?_
    refine gf_getA (r := 72) C gf_cl7 fl_Mo_33 dd_Mo_takesFigure_23 rfl (show gf_is 81 65 0 7 26 by decide) (by decide) (by decide) ?_
    refine gf_iload_n C dd_Mo_takesFigure_26 1 rfl ?_
    refine gf_aload_n C dd_Mo_takesFigure_27 0 rfl ?_
    refine gf_callVi (st := [.int (gf_i w), .ref (gf_ad E 72)]) (As := []) C wk_Mo_99 gf_cl7 (show gf_is 81 65 0 7 26 by decide) (ct_Mo_letter (gf_xl X) E t n p μ ht ht4 hn hn60 hp hpn htb) rfl ⟨rfl, rfl, rfl, rfl⟩ (Nat.le_of_ble_eq_true rfl) rfl dd_Mo_takesFigure_28 (fun r28 m28 hR28 hp28 => ?_)
    have hr28 := hp28.1
    refine gf_pm hp28.2 ?_
    refine gf_bipush C dd_Mo_takesFigure_31 (by decide +kernel) ?_
    refine gf_isub C dd_Mo_takesFigure_33 ?_
    refine gf_iast C dd_Mo_takesFigure_34 (show gf_is 81 72 1 0 24 by decide) (by omega) (by omega) ?_
    refine gf_nmM (fun m34 hm34 => ?_)
    refine gf_aload_n C dd_Mo_takesFigure_35 0 rfl ?_
    refine gf_dup C dd_Mo_takesFigure_36 rfl ?_
    have e11 : m34 65 11 = p := by rw [hm34, gf_up_k (by decide)]; exact hp
    refine gf_getI (z := 11) C gf_cl7 fl_Mo_93 dd_Mo_takesFigure_37 rfl rfl (show gf_is 81 65 0 7 26 by decide) (fun hv37 => ?_)
    refine gf_iconst C dd_Mo_takesFigure_40 ?_
    refine gf_iadd C dd_Mo_takesFigure_41 ?_
    refine gf_putI (z := 11) C gf_cl7 fl_Mo_93 dd_Mo_takesFigure_42 rfl rfl rfl (by decide +kernel) (show gf_is 81 65 0 7 26 by decide) (by omega) ?_
    refine gf_nmM (fun m42 hm42 => ?_)
    refine gf_iconst C dd_Mo_takesFigure_45 ?_
    refine gf_zret C hQ dd_Mo_takesFigure_46 (by omega) ?_
    have hl := hr28.1
    have hg : p < n := by
      rcases Classical.em (p < n) with h | h
      · exact h
      · have hl1 : r1 = -1000 := hr1.1.trans (if_neg h)
        omega
    replace hl : r28 = μ 69 (60 * t + p) := hl.trans (if_pos hg)
    refine ⟨fun h => ?_, fun _ => ⟨hg, rfl, ?_⟩⟩
    · rw [← hr1.1] at h; omega
    · rw [hm42, hm34, hl, gf_up_k (by decide), hp]
  · skip
    refine gf_aload_n C dd_Mo_takesFigure_17 0 rfl ?_
    refine gf_callVi (st := []) (As := []) C wk_Mo_110 gf_cl7 (show gf_is 81 65 0 7 26 by decide) (ct_Mo_faults (gf_xl X) E μ) rfl ⟨rfl, rfl, rfl, rfl⟩ (Nat.le_of_ble_eq_true rfl) rfl dd_Mo_takesFigure_18 (fun r18 m18 hR18 hp18 => ?_)
    refine gf_zret C hQ dd_Mo_takesFigure_21 (by omega) ?_
    refine ⟨fun _ => ⟨hp18.1, by rw [hp18.2, hp]⟩, fun h => ?_⟩
    rw [← hr1.1] at h
    omega

theorem dd_Mo_readGuard_0 : decode cc_Mo_readGuard 0 = .ok (.aload_n 0, 1) := by decide +kernel
theorem dd_Mo_readGuard_1 : decode cc_Mo_readGuard 1 = .ok (.getfield 33, 3) := by decide +kernel
theorem dd_Mo_readGuard_4 : decode cc_Mo_readGuard 4 = .ok (.iconst 0, 1) := by decide +kernel
theorem dd_Mo_readGuard_5 : decode cc_Mo_readGuard 5 = .ok (.iaload, 1) := by decide +kernel
theorem dd_Mo_readGuard_6 : decode cc_Mo_readGuard 6 = .ok (.istore_n 1, 1) := by decide +kernel
theorem dd_Mo_readGuard_7 : decode cc_Mo_readGuard 7 = .ok (.aload_n 0, 1) := by decide +kernel
theorem dd_Mo_readGuard_8 : decode cc_Mo_readGuard 8 = .ok (.invokevirtual 114, 3) := by decide +kernel
theorem dd_Mo_readGuard_11 : decode cc_Mo_readGuard 11 = .ok (.invokestatic 117, 3) := by decide +kernel
theorem dd_Mo_readGuard_14 : decode cc_Mo_readGuard 14 = .ok (.istore_n 2, 1) := by decide +kernel
theorem dd_Mo_readGuard_15 : decode cc_Mo_readGuard 15 = .ok (.iload_n 2, 1) := by decide +kernel
theorem dd_Mo_readGuard_16 : decode cc_Mo_readGuard 16 = .ok (.ifCond .lt 9, 3) := by decide +kernel
theorem dd_Mo_readGuard_19 : decode cc_Mo_readGuard 19 = .ok (.iload_n 1, 1) := by decide +kernel
theorem dd_Mo_readGuard_20 : decode cc_Mo_readGuard 20 = .ok (.bipush 7, 2) := by decide +kernel
theorem dd_Mo_readGuard_22 : decode cc_Mo_readGuard 22 = .ok (.if_icmp .ne 8, 3) := by decide +kernel
theorem dd_Mo_readGuard_25 : decode cc_Mo_readGuard 25 = .ok (.aload_n 0, 1) := by decide +kernel
theorem dd_Mo_readGuard_26 : decode cc_Mo_readGuard 26 = .ok (.invokevirtual 110, 3) := by decide +kernel
theorem dd_Mo_readGuard_29 : decode cc_Mo_readGuard 29 = .ok (.ireturn, 1) := by decide +kernel
theorem dd_Mo_readGuard_30 : decode cc_Mo_readGuard 30 = .ok (.aload_n 0, 1) := by decide +kernel
theorem dd_Mo_readGuard_31 : decode cc_Mo_readGuard 31 = .ok (.dup, 1) := by decide +kernel
theorem dd_Mo_readGuard_32 : decode cc_Mo_readGuard 32 = .ok (.getfield 93, 3) := by decide +kernel
theorem dd_Mo_readGuard_35 : decode cc_Mo_readGuard 35 = .ok (.iconst 1, 1) := by decide +kernel
theorem dd_Mo_readGuard_36 : decode cc_Mo_readGuard 36 = .ok (.iadd, 1) := by decide +kernel
theorem dd_Mo_readGuard_37 : decode cc_Mo_readGuard 37 = .ok (.putfield 93, 3) := by decide +kernel
theorem dd_Mo_readGuard_40 : decode cc_Mo_readGuard 40 = .ok (.aload_n 0, 1) := by decide +kernel
theorem dd_Mo_readGuard_41 : decode cc_Mo_readGuard 41 = .ok (.getfield 33, 3) := by decide +kernel
theorem dd_Mo_readGuard_44 : decode cc_Mo_readGuard 44 = .ok (.iconst 3, 1) := by decide +kernel
theorem dd_Mo_readGuard_45 : decode cc_Mo_readGuard 45 = .ok (.iload_n 1, 1) := by decide +kernel
theorem dd_Mo_readGuard_46 : decode cc_Mo_readGuard 46 = .ok (.iadd, 1) := by decide +kernel
theorem dd_Mo_readGuard_47 : decode cc_Mo_readGuard 47 = .ok (.iload_n 2, 1) := by decide +kernel
theorem dd_Mo_readGuard_48 : decode cc_Mo_readGuard 48 = .ok (.iastore, 1) := by decide +kernel
theorem dd_Mo_readGuard_49 : decode cc_Mo_readGuard 49 = .ok (.aload_n 0, 1) := by decide +kernel
theorem dd_Mo_readGuard_50 : decode cc_Mo_readGuard 50 = .ok (.getfield 33, 3) := by decide +kernel
theorem dd_Mo_readGuard_53 : decode cc_Mo_readGuard 53 = .ok (.iconst 0, 1) := by decide +kernel
theorem dd_Mo_readGuard_54 : decode cc_Mo_readGuard 54 = .ok (.dup2, 1) := by decide +kernel
theorem dd_Mo_readGuard_55 : decode cc_Mo_readGuard 55 = .ok (.iaload, 1) := by decide +kernel
theorem dd_Mo_readGuard_56 : decode cc_Mo_readGuard 56 = .ok (.iconst 1, 1) := by decide +kernel
theorem dd_Mo_readGuard_57 : decode cc_Mo_readGuard 57 = .ok (.iadd, 1) := by decide +kernel
theorem dd_Mo_readGuard_58 : decode cc_Mo_readGuard 58 = .ok (.iastore, 1) := by decide +kernel
theorem dd_Mo_readGuard_59 : decode cc_Mo_readGuard 59 = .ok (.aload_n 0, 1) := by decide +kernel
theorem dd_Mo_readGuard_60 : decode cc_Mo_readGuard 60 = .ok (.bipush 10, 2) := by decide +kernel
theorem dd_Mo_readGuard_62 : decode cc_Mo_readGuard 62 = .ok (.iload_n 1, 1) := by decide +kernel
theorem dd_Mo_readGuard_63 : decode cc_Mo_readGuard 63 = .ok (.iadd, 1) := by decide +kernel
theorem dd_Mo_readGuard_64 : decode cc_Mo_readGuard 64 = .ok (.invokevirtual 120, 3) := by decide +kernel
theorem dd_Mo_readGuard_67 : decode cc_Mo_readGuard 67 = .ok (.ifCond .eq 18, 3) := by decide +kernel
theorem dd_Mo_readGuard_70 : decode cc_Mo_readGuard 70 = .ok (.aload_n 0, 1) := by decide +kernel
theorem dd_Mo_readGuard_71 : decode cc_Mo_readGuard 71 = .ok (.bipush 17, 2) := by decide +kernel
theorem dd_Mo_readGuard_73 : decode cc_Mo_readGuard 73 = .ok (.iload_n 1, 1) := by decide +kernel
theorem dd_Mo_readGuard_74 : decode cc_Mo_readGuard 74 = .ok (.iadd, 1) := by decide +kernel
theorem dd_Mo_readGuard_75 : decode cc_Mo_readGuard 75 = .ok (.invokevirtual 120, 3) := by decide +kernel
theorem dd_Mo_readGuard_78 : decode cc_Mo_readGuard 78 = .ok (.ifCond .eq 7, 3) := by decide +kernel
theorem dd_Mo_readGuard_81 : decode cc_Mo_readGuard 81 = .ok (.iconst 1, 1) := by decide +kernel
theorem dd_Mo_readGuard_82 : decode cc_Mo_readGuard 82 = .ok (.goto 4, 3) := by decide +kernel
theorem dd_Mo_readGuard_85 : decode cc_Mo_readGuard 85 = .ok (.iconst 0, 1) := by decide +kernel
theorem dd_Mo_readGuard_86 : decode cc_Mo_readGuard 86 = .ok (.ireturn, 1) := by decide +kernel
set_option maxRecDepth 100000 in
set_option maxHeartbeats 4000000 in
theorem ct_Mo_readGuard (l : Launch) (E : gf_E) (k : Int) (t n p : Int) (μ : gf_M) (ht : μ 65 10 = t) (ht4 : 0 ≤ t ∧ t < 4) (hn : μ 68 t = n) (hn60 : 0 ≤ n ∧ n ≤ 60) (hp : μ 65 11 = p) (hpn : 0 ≤ p ∧ p ≤ n) (htb : ∀ j : Int, -128 ≤ μ 69 j ∧ μ 69 j ≤ 127) (hk : μ 72 0 = k) (hk7 : 0 ≤ k ∧ k ≤ 7) (hns : ¬ (p < n ∧ μ 69 (60 * t + p) = 32)) : gf_Mi l E yy_Mo_readGuard cc_Mo_readGuard 3 .boolean (gf_rm 2 46) 81 gf_ref μ [.ref (gf_ad E 65)] (fun q μ' => (q = 0 ∨ q = 1) ∧ (q = 0 → (n ≤ p → μ' 65 12 = p) ∧ (p < n → μ' 65 12 = pf_rg (fun j => μ 69 (60 * t + j)) n p k ∧ pf_rg (fun j => μ 69 (60 * t + j)) n p k ≠ -9)) ∧ (q = 1 → p < n ∧ pf_rg (fun j => μ 69 (60 * t + j)) n p k = -9 ∧ μ' 65 11 = p + 3 ∧ p + 3 ≤ n ∧ k < 7 ∧ μ' 72 0 = k + 1 ∧ μ' 72 (3 + k) = pf_pk (μ 69 (60 * t + p)) ∧ μ' 72 (10 + k) = μ 69 (60 * t + (p + 1)) - 48 ∧ μ' 72 (17 + k) = μ 69 (60 * t + (p + 2)) - 48 ∧ ∀ b : Int, b ≠ 0 → b ≠ 3 + k → b ≠ 10 + k → b ≠ 17 + k → μ' 72 b = μ 72 b) ∧ ∀ a b : Int, ¬ (a = 65 ∧ (b = 11 ∨ b = 12)) → a ≠ 72 → μ' a b = μ a b) := by
  refine gf_mi (by decide +kernel) (Nat.le_of_ble_eq_true rfl) (by decide) (fun X Q hlx C hQ => ?_)
  subst hlx
  replace C : gf_C X E cc_Mo_readGuard 3 "GuardFiguresModel" (gf_rm 2 46) := C
  show gf_G X E Q 3 gf_φ μ 0 [(0, .ref (gf_ad E 65))] []
  refine gf_aload_n C dd_Mo_readGuard_0 0 rfl ?_
  refine gf_getA (r := 72) C gf_cl7 fl_Mo_33 dd_Mo_readGuard_1 rfl (show gf_is 81 65 0 7 26 by decide) (by decide) (by decide) ?_
  refine gf_iconst C dd_Mo_readGuard_4 ?_
  refine gf_iald C dd_Mo_readGuard_5 (show gf_is 81 72 1 0 24 by decide) (by omega) (fun hv5 => ?_)
  refine gf_nm (fun x6 hx6 => ?_)
  refine gf_istore_n (lv' := [(1, .int (gf_i x6)), (0, .ref (gf_ad E 65))]) C dd_Mo_readGuard_6 (by decide) rfl ?_
  refine gf_aload_n C dd_Mo_readGuard_7 1 rfl ?_
  refine gf_callVi (st := []) (As := []) C wk_Mo_114 gf_cl7 (show gf_is 81 65 0 7 26 by decide) (ct_Mo_nextLetter (gf_xl X) E t n p μ ht ht4 hn hn60 hp hpn htb) rfl ⟨rfl, rfl, rfl, rfl⟩ (Nat.le_of_ble_eq_true rfl) rfl dd_Mo_readGuard_8 (fun r8 m8 hR8 hp8 => ?_)
  obtain ⟨p', hp1, hp2, hp3, ⟨hp4, hp5⟩, hp6⟩ := hp8
  have epp : p' = p := by
    rcases (show p' = p ∨ p < p' by omega) with h | h
    · exact h
    · exact absurd (hp2 p (by omega) h) hns
  rw [epp] at hp4 hp6
  have hm8 : m8 = μ := by rw [hp6, ← hp]; exact gf_up_id μ 65 11
  refine gf_pm hm8 ?_
  clear hp1 hp2 hp3 hp6 hm8 epp
  have hrg : pf_rg (fun j => μ 69 (60 * t + j)) n p k = if pf_pk (μ 69 (60 * t + p)) = -9 ∨ 7 ≤ k then p else if n ≤ p + 1 then n else if ¬ (48 ≤ μ 69 (60 * t + (p + 1)) ∧ μ 69 (60 * t + (p + 1)) ≤ 57) then p + 1 else if n ≤ p + 2 then n else if ¬ (48 ≤ μ 69 (60 * t + (p + 2)) ∧ μ 69 (60 * t + (p + 2)) ≤ 57) then p + 2 else -9 := rfl
  have hkin : (n ≤ p → pf_pk r8 = -9) ∧ (p < n → r8 = μ 69 (60 * t + p)) := by
    refine ⟨fun h => ?_, fun h => hp4.trans (if_pos h)⟩
    rw [hp4.trans (if_neg (by omega))]
    decide
  refine gf_callSi (st := []) (As := [.int (gf_i r8)]) C wk_Mo_117 (ct_Mo_kindBy (gf_xl X) E r8 μ (by omega)) rfl ⟨rfl, rfl, rfl, rfl⟩ (Nat.le_of_ble_eq_true rfl) rfl dd_Mo_readGuard_11 (fun r11 m11 hR11 hp11 => ?_)
  have hr11 := hp11.1
  refine gf_pm hp11.2 ?_
  refine gf_istore_n (lv' := [(2, .int (gf_i r11)), (1, .int (gf_i x6)), (0, .ref (gf_ad E 65))]) C dd_Mo_readGuard_14 (by decide) rfl ?_
  refine gf_iload_n C dd_Mo_readGuard_15 0 rfl ?_
  refine gf_if_lt 25 C dd_Mo_readGuard_16 (by decide) (by omega) (fun h16 => ?_) (fun h16 => ?_)
  · skip
    refine gf_aload_n C dd_Mo_readGuard_25 2 rfl ?_
    refine gf_callVi (st := []) (As := []) C wk_Mo_110 gf_cl7 (show gf_is 81 65 0 7 26 by decide) (ct_Mo_faults (gf_xl X) E μ) rfl ⟨rfl, rfl, rfl, rfl⟩ (Nat.le_of_ble_eq_true rfl) rfl dd_Mo_readGuard_26 (fun r26 m26 hR26 hp26 => ?_)
    refine gf_zret C hQ dd_Mo_readGuard_29 (by omega) ?_
    refine ⟨Or.inl hp26.1, fun _ => ⟨fun _ => ?_, fun h => ⟨?_, ?_⟩⟩, fun h => by have := hp26.1; omega, fun a b h1 _ => by rw [hp26.2, gf_up_o (by omega)]⟩
    · rw [hp26.2, gf_up_s, hp]
    · have h8 := hkin.2 h
      have hq := hr11.1
      rw [h8] at hq
      rw [hp26.2, gf_up_s, hp, hrg, if_pos (by have := pf_pk_R r8; omega)]
    · have h8 := hkin.2 h
      have hq := hr11.1
      rw [h8] at hq
      rw [hrg, if_pos (by have := pf_pk_R r8; omega)]
      omega
  · skip
    refine gf_iload_n C dd_Mo_readGuard_19 1 rfl ?_
    refine gf_bipush C dd_Mo_readGuard_20 (by decide +kernel) ?_
    refine gf_icmp_ne 30 C dd_Mo_readGuard_22 (by decide) (by omega) (by omega) (fun h22 => ?_) (fun h22 => ?_)
    · skip
      refine gf_aload_n C dd_Mo_readGuard_30 2 rfl ?_
      refine gf_dup C dd_Mo_readGuard_31 rfl ?_
      refine gf_getI (z := 11) C gf_cl7 fl_Mo_93 dd_Mo_readGuard_32 rfl rfl (show gf_is 81 65 0 7 26 by decide) (fun hv32 => ?_)
      refine gf_iconst C dd_Mo_readGuard_35 ?_
      refine gf_iadd C dd_Mo_readGuard_36 ?_
      refine gf_putI (z := 11) C gf_cl7 fl_Mo_93 dd_Mo_readGuard_37 rfl rfl rfl (by decide +kernel) (show gf_is 81 65 0 7 26 by decide) (by omega) ?_
      refine gf_nmM (fun m37 hm37 => ?_)
      refine gf_aload_n C dd_Mo_readGuard_40 2 rfl ?_
      refine gf_getA (r := 72) C gf_cl7 fl_Mo_33 dd_Mo_readGuard_41 rfl (show gf_is 81 65 0 7 26 by decide) (by decide) (by decide) ?_
      refine gf_iconst C dd_Mo_readGuard_44 ?_
      refine gf_iload_n C dd_Mo_readGuard_45 1 rfl ?_
      refine gf_iadd C dd_Mo_readGuard_46 ?_
      refine gf_iload_n C dd_Mo_readGuard_47 0 rfl ?_
      refine gf_iast C dd_Mo_readGuard_48 (show gf_is 81 72 1 0 24 by decide) (by omega) (by omega) ?_
      refine gf_nmM (fun m48 hm48 => ?_)
      refine gf_aload_n C dd_Mo_readGuard_49 2 rfl ?_
      have e480 : m48 72 0 = k := by rw [hm48, gf_up_j (by omega), hm37, gf_up_k (by decide)]; exact hk
      refine gf_getA (r := 72) C gf_cl7 fl_Mo_33 dd_Mo_readGuard_50 rfl (show gf_is 81 65 0 7 26 by decide) (by decide) (by decide) ?_
      refine gf_iconst C dd_Mo_readGuard_53 ?_
      refine gf_dup2 C dd_Mo_readGuard_54 rfl rfl ?_
      refine gf_iald C dd_Mo_readGuard_55 (show gf_is 81 72 1 0 24 by decide) (by omega) (fun hv55 => ?_)
      refine gf_iconst C dd_Mo_readGuard_56 ?_
      refine gf_iadd C dd_Mo_readGuard_57 ?_
      refine gf_iast C dd_Mo_readGuard_58 (show gf_is 81 72 1 0 24 by decide) (by omega) (by omega) ?_
      refine gf_nmM (fun m58 hm58 => ?_)
      have hpn2 : p < n := by
        rcases (show p < n ∨ n ≤ p by omega) with h | h
        · exact h
        · have h1 := hkin.1 h
          have h2 := hr11.1
          omega
      have hc8 : r8 = μ 69 (60 * t + p) := hkin.2 hpn2
      have hk6 : x6 = k := by omega
      have hkd : r11 = pf_pk (μ 69 (60 * t + p)) := by rw [hr11.1, hc8]
      rw [if_neg (by omega)] at hrg
      have f58 : ∀ a b : Int, ¬ (a = 65 ∧ b = 11) → a ≠ 72 → m58 a b = μ a b := fun a b h1 h2 => by rw [hm58, gf_up_k h2, hm48, gf_up_k h2, hm37, gf_up_o h1]
      have g58 : m58 65 11 = p + 1 := by rw [hm58, gf_up_k (by decide), hm48, gf_up_k (by decide), hm37, gf_up_s, hp]
      have e58 : ∀ b : Int, b ≠ 0 → b ≠ 3 + k → m58 72 b = μ 72 b := fun b h1 h2 => by rw [hm58, gf_up_j h1, hm48, gf_up_j (by omega), hm37, gf_up_k (by decide)]
      have z58 : m58 72 0 = k + 1 := by
        rw [hm58, gf_up_s, hm48, gf_up_j (by omega), hm37, gf_up_k (by decide), hk]
      have k58 : m58 72 (3 + k) = r11 := by
        rw [hm58, gf_up_j (by omega), hm48, hk6, gf_up_s]
      have l58 : ∀ q : Int, gm_let (fun j => m58 69 (60 * t + j)) n q = gm_let (fun j => μ 69 (60 * t + j)) n q := fun q => by
        rw [show (fun j => m58 69 (60 * t + j)) = (fun j => μ 69 (60 * t + j)) from funext fun j => f58 69 _ (by omega) (by omega)]
      clear hm58 hm48 hm37
      refine gf_aload_n C dd_Mo_readGuard_59 2 rfl ?_
      refine gf_bipush C dd_Mo_readGuard_60 (by decide +kernel) ?_
      refine gf_iload_n C dd_Mo_readGuard_62 1 rfl ?_
      refine gf_iadd C dd_Mo_readGuard_63 ?_
      refine gf_callVi (st := []) (As := [.int (gf_i (10 + x6))]) C wk_Mo_120 gf_cl7 (show gf_is 81 65 0 7 26 by decide) (ct_Mo_takesFigure (gf_xl X) E (10 + x6) t n (p + 1) m58 (by rw [f58 65 10 (by omega) (by omega)]; exact ht) ht4 (by rw [f58 68 t (by omega) (by omega)]; exact hn) hn60 g58 (by omega) (fun j => by rw [f58 69 j (by omega) (by omega)]; exact htb j) (by omega)) rfl ⟨rfl, rfl, rfl, rfl⟩ (Nat.le_of_ble_eq_true rfl) rfl dd_Mo_readGuard_64 (fun r64 m64 hR64 hp64 => ?_)
      rw [l58] at hp64
      have hp64a := hp64.1
      have hp64b := hp64.2
      clear hp64
      refine gf_if_eq 85 C dd_Mo_readGuard_67 (by decide) (by omega) (fun h67 => ?_) (fun h67 => ?_)
      · skip
        have hno : ¬ (48 ≤ gm_let (fun j => μ 69 (60 * t + j)) n (p + 1) ∧ gm_let (fun j => μ 69 (60 * t + j)) n (p + 1) ≤ 57) := fun h => by have := (hp64b h).2.1; omega
        have hmm := (hp64a hno).2
        have hrg2 : pf_rg (fun j => μ 69 (60 * t + j)) n p k = p + 1 := by
          rw [hrg]
          by_cases e : p + 1 < n
          · rw [show gm_let (fun j => μ 69 (60 * t + j)) n (p + 1) = μ 69 (60 * t + (p + 1)) from if_pos e] at hno
            rw [if_neg (by omega), if_pos hno]
          · rw [if_pos (by omega)]; omega
        have hq1 : m64 65 12 = p + 1 := by rw [hmm]; exact gf_up_s
        have hfr : ∀ a b : Int, ¬ (a = 65 ∧ (b = 11 ∨ b = 12)) → a ≠ 72 → m64 a b = μ a b := fun a b h1 h2 => by rw [hmm, gf_up_o (by omega)]; exact f58 a b (by omega) h2
        refine gf_iconst C dd_Mo_readGuard_85 ?_
        refine gf_zret C hQ dd_Mo_readGuard_86 (by omega) ?_
        first
        | exact ⟨Or.inl rfl, fun _ => ⟨fun h => by omega, fun _ => ⟨by rw [hq1, hrg2], by rw [hrg2]; omega⟩⟩, fun h => by omega, hfr⟩
        | exact ⟨Or.inr rfl, fun h => by omega, fun _ => ⟨hpn2, hrg, g75, by omega, by omega, by rw [e75 0 (by omega), e64 0 (by omega)]; exact z58, by rw [e75 _ (by omega), e64 _ (by omega), k58]; exact hkd, by rw [e75 _ (by omega)]; exact k64, k75, fun b h1 h2 h3 h4 => by rw [e75 b h4, e64 b h3]; exact e58 b h1 h2⟩, f75⟩
      · skip
        have hyes : 48 ≤ gm_let (fun j => μ 69 (60 * t + j)) n (p + 1) ∧ gm_let (fun j => μ 69 (60 * t + j)) n (p + 1) ≤ 57 := by
          rcases Classical.em (48 ≤ gm_let (fun j => μ 69 (60 * t + j)) n (p + 1) ∧ gm_let (fun j => μ 69 (60 * t + j)) n (p + 1) ≤ 57) with h | h
          · exact h
          · have := (hp64a h).1; omega
        obtain ⟨hpn3, -, hmm⟩ := hp64b hyes
        have hy2 : 48 ≤ μ 69 (60 * t + (p + 1)) ∧ μ 69 (60 * t + (p + 1)) ≤ 57 := by
          rw [show gm_let (fun j => μ 69 (60 * t + j)) n (p + 1) = μ 69 (60 * t + (p + 1)) from if_pos hpn3] at hyes
          exact hyes
        rw [if_neg (by omega), if_neg (by omega)] at hrg
        clear hp64a hp64b hyes
        have f64 : ∀ a b : Int, ¬ (a = 65 ∧ b = 11) → a ≠ 72 → m64 a b = μ a b := fun a b h1 h2 => by rw [hmm, gf_up_o (by omega), gf_up_k h2]; exact f58 a b h1 h2
        have g64 : m64 65 11 = p + 2 := by rw [hmm, gf_up_s]; omega
        have e64 : ∀ b : Int, b ≠ 10 + k → m64 72 b = m58 72 b := fun b h => by rw [hmm, gf_up_k (by decide), gf_up_j (by omega)]
        have k64 : m64 72 (10 + k) = μ 69 (60 * t + (p + 1)) - 48 := by
          rw [hmm, gf_up_k (by decide), hk6, gf_up_s, f58 69 _ (by omega) (by omega)]
        have l64 : ∀ q : Int, gm_let (fun j => m64 69 (60 * t + j)) n q = gm_let (fun j => μ 69 (60 * t + j)) n q := fun q => by
          rw [show (fun j => m64 69 (60 * t + j)) = (fun j => μ 69 (60 * t + j)) from funext fun j => f64 69 _ (by omega) (by omega)]
        clear hmm
        refine gf_aload_n C dd_Mo_readGuard_70 2 rfl ?_
        refine gf_bipush C dd_Mo_readGuard_71 (by decide +kernel) ?_
        refine gf_iload_n C dd_Mo_readGuard_73 1 rfl ?_
        refine gf_iadd C dd_Mo_readGuard_74 ?_
        refine gf_callVi (st := []) (As := [.int (gf_i (17 + x6))]) C wk_Mo_120 gf_cl7 (show gf_is 81 65 0 7 26 by decide) (ct_Mo_takesFigure (gf_xl X) E (17 + x6) t n (p + 2) m64 (by rw [f64 65 10 (by omega) (by omega)]; exact ht) ht4 (by rw [f64 68 t (by omega) (by omega)]; exact hn) hn60 g64 (by omega) (fun j => by rw [f64 69 j (by omega) (by omega)]; exact htb j) (by omega)) rfl ⟨rfl, rfl, rfl, rfl⟩ (Nat.le_of_ble_eq_true rfl) rfl dd_Mo_readGuard_75 (fun r75 m75 hR75 hp75 => ?_)
        rw [l64] at hp75
        have hp75a := hp75.1
        have hp75b := hp75.2
        clear hp75
        refine gf_if_eq 85 C dd_Mo_readGuard_78 (by decide) (by omega) (fun h78 => ?_) (fun h78 => ?_)
        · skip
          have hno : ¬ (48 ≤ gm_let (fun j => μ 69 (60 * t + j)) n (p + 2) ∧ gm_let (fun j => μ 69 (60 * t + j)) n (p + 2) ≤ 57) := fun h => by have := (hp75b h).2.1; omega
          have hmm := (hp75a hno).2
          have hrg2 : pf_rg (fun j => μ 69 (60 * t + j)) n p k = p + 2 := by
            rw [hrg]
            by_cases e : p + 2 < n
            · rw [show gm_let (fun j => μ 69 (60 * t + j)) n (p + 2) = μ 69 (60 * t + (p + 2)) from if_pos e] at hno
              rw [if_neg (by omega), if_pos hno]
            · rw [if_pos (by omega)]; omega
          have hq1 : m75 65 12 = p + 2 := by rw [hmm]; exact gf_up_s
          have hfr : ∀ a b : Int, ¬ (a = 65 ∧ (b = 11 ∨ b = 12)) → a ≠ 72 → m75 a b = μ a b := fun a b h1 h2 => by rw [hmm, gf_up_o (by omega)]; exact f64 a b (by omega) h2
          refine gf_iconst C dd_Mo_readGuard_85 ?_
          refine gf_zret C hQ dd_Mo_readGuard_86 (by omega) ?_
          first
          | exact ⟨Or.inl rfl, fun _ => ⟨fun h => by omega, fun _ => ⟨by rw [hq1, hrg2], by rw [hrg2]; omega⟩⟩, fun h => by omega, hfr⟩
          | exact ⟨Or.inr rfl, fun h => by omega, fun _ => ⟨hpn2, hrg, g75, by omega, by omega, by rw [e75 0 (by omega), e64 0 (by omega)]; exact z58, by rw [e75 _ (by omega), e64 _ (by omega), k58]; exact hkd, by rw [e75 _ (by omega)]; exact k64, k75, fun b h1 h2 h3 h4 => by rw [e75 b h4, e64 b h3]; exact e58 b h1 h2⟩, f75⟩
        · skip
          have hyes : 48 ≤ gm_let (fun j => μ 69 (60 * t + j)) n (p + 2) ∧ gm_let (fun j => μ 69 (60 * t + j)) n (p + 2) ≤ 57 := by
            rcases Classical.em (48 ≤ gm_let (fun j => μ 69 (60 * t + j)) n (p + 2) ∧ gm_let (fun j => μ 69 (60 * t + j)) n (p + 2) ≤ 57) with h | h
            · exact h
            · have := (hp75a h).1; omega
          obtain ⟨hpn4, -, hmm⟩ := hp75b hyes
          have hy3 : 48 ≤ μ 69 (60 * t + (p + 2)) ∧ μ 69 (60 * t + (p + 2)) ≤ 57 := by
            rw [show gm_let (fun j => μ 69 (60 * t + j)) n (p + 2) = μ 69 (60 * t + (p + 2)) from if_pos hpn4] at hyes
            exact hyes
          rw [if_neg (by omega), if_neg (by omega)] at hrg
          clear hp75a hp75b hyes
          have f75 : ∀ a b : Int, ¬ (a = 65 ∧ (b = 11 ∨ b = 12)) → a ≠ 72 → m75 a b = μ a b := fun a b h1 h2 => by rw [hmm, gf_up_o (by omega), gf_up_k h2]; exact f64 a b (by omega) h2
          have g75 : m75 65 11 = p + 3 := by rw [hmm, gf_up_s]; omega
          have e75 : ∀ b : Int, b ≠ 17 + k → m75 72 b = m64 72 b := fun b h => by rw [hmm, gf_up_k (by decide), gf_up_j (by omega)]
          have k75 : m75 72 (17 + k) = μ 69 (60 * t + (p + 2)) - 48 := by
            rw [hmm, gf_up_k (by decide), hk6, gf_up_s, f64 69 _ (by omega) (by omega)]
          refine gf_iconst C dd_Mo_readGuard_81 ?_
          refine gf_goto 86 C dd_Mo_readGuard_82 (by decide) ?_
          refine gf_zret C hQ dd_Mo_readGuard_86 (by omega) ?_
          first
          | exact ⟨Or.inl rfl, fun _ => ⟨fun h => by omega, fun _ => ⟨by rw [hq1, hrg2], by rw [hrg2]; omega⟩⟩, fun h => by omega, hfr⟩
          | exact ⟨Or.inr rfl, fun h => by omega, fun _ => ⟨hpn2, hrg, g75, by omega, by omega, by rw [e75 0 (by omega), e64 0 (by omega)]; exact z58, by rw [e75 _ (by omega), e64 _ (by omega), k58]; exact hkd, by rw [e75 _ (by omega)]; exact k64, k75, fun b h1 h2 h3 h4 => by rw [e75 b h4, e64 b h3]; exact e58 b h1 h2⟩, f75⟩
    · skip
      refine gf_aload_n C dd_Mo_readGuard_25 2 rfl ?_
      refine gf_callVi (st := []) (As := []) C wk_Mo_110 gf_cl7 (show gf_is 81 65 0 7 26 by decide) (ct_Mo_faults (gf_xl X) E μ) rfl ⟨rfl, rfl, rfl, rfl⟩ (Nat.le_of_ble_eq_true rfl) rfl dd_Mo_readGuard_26 (fun r26 m26 hR26 hp26 => ?_)
      refine gf_zret C hQ dd_Mo_readGuard_29 (by omega) ?_
      refine ⟨Or.inl hp26.1, fun _ => ⟨fun _ => ?_, fun h => ⟨?_, ?_⟩⟩, fun h => by have := hp26.1; omega, fun a b h1 _ => by rw [hp26.2, gf_up_o (by omega)]⟩
      · rw [hp26.2, gf_up_s, hp]
      · have h8 := hkin.2 h
        have hq := hr11.1
        rw [h8] at hq
        rw [hp26.2, gf_up_s, hp, hrg, if_pos (by have := pf_pk_R r8; omega)]
      · have h8 := hkin.2 h
        have hq := hr11.1
        rw [h8] at hq
        rw [hrg, if_pos (by have := pf_pk_R r8; omega)]
        omega
