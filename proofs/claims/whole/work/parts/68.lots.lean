/-! years by lots on both sides -/
section GL3
variable {μ μ1 μ2 : gf_M}
theorem pf_lots_f (μ : gf_M) (s : Int) : ∀ (n : Nat) {a b : Int}, ¬ (41 ≤ a ∧ a ≤ 43) → pf_lots μ s n a b = μ a b
  | 0, _, _, _ => rfl
  | n + 1, a, b, h => by
    show pf_lotW (gf_rmb (pf_lots μ s n)) 41 (pf_lot s (n + 1)) a b = _
    rw [pf_lotW_f _ _ (by omega) (by omega), gf_rmb_f _ (by omega) (by omega)]
    exact pf_lots_f μ s n h
theorem gm_lotW_f (μ : gf_M) (lot : Int) {a b : Int} (h : a ≠ 71) : gm_lotW μ lot a b = μ a b := by
  unfold gm_lotW gm_app gm_off
  by_cases h1 : lot % 4 < 2 ∧ μ 71 1 < 8
  · rw [if_pos h1, gf_up_k h, gf_up_k h]
  · rw [if_neg h1]
    by_cases h2 : lot % 4 = 2 ∧ 0 < μ 71 1
    · rw [if_pos h2, gf_up_k h, gf_up_k h]
    · rw [if_neg h2]
      by_cases h3 : lot % 4 = 3 ∧ lot / 128 % 8 < μ 71 1
      · rw [if_pos h3, gf_up_k h]
      · rw [if_neg h3]
theorem gm_lots_f (μ : gf_M) (s : Int) : ∀ (n : Nat) {a b : Int}, a ≠ 71 → gm_lots μ s n a b = μ a b
  | 0, _, _, _ => rfl
  | n + 1, a, b, h => by
    show gm_lotW (gm_nt (gm_lots μ s n)) (pf_lot s (n + 1)) a b = _
    rw [gm_lotW_f _ _ h, gm_nt_q (by omega)]
    exact gm_lots_f μ s n h
/-- one lot: c is the class's world, m the reference's, J both in one -/
theorem gf_J_step {J J' c m : gf_M} {lot : Int} (hl : 0 ≤ lot) (hI : gf_I J) (hd : J 41 2 < 40) (hc : ∀ a b : Int, a < 65 → J a b = c a b) (hm : ∀ a b : Int, 65 ≤ a → J a b = m a b) (hc' : ∀ a b : Int, a < 65 → J' a b = pf_lotW (gf_rmb c) 41 lot a b) (hm' : ∀ a b : Int, 65 ≤ a → J' a b = gm_lotW (gm_nt m) lot a b) : gf_I J' := by
  have hs0 := hI.s
  have hn := hI.n
  have hd0 := hI.d
  have hdn := hI.dn
  have c1 : c 41 1 = J 41 1 := (hc 41 1 (by decide)).symm
  have c2 : c 41 2 = J 41 2 := (hc 41 2 (by decide)).symm
  have c42 : c 42 = J 42 := funext fun j => (hc 42 j (by decide)).symm
  have m71 : ∀ b : Int, m 71 b = J 71 b := fun b => (hm 71 b (by decide)).symm
  have r1 : gf_rmb c 41 1 = J 41 1 := by rw [gf_rmb_f c (by omega) (by omega), c1]
  have r42 : ∀ j : Int, gf_rmb c 42 j = J 42 j := fun j => by rw [gf_rmb_f c (by omega) (by omega), c42]
  have n1 : gm_nt m 71 1 = J 41 1 := by rw [gm_nt_q (by rw [m71]; omega), m71, hn]
  have n2 : gm_nt m 71 2 = J 41 2 + 1 := by unfold gm_nt; rw [if_pos (by omega), m71, hdn]
  have n8 : gm_nt m 71 (32 + 9 * J 41 2) = J 71 1 := by
    have := gm_nt_l (μ := m) (by rw [m71]; omega)
    rw [m71 2, hdn, m71] at this
    exact this
  have n9 : ∀ j : Int, 0 ≤ j → j < 8 → gm_nt m 71 (33 + 9 * J 41 2 + j) = J 71 (24 + j) := fun j j0 j1 => by
    have := gm_nt_x (μ := m) (j := j) (by rw [m71]; omega) ⟨j0, j1⟩
    rw [m71 2, hdn, m71] at this
    exact this
  have nq : ∀ b : Int, ¬ (b = 2 ∨ (32 + 9 * J 41 2 ≤ b ∧ b ≤ 40 + 9 * J 41 2)) → gm_nt m 71 b = J 71 b := fun b hb => by rw [gm_nt_q (by rw [m71 2, hdn]; omega), m71]
  have hx : ∀ j : Int, 0 ≤ j → j < J 41 1 → J 71 (24 + j) = J 42 j ∧ 0 ≤ J 42 j ∧ J 42 j ≤ 9 := fun j j0 j1 => hI.2.2.2.1.2.2.1 j j0 j1
  have hf9 : 0 ≤ lot / 8 % 10 ∧ lot / 8 % 10 ≤ 9 := by omega
  have hp8 : 0 ≤ lot / 128 % 8 ∧ lot / 128 % 8 ≤ 7 := by omega
  have hC43 : ∀ e : Int, J' 43 e = if e = J 41 2 then pf_enc (J 42) (J 41 1).toNat else J 43 e := fun e => by
    rw [hc' 43 e (by decide), pf_lotW_f _ _ (by omega) (by omega), gf_rmb_43, c2, c42, c1, hc 43 e (by decide)]
  have hC2 : J' 41 2 = J 41 2 + 1 := by rw [hc' 41 2 (by decide), pf_lotW_41, gf_rmb_d, c2]
  have hCf : ∀ a b : Int, ¬ (a = 41 ∧ (b = 1 ∨ b = 2)) → a ≠ 42 → a ≠ 43 → a ≠ 71 → J' a b = J a b := fun a b k1 k2 k3 k4 => by
    by_cases ha : a < 65
    · rw [hc' a b ha, pf_lotW_f _ _ k2 (by omega), gf_rmb_f c k3 (by omega), hc a b ha]
    · rw [hm' a b (by omega), gm_lotW_f _ _ k4, gm_nt_q (by omega), hm a b (by omega)]
  have key : ∃ z : Int, (0 ≤ z ∧ z ≤ 8) ∧ J' 41 1 = z ∧ J' 71 1 = z ∧ (∀ j : Int, 0 ≤ j → j < z → J' 71 (24 + j) = J' 42 j ∧ 0 ≤ J' 42 j ∧ J' 42 j ≤ 9) ∧ ∀ b : Int, ¬ (b = 1 ∨ (24 ≤ b ∧ b < 32)) → J' 71 b = gm_nt m 71 b := by
    have hcw : ∀ b : Int, J' 41 b = pf_lotW (gf_rmb c) 41 lot 41 b := fun b => hc' 41 b (by decide)
    have hc4 : ∀ b : Int, J' 42 b = pf_lotW (gf_rmb c) 41 lot 42 b := fun b => hc' 42 b (by decide)
    have hmw : ∀ b : Int, J' 71 b = gm_lotW (gm_nt m) lot 71 b := fun b => hm' 71 b (by decide)
    unfold pf_lotW at hcw hc4
    unfold gm_lotW gm_app gm_off at hmw
    rw [r1] at hcw hc4
    rw [show (41 : Int) + 1 = 42 from rfl] at hcw hc4
    rw [n1] at hmw
    have hsame : (∀ b : Int, J' 41 b = gf_rmb c 41 b) → (∀ b : Int, J' 42 b = gf_rmb c 42 b) → (∀ b : Int, J' 71 b = gm_nt m 71 b) → ∃ z : Int, (0 ≤ z ∧ z ≤ 8) ∧ J' 41 1 = z ∧ J' 71 1 = z ∧ (∀ j : Int, 0 ≤ j → j < z → J' 71 (24 + j) = J' 42 j ∧ 0 ≤ J' 42 j ∧ J' 42 j ≤ 9) ∧ ∀ b : Int, ¬ (b = 1 ∨ (24 ≤ b ∧ b < 32)) → J' 71 b = gm_nt m 71 b := fun k1 k2 k3 =>
      ⟨J 41 1, by omega, by rw [k1]; exact r1, by rw [k3]; exact n1, fun j j0 j1 => by rw [k3, k2, r42, nq _ (by omega)]; exact hx j j0 j1, fun b _ => k3 b⟩
    by_cases h1 : lot % 4 ≤ 1
    · rw [if_pos h1] at hcw hc4
      by_cases h8 : J 41 1 < 8
      · rw [if_pos h8] at hcw hc4
        rw [if_pos ⟨by omega, h8⟩] at hmw
        refine ⟨J 41 1 + 1, by omega, by rw [hcw, gf_up_s], by rw [hmw, gf_up_s], fun j j0 j1 => ?_, fun b hb => by rw [hmw, gf_up_j (by omega), gf_up_j (by omega)]⟩
        have e71 : J' 71 (24 + j) = gf_up (gm_nt m) 71 (24 + J 41 1) (lot / 8 % 10) 71 (24 + j) := by rw [hmw, gf_up_j (by omega)]
        have e42 : J' 42 j = gf_up (gf_rmb c) 42 (J 41 1) (lot / 8 % 10) 42 j := by rw [hc4, gf_up_k (by omega)]
        rw [e71, e42]
        by_cases hj : j = J 41 1
        · subst hj
          rw [gf_up_s, gf_up_s]
          exact ⟨rfl, hf9⟩
        · rw [gf_up_j (by omega), gf_up_j hj, r42, nq _ (by omega)]
          exact hx j j0 (by omega)
      · rw [if_neg h8] at hcw hc4
        rw [if_neg (fun z => h8 z.2), if_neg (by omega), if_neg (by omega)] at hmw
        exact hsame hcw hc4 hmw
    · rw [if_neg h1] at hcw hc4
      rw [if_neg (by omega)] at hmw
      by_cases h2 : lot % 4 = 2
      · rw [if_pos h2] at hcw hc4
        by_cases h0 : J 41 1 = 0
        · rw [if_pos h0] at hcw hc4
          rw [if_neg (by omega), if_neg (by omega)] at hmw
          exact hsame hcw hc4 hmw
        · rw [if_neg h0] at hcw hc4
          rw [if_pos ⟨h2, by omega⟩] at hmw
          refine ⟨J 41 1 - 1, by omega, by rw [hcw, gf_up_s], by rw [hmw, gf_up_j (by omega), gf_up_s], fun j j0 j1 => ?_, fun b hb => by rw [hmw, gf_up_j (by omega), gf_up_j (by omega)]⟩
          rw [hmw, hc4, gf_up_j (by omega), gf_up_j (by omega), gf_up_k (by omega), r42, nq _ (by omega)]
          exact hx j j0 (by omega)
      · rw [if_neg h2] at hcw hc4
        rw [if_neg (by omega)] at hmw
        by_cases h3 : lot / 128 % 8 < J 41 1
        · rw [if_pos h3] at hcw hc4
          rw [if_pos ⟨by omega, h3⟩] at hmw
          refine ⟨J 41 1, by omega, by rw [hcw, gf_up_k (by omega), r1], by rw [hmw, gf_up_j (by omega), n1], fun j j0 j1 => ?_, fun b hb => by rw [hmw, gf_up_j (by omega)]⟩
          rw [hmw, hc4]
          by_cases hj : j = lot / 128 % 8
          · subst hj
            rw [gf_up_s, gf_up_s]
            exact ⟨rfl, hf9⟩
          · rw [gf_up_j (by omega), gf_up_j hj, r42, nq _ (by omega)]
            exact hx j j0 j1
        · rw [if_neg h3] at hcw hc4
          rw [if_neg (by omega)] at hmw
          exact hsame hcw hc4 hmw
  obtain ⟨z, hz, k1, k2, k3, k4⟩ := key
  refine lf_deed hI hd (z := z) ⟨k1, hz⟩ hC2 (fun e e0 e1 => by rw [hC43, if_neg (by omega)]) (by rw [hC43, if_pos rfl]) k2 (by rw [k4 2 (by omega)]; exact n2) k3 (by rw [k4 _ (by omega)]; exact n8) (fun j j0 j1 => by rw [k4 _ (by omega)]; exact n9 j j0 j1) (fun j j0 j1 => by rw [k4 _ (by omega)]; exact nq _ (by omega)) (fun b hb => by rw [k4 _ (by omega)]; exact nq _ (by omega)) hCf
theorem vs_lots {s : Int} {n : Nat} (h : μ1 = pf_lots μ s n) : gf_vw μ1 μ := fun a b ha => by rw [h]; exact pf_lots_f μ s n (by omega)
theorem lf_lots (hI : gf_I μ) {s : Int} {n : Nat} (hs : 1 ≤ s ∧ s ≤ 2147483646) (hd : μ 41 2 + n ≤ 40) (h1 : μ1 = pf_lots μ s n) (h2 : μ2 = gm_lots μ1 s n) : gf_I μ2 ∧ μ2 71 1 = μ1 41 1 := by
  have v := vs_lots h1
  have step : ∀ k : Nat, k ≤ n → gf_I (fun a b => if a < 65 then pf_lots μ s k a b else gm_lots μ1 s k a b) ∧ pf_lots μ s k 41 2 = μ 41 2 + k := by
    intro k
    induction k with
    | zero =>
      intro _
      refine ⟨hI.sc (fun a b _ => ?_), by show μ 41 2 = _; omega⟩
      show (if a < 65 then μ a b else μ1 a b) = μ a b
      by_cases ha : a < 65
      · rw [if_pos ha]
      · rw [if_neg ha]; exact v a b (by omega)
    | succ k ih =>
      intro hk
      obtain ⟨i1, i2⟩ := ih (by omega)
      refine ⟨gf_J_step (lot := pf_lot s (k + 1)) (c := pf_lots μ s k) (m := gm_lots μ1 s k) (pf_lot_R hs (k + 1)).1 i1 ?_ (fun a b ha => ?_) (fun a b ha => ?_) (fun a b ha => ?_) (fun a b ha => ?_), ?_⟩
      · show (if (41 : Int) < 65 then pf_lots μ s k 41 2 else _) < 40
        rw [if_pos (by decide), i2]
        omega
      · show (if a < 65 then pf_lots μ s k a b else _) = _
        rw [if_pos ha]
      · show (if a < 65 then _ else gm_lots μ1 s k a b) = _
        rw [if_neg (by omega)]
      · show (if a < 65 then pf_lots μ s (k + 1) a b else _) = _
        rw [if_pos ha]
        rfl
      · show (if a < 65 then _ else gm_lots μ1 s (k + 1) a b) = _
        rw [if_neg (by omega)]
        rfl
      · show pf_lotW (gf_rmb (pf_lots μ s k)) 41 (pf_lot s (k + 1)) 41 2 = _
        rw [pf_lotW_41, gf_rmb_d, i2]
        omega
  have hJ := (step n (Nat.le_refl _)).1
  have hE : ∀ a b : Int, μ2 a b = if a < 65 then pf_lots μ s n a b else gm_lots μ1 s n a b := fun a b => by
    rw [h2]
    by_cases ha : a < 65
    · rw [if_pos ha, gm_lots_f _ _ _ (by omega), h1]
    · rw [if_neg ha]
  refine ⟨hJ.sc (fun a b _ => hE a b), ?_⟩
  have hn := hJ.n
  have h41 : (if (41 : Int) < 65 then pf_lots μ s n 41 1 else gm_lots μ1 s n 41 1) = pf_lots μ s n 41 1 := if_pos (by decide)
  rw [hE 71 1, show μ1 41 1 = pf_lots μ s n 41 1 by rw [h1]]
  exact hn.trans h41
end GL3
