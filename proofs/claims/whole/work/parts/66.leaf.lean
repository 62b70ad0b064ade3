/-! calls that change rows, texts, the house, the number -/
theorem gf_up_comm {μ : gf_M} {k j v k' j' v' : Int} (h : k ≠ k') : gf_up (gf_up μ k j v) k' j' v' = gf_up (gf_up μ k' j' v') k j v := by
  funext a b
  unfold gf_up
  by_cases h1 : a = k' ∧ b = j'
  · rw [if_pos h1, if_neg (by omega), if_pos h1]
  · rw [if_neg h1]
    by_cases h2 : a = k ∧ b = j
    · rw [if_pos h2, if_pos h2]
    · rw [if_neg h2, if_neg h2, if_neg h1]
section GL1
variable {μ μ1 μ2 : gf_M}
theorem vs_rnw {k n v : Int} (h : gf_rnw μ μ1 k n v) (hk : k < 64) : gf_vw μ1 μ := fun a b ha => h.2.2 a b (by omega) (by omega)
theorem lf_row (hI : gf_I μ) {r n : Int} (hr : 0 ≤ r ∧ r < 6) (hn : 0 ≤ n ∧ n ≤ 40) (h1 : gf_rnw μ μ1 (2 + 2 * r) n 0) (h2 : gm_new μ1 μ2 66 67 40 r n 0) : gf_I μ2 := by
  obtain ⟨a1, a2, a3⟩ := h1
  obtain ⟨b1, b2, b3⟩ := h2
  have hfr : ∀ a b : Int, ¬ (2 ≤ a ∧ a ≤ 13) → a ≠ 66 → a ≠ 67 → μ2 a b = μ a b := fun a b h1 h2 h3 => by rw [b3 a b (by omega) (by omega), a3 a b (by omega) (by omega)]
  obtain ⟨g1, g2, g3, g4, g5, g6⟩ := hI
  refine ⟨fun x x0 x1 => ?_, g2.f (fun a b hab => hfr a b (by omega) (by omega) (by omega)), g3.f (fun a b hab => hfr a b (by omega) (by omega) (by omega)), g4.f (fun a b hab => hfr a b (by omega) (by omega) (by omega)), g5.f (fun a b hab => hfr a b (by omega) (by omega) (by omega)), g6.f (fun a b hab => hfr a b (by omega) (by omega) (by omega))⟩
  by_cases hx : x = r
  · subst hx
    rw [b1, b3 (2 + 2 * x) 1 (by omega) (by omega), a1]
    refine ⟨⟨rfl, by omega, by omega⟩, fun j j0 j1 => ?_⟩
    rw [b2 j j0 j1, b3 (3 + 2 * x) j (by omega) (by omega), show 3 + 2 * x = 2 + 2 * x + 1 by omega, a2 j j0 j1]
  · obtain ⟨c1, c2⟩ := g1 x x0 x1
    rw [b3 66 x (by omega) (by omega), b3 (2 + 2 * x) 1 (by omega) (by omega), a3 66 x (by omega) (by omega), a3 (2 + 2 * x) 1 (by omega) (by omega)]
    refine ⟨c1, fun j j0 j1 => ?_⟩
    rw [b3 67 _ (by omega) (by omega), b3 (3 + 2 * x) j (by omega) (by omega), a3 67 _ (by omega) (by omega), a3 (3 + 2 * x) j (by omega) (by omega)]
    exact c2 j j0 j1
theorem lf_text (hI : gf_I μ) {r n : Int} (hr : 0 ≤ r ∧ r < 4) (hn : 0 ≤ n ∧ n ≤ 60) (h1 : gf_rnw μ μ1 (15 + 2 * r) n 32) (h2 : gm_new μ1 μ2 68 69 60 r n 32) : gf_I μ2 := by
  obtain ⟨a1, a2, a3⟩ := h1
  obtain ⟨b1, b2, b3⟩ := h2
  have hfr : ∀ a b : Int, ¬ (15 ≤ a ∧ a ≤ 22) → a ≠ 68 → a ≠ 69 → μ2 a b = μ a b := fun a b h1 h2 h3 => by rw [b3 a b (by omega) (by omega), a3 a b (by omega) (by omega)]
  obtain ⟨g1, g2, g3, g4, g5, g6⟩ := hI
  refine ⟨g1.f (fun a b hab => hfr a b (by omega) (by omega) (by omega)), ⟨fun x x0 x1 => ?_, fun j => ?_⟩, g3.f (fun a b hab => hfr a b (by omega) (by omega) (by omega)), g4.f (fun a b hab => hfr a b (by omega) (by omega) (by omega)), g5.f (fun a b hab => hfr a b (by omega) (by omega) (by omega)), g6.f (fun a b hab => hfr a b (by omega) (by omega) (by omega))⟩
  · by_cases hx : x = r
    · subst hx
      rw [b1, b3 (15 + 2 * x) 1 (by omega) (by omega), a1]
      refine ⟨⟨rfl, by omega, by omega⟩, fun j j0 j1 => ?_⟩
      rw [b2 j j0 j1, b3 (16 + 2 * x) j (by omega) (by omega), show 16 + 2 * x = 15 + 2 * x + 1 by omega, a2 j j0 j1]
    · obtain ⟨c1, c2⟩ := g2.1 x x0 x1
      rw [b3 68 x (by omega) (by omega), b3 (15 + 2 * x) 1 (by omega) (by omega), a3 68 x (by omega) (by omega), a3 (15 + 2 * x) 1 (by omega) (by omega)]
      refine ⟨c1, fun j j0 j1 => ?_⟩
      rw [b3 69 _ (by omega) (by omega), b3 (16 + 2 * x) j (by omega) (by omega), a3 69 _ (by omega) (by omega), a3 (16 + 2 * x) j (by omega) (by omega)]
      exact c2 j j0 j1
  · by_cases hj : 60 * r ≤ j ∧ j < 60 * r + n
    · have := b2 (j - 60 * r) (by omega) (by omega)
      rw [show 60 * r + (j - 60 * r) = j by omega] at this
      omega
    · rw [b3 69 j (by omega) (by omega), a3 69 j (by omega) (by omega)]
      exact g2.2 j
theorem vs_up {k j v : Int} (hk : k < 65) : gf_vw (gf_up μ k j v) μ := fun a b ha => gf_up_k (by omega)
theorem gf_vw.tr {μ0 : gf_M} (h : gf_vw μ1 μ) (h2 : gf_vw μ μ0) : gf_vw μ1 μ0 := fun a b ha => (h a b ha).trans (h2 a b ha)
theorem vs_lay {r i v w : Int} (hr : 0 ≤ r ∧ r < 6) (h : μ1 = gf_tl (gf_up μ (3 + 2 * r) i v) w) : gf_vw μ1 μ := (gf_vw.of_tl h).tr (vs_up (by omega))
/-- a place of a row on both sides -/
theorem gf_I.lay (hI : gf_I μ) {r i v : Int} (hr : 0 ≤ r ∧ r < 6) (hi : 0 ≤ i ∧ i < μ 66 r) : gf_I (gf_up (gf_up μ (3 + 2 * r) i v) 67 (40 * r + i) v) := by
  have hfr : ∀ a b : Int, ¬ (3 ≤ a ∧ a ≤ 13) → a ≠ 67 → gf_up (gf_up μ (3 + 2 * r) i v) 67 (40 * r + i) v a b = μ a b := fun a b h1 h2 => by rw [gf_up_k h2, gf_up_k (by omega)]
  obtain ⟨g1, g2, g3, g4, g5, g6⟩ := hI
  refine ⟨fun x x0 x1 => ?_, g2.f (fun a b hab => hfr a b (by omega) (by omega)), g3.f (fun a b hab => hfr a b (by omega) (by omega)), g4.f (fun a b hab => hfr a b (by omega) (by omega)), g5.f (fun a b hab => hfr a b (by omega) (by omega)), g6.f (fun a b hab => hfr a b (by omega) (by omega))⟩
  have g1r := (g1 r hr.1 hr.2).1
  obtain ⟨c1, c2⟩ := g1 x x0 x1
  rw [hfr 66 x (by omega) (by omega), gf_up_k (a := 2 + 2 * x) (by omega), gf_up_k (a := 2 + 2 * x) (by omega)]
  refine ⟨c1, fun j j0 j1 => ?_⟩
  rw [gf_up_k (a := 3 + 2 * x) (by omega)]
  by_cases hx : x = r ∧ j = i
  · obtain ⟨rfl, rfl⟩ := hx
    rw [gf_up_s, gf_up_s]
  · rw [gf_up_j (by omega), gf_up_k (by omega), gf_up_o (by omega)]
    exact c2 j j0 j1
theorem lf_lay (hI : gf_I μ) {r i v w w' : Int} (hr : 0 ≤ r ∧ r < 6) (hi : 0 ≤ i ∧ i < μ 66 r) (h1 : μ1 = gf_tl (gf_up μ (3 + 2 * r) i v) w) (h2 : μ2 = gm_tl (gf_up μ1 67 (40 * r + i) v) w') (e : w = w') : gf_I μ2 := by
  subst e
  have hJ := (hI.lay (v := v) hr hi).tl (v := w)
  rw [h2, h1]
  unfold gf_tl at hJ ⊢
  rw [gf_up_comm (by omega)]
  exact hJ
theorem lf_tear (hI : gf_I μ) {r : Int} (hr : 0 ≤ r ∧ r < 6) (h1 : μ1 = gf_up μ (2 + 2 * r) 1 (-1)) (h2 : μ2 = gf_up μ1 66 r (-1)) : gf_I μ2 := by
  subst h1; subst h2
  have hfr : ∀ a b : Int, ¬ (2 ≤ a ∧ a ≤ 13) → a ≠ 66 → gf_up (gf_up μ (2 + 2 * r) 1 (-1)) 66 r (-1) a b = μ a b := fun a b h1 h2 => by rw [gf_up_k h2, gf_up_k (by omega)]
  obtain ⟨g1, g2, g3, g4, g5, g6⟩ := hI
  refine ⟨fun x x0 x1 => ?_, g2.f (fun a b hab => hfr a b (by omega) (by omega)), g3.f (fun a b hab => hfr a b (by omega) (by omega)), g4.f (fun a b hab => hfr a b (by omega) (by omega)), g5.f (fun a b hab => hfr a b (by omega) (by omega)), g6.f (fun a b hab => hfr a b (by omega) (by omega))⟩
  obtain ⟨c1, c2⟩ := g1 x x0 x1
  by_cases hx : x = r
  · subst hx
    rw [gf_up_s, gf_up_k (a := 2 + 2 * x) (by omega), gf_up_s]
    exact ⟨by omega, fun j j0 j1 => by omega⟩
  · rw [gf_up_j (by omega), gf_up_k (by omega), gf_up_k (a := 2 + 2 * x) (by omega), gf_up_k (a := 2 + 2 * x) (by omega)]
    refine ⟨c1, fun j j0 j1 => ?_⟩
    rw [gf_up_k (by omega), gf_up_k (by omega), gf_up_k (by omega), gf_up_k (by omega)]
    exact c2 j j0 j1
theorem vs_cp {r i o j n : Int} (ho : 0 ≤ o ∧ o < 6) (h : μ1 = gf_cp μ (3 + 2 * r) i (3 + 2 * o) j n) : gf_vw μ1 μ := fun a b ha => by
  rw [h]
  unfold gf_cp
  rw [if_neg (by omega)]
theorem lf_copy (hI : gf_I μ) {r i o j n : Int} (hr : 0 ≤ r ∧ r < 6) (ho : 0 ≤ o ∧ o < 6) (hn : 0 ≤ n) (hi : 0 ≤ i ∧ i + n ≤ μ 66 r) (hj : 0 ≤ j ∧ j + n ≤ μ 66 o) (h1 : μ1 = gf_cp μ (3 + 2 * r) i (3 + 2 * o) j n) (h2 : μ2 = gf_cp μ1 67 (40 * r + i) 67 (40 * o + j) n) : gf_I μ2 := by
  have v := vs_cp ho h1
  have hf1 : ∀ a b : Int, a ≠ 3 + 2 * o → μ1 a b = μ a b := fun a b h => by rw [h1]; unfold gf_cp; rw [if_neg (by omega)]
  have hf2 : ∀ a b : Int, a ≠ 67 → μ2 a b = μ1 a b := fun a b h => by rw [h2]; unfold gf_cp; rw [if_neg (by omega)]
  have hfr : ∀ a b : Int, ¬ (3 ≤ a ∧ a ≤ 13) → a ≠ 67 → μ2 a b = μ a b := fun a b g1 g2 => by rw [hf2 a b g2, hf1 a b (by omega)]
  obtain ⟨g1, g2, g3, g4, g5, g6⟩ := hI
  refine ⟨fun x x0 x1 => ?_, g2.f (fun a b hab => hfr a b (by omega) (by omega)), g3.f (fun a b hab => hfr a b (by omega) (by omega)), g4.f (fun a b hab => hfr a b (by omega) (by omega)), g5.f (fun a b hab => hfr a b (by omega) (by omega)), g6.f (fun a b hab => hfr a b (by omega) (by omega))⟩
  obtain ⟨c1, c2⟩ := g1 x x0 x1
  have c1r := (g1 r hr.1 hr.2).1
  have c1o := (g1 o ho.1 ho.2).1
  rw [hfr 66 x (by omega) (by omega), hf2 (2 + 2 * x) 1 (by omega), hf1 (2 + 2 * x) 1 (by omega)]
  refine ⟨c1, fun b b0 b1 => ?_⟩
  rw [hf2 (3 + 2 * x) b (by omega)]
  by_cases hx : x = o ∧ j ≤ b ∧ b < j + n
  · obtain ⟨rfl, hb⟩ := hx
    have e1 : μ2 67 (40 * x + b) = μ 67 (40 * r + (i + (b - j))) := by
      rw [h2]
      unfold gf_cp
      rw [if_pos (by omega), v 67 _ (by omega)]
      congr 1
      omega
    have e2 : μ1 (3 + 2 * x) b = μ (3 + 2 * r) (i + (b - j)) := by
      rw [h1]
      unfold gf_cp
      rw [if_pos (by omega)]
    rw [e1, e2]
    exact (g1 r hr.1 hr.2).2 _ (by omega) (by omega)
  · have e1 : μ2 67 (40 * x + b) = μ 67 (40 * x + b) := by
      rw [h2]
      unfold gf_cp
      rw [if_neg (by omega), v 67 _ (by omega)]
    have e2 : μ1 (3 + 2 * x) b = μ (3 + 2 * x) b := by
      rw [h1]
      unfold gf_cp
      rw [if_neg (by omega)]
    rw [e1, e2]
    exact c2 b b0 b1
theorem lf_put (hI : gf_I μ) {t i v : Int} (ht : 0 ≤ t ∧ t < 4) (hi : 0 ≤ i ∧ i < μ 68 t) (h1 : μ1 = gf_up μ (16 + 2 * t) i (gf_b v)) (h2 : μ2 = gf_up μ1 69 (60 * t + i) (gf_b v)) : gf_I μ2 := by
  subst h1; subst h2
  have hfr : ∀ a b : Int, ¬ (16 ≤ a ∧ a ≤ 22) → a ≠ 69 → gf_up (gf_up μ (16 + 2 * t) i (gf_b v)) 69 (60 * t + i) (gf_b v) a b = μ a b := fun a b h1 h2 => by rw [gf_up_k h2, gf_up_k (by omega)]
  obtain ⟨g1, g2, g3, g4, g5, g6⟩ := hI
  refine ⟨g1.f (fun a b hab => hfr a b (by omega) (by omega)), ⟨fun x x0 x1 => ?_, fun j => ?_⟩, g3.f (fun a b hab => hfr a b (by omega) (by omega)), g4.f (fun a b hab => hfr a b (by omega) (by omega)), g5.f (fun a b hab => hfr a b (by omega) (by omega)), g6.f (fun a b hab => hfr a b (by omega) (by omega))⟩
  · have g1r := (g2.1 t ht.1 ht.2).1
    obtain ⟨c1, c2⟩ := g2.1 x x0 x1
    rw [hfr 68 x (by omega) (by omega), gf_up_k (a := 15 + 2 * x) (by omega), gf_up_k (a := 15 + 2 * x) (by omega)]
    refine ⟨c1, fun j j0 j1 => ?_⟩
    rw [gf_up_k (a := 16 + 2 * x) (by omega)]
    by_cases hx : x = t ∧ j = i
    · obtain ⟨rfl, rfl⟩ := hx
      rw [gf_up_s, gf_up_s]
    · rw [gf_up_j (by omega), gf_up_k (by omega), gf_up_o (by omega)]
      exact c2 j j0 j1
  · by_cases hj : j = 60 * t + i
    · rw [hj, gf_up_s]
      exact gf_b_R v
    · rw [gf_up_j hj, gf_up_k (by omega)]
      exact g2.2 j
/-! the reader sees the same text -/
theorem pf_rg_congr {f g : Int → Int} {n p c : Int} (h : ∀ j : Int, 0 ≤ j → j < n → f j = g j) (hp : 0 ≤ p ∧ p < n) : pf_rg f n p c = pf_rg g n p c := by
  unfold pf_rg
  rw [h p hp.1 hp.2]
  by_cases h1 : n ≤ p + 1
  · rw [if_pos h1, if_pos h1]
  · rw [if_neg h1, if_neg h1, h (p + 1) (by omega) (by omega)]
    by_cases h2 : n ≤ p + 2
    · rw [if_pos h2, if_pos h2]
    · rw [if_neg h2, if_neg h2, h (p + 2) (by omega) (by omega)]
theorem pf_rg_9 {f : Int → Int} {n p c : Int} (hn : 0 ≤ n) (hp : 0 ≤ p) (h : pf_rg f n p c = -9) : pf_pk (f p) ≠ -9 ∧ p + 2 < n ∧ (48 ≤ f (p + 1) ∧ f (p + 1) ≤ 57) ∧ (48 ≤ f (p + 2) ∧ f (p + 2) ≤ 57) := by
  unfold pf_rg at h
  by_cases h0 : pf_pk (f p) = -9 ∨ 7 ≤ c
  · rw [if_pos h0] at h; omega
  · rw [if_neg h0] at h
    by_cases h1 : n ≤ p + 1
    · rw [if_pos h1] at h; omega
    · rw [if_neg h1] at h
      by_cases h2 : 48 ≤ f (p + 1) ∧ f (p + 1) ≤ 57
      · rw [if_neg (fun z => z h2)] at h
        by_cases h3 : n ≤ p + 2
        · rw [if_pos h3] at h; omega
        · rw [if_neg h3] at h
          by_cases h4 : 48 ≤ f (p + 2) ∧ f (p + 2) ≤ 57
          · exact ⟨fun z => h0 (Or.inl z), by omega, h2, h4⟩
          · rw [if_pos h4] at h; omega
      · rw [if_pos h2] at h; omega
theorem pf_pr_congr {f g : Int → Int} {n : Int} (h : ∀ j : Int, 0 ≤ j → j < n → f j = g j) : ∀ (k : Nat) (p : Int) (a : List (Int × Int × Int)), 0 ≤ p → pf_pr f n k p a = pf_pr g n k p a
  | 0, _, _, _ => rfl
  | k + 1, p, a, hp => by
    unfold pf_pr
    by_cases h1 : n ≤ p
    · rw [if_pos h1, if_pos h1]
    · rw [if_neg h1, if_neg h1, h p hp (by omega), pf_rg_congr h ⟨hp, by omega⟩, pf_pr_congr h k (p + 1) a (by omega)]
      by_cases h2 : pf_rg g n p a.length = -9
      · have h3 := pf_rg_9 (by omega) hp h2
        rw [if_pos h2, if_pos h2, h (p + 1) (by omega) (by omega), h (p + 2) (by omega) (by omega), pf_pr_congr h k (p + 3) _ (by omega)]
      · rw [if_neg h2, if_neg h2]
def pf_okq (q : Int × Int × Int) : Prop := (0 ≤ q.1 ∧ q.1 ≤ 5) ∧ (0 ≤ q.2.1 ∧ q.2.1 ≤ 9) ∧ (0 ≤ q.2.2 ∧ q.2.2 ≤ 9)
theorem pf_pr_ok {f : Int → Int} {n : Int} (hn : 0 ≤ n) : ∀ (k : Nat) (p : Int) (a : List (Int × Int × Int)), 0 ≤ p → (∀ q ∈ a, pf_okq q) → ∀ q ∈ (pf_pr f n k p a).2, pf_okq q
  | 0, _, a, _, ha => ha
  | k + 1, p, a, hp, ha => by
    unfold pf_pr
    by_cases h1 : n ≤ p
    · rw [if_pos h1]; exact ha
    · rw [if_neg h1]
      by_cases h2 : f p = 32
      · rw [if_pos h2]; exact pf_pr_ok hn k (p + 1) a (by omega) ha
      · rw [if_neg h2]
        by_cases h3 : pf_rg f n p a.length = -9
        · rw [if_pos h3]
          have h4 := pf_rg_9 hn hp h3
          refine pf_pr_ok hn k (p + 3) _ (by omega) (fun q hq => ?_)
          rcases List.mem_append.mp hq with hq | hq
          · exact ha q hq
          · rw [List.mem_singleton.mp hq]
            have := pf_pk_R (f p)
            unfold pf_okq
            dsimp only
            omega
        · rw [if_neg h3]; exact ha
theorem gf_I.PR (hI : gf_I μ) {t : Int} (ht : 0 ≤ t ∧ t < 4) : pf_PR μ t = pf_pr (fun j => μ 69 (60 * t + j)) (μ 68 t) 61 0 [] := by
  obtain ⟨g1, g2⟩ := hI.2.1.1 t ht.1 ht.2
  unfold pf_PR
  rw [← g1.1]
  exact pf_pr_congr (fun j a b => (g2 j a b).symm) 61 0 [] (by decide)
end GL1
