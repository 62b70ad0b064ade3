/-! the house, deeds, what is kept, on both sides -/
section GL2
variable {μ μ1 μ2 : gf_M}
/-- a deed on both sides: the number as it was is written down, and it becomes another -/
theorem lf_deed (hI : gf_I μ) (hd : μ 41 2 < 40) {z : Int} (h1 : μ2 41 1 = z ∧ 0 ≤ z ∧ z ≤ 8) (h2 : μ2 41 2 = μ 41 2 + 1) (h3 : ∀ e : Int, 0 ≤ e → e < μ 41 2 → μ2 43 e = μ 43 e) (h4 : μ2 43 (μ 41 2) = pf_enc (μ 42) (μ 41 1).toNat) (h5 : μ2 71 1 = z) (h6 : μ2 71 2 = μ 41 2 + 1) (h7 : ∀ j : Int, 0 ≤ j → j < z → μ2 71 (24 + j) = μ2 42 j ∧ 0 ≤ μ2 42 j ∧ μ2 42 j ≤ 9) (h8 : μ2 71 (32 + 9 * μ 41 2) = μ 71 1) (h9 : ∀ j : Int, 0 ≤ j → j < 8 → μ2 71 (33 + 9 * μ 41 2 + j) = μ 71 (24 + j)) (h10 : ∀ j : Int, 32 ≤ j → j < 32 + 9 * μ 41 2 → μ2 71 j = μ 71 j) (h11 : ∀ b : Int, b = 0 ∨ (3 ≤ b ∧ b < 24) → μ2 71 b = μ 71 b) (hf : ∀ a b : Int, ¬ (a = 41 ∧ (b = 1 ∨ b = 2)) → a ≠ 42 → a ≠ 43 → a ≠ 71 → μ2 a b = μ a b) : gf_I μ2 := by
  obtain ⟨g1, g2, g3, g4, g5, g6⟩ := hI
  have hd0 := g4.2.1.2
  refine ⟨g1.f (fun a b hab => hf a b (by omega) (by omega) (by omega) (by omega)), g2.f (fun a b hab => hf a b (by omega) (by omega) (by omega) (by omega)), g3.f (fun a b hab => ?_), ?_, g5.f (fun a b hab => ?_), g6.f (fun a b hab => hf a b (by omega) (by omega) (by omega) (by omega))⟩
  · by_cases ha : a = 71
    · subst ha; exact h11 b (by omega)
    · exact hf a b (by omega) (by omega) (by omega) ha
  · have hN : gf_wr (μ 41 1) (μ 41 2 + 1) (μ 42) (μ2 43) (fun j => if j = 1 ∨ (24 ≤ j ∧ j < 32) then μ 71 j else μ2 71 j) := by
      refine gf_wr_note g4 hd ?_ ?_ (fun j j0 j1 => ?_) ?_ (fun j j0 j1 => ?_) (fun j j0 j1 => ?_) h3 h4
      · show (if (1 : Int) = 1 ∨ (24 ≤ (1 : Int) ∧ (1 : Int) < 32) then μ 71 1 else μ2 71 1) = _
        rw [if_pos (by omega)]
      · show (if (2 : Int) = 1 ∨ (24 ≤ (2 : Int) ∧ (2 : Int) < 32) then μ 71 2 else μ2 71 2) = _
        rw [if_neg (by omega)]
        exact h6
      · show (if (24 + j : Int) = 1 ∨ (24 ≤ (24 + j : Int) ∧ (24 + j : Int) < 32) then μ 71 (24 + j) else μ2 71 (24 + j)) = _
        rw [if_pos (by omega)]
      · show (if _ ∨ _ then _ else μ2 71 (32 + 9 * μ 41 2)) = _
        rw [if_neg (by omega)]
        exact h8
      · show (if _ ∨ _ then _ else μ2 71 (33 + 9 * μ 41 2 + j)) = _
        rw [if_neg (by omega)]
        exact h9 j j0 j1
      · show (if _ ∨ _ then _ else μ2 71 j) = _
        rw [if_neg (by omega)]
        exact h10 j j0 j1
    unfold gI_num
    rw [h1.1, h2]
    refine gf_wr_mod hN ⟨h5, h1.2⟩ ?_ h7 (fun j j0 => ?_)
    · show _ = (if (2 : Int) = 1 ∨ (24 ≤ (2 : Int) ∧ (2 : Int) < 32) then μ 71 2 else μ2 71 2)
      rw [if_neg (by omega)]
    · show _ = (if _ ∨ _ then _ else μ2 71 j)
      rw [if_neg (by omega)]
  · by_cases ha : a = 71
    · subst ha; exact h11 b (by omega)
    · exact hf a b (by omega) (by omega) (by omega) ha
theorem gm_nt_d (hn : μ 71 2 = μ 41 2) : gm_nt μ 71 2 = μ 41 2 + 1 := by
  unfold gm_nt
  rw [if_pos (by omega), hn]
theorem gm_nt_l (hd : 0 ≤ μ 71 2) : gm_nt μ 71 (32 + 9 * μ 71 2) = μ 71 1 := by
  unfold gm_nt
  rw [if_neg (by omega), if_pos (by omega)]
theorem gm_nt_x {j : Int} (hd : 0 ≤ μ 71 2) (hj : 0 ≤ j ∧ j < 8) : gm_nt μ 71 (33 + 9 * μ 71 2 + j) = μ 71 (24 + j) := by
  unfold gm_nt
  rw [if_neg (by omega), if_neg (by omega), if_pos (by omega)]
  congr 1
  omega
theorem gm_nt_q {a b : Int} (h : ¬ (a = 71 ∧ (b = 2 ∨ (32 + 9 * μ 71 2 ≤ b ∧ b ≤ 40 + 9 * μ 71 2)))) : gm_nt μ a b = μ a b := by
  unfold gm_nt
  rw [if_neg (by omega), if_neg (by omega), if_neg (by omega)]
theorem gf_rmb_43 {e : Int} : gf_rmb μ 43 e = if e = μ 41 2 then pf_enc (μ 42) (μ 41 1).toNat else μ 43 e := by
  unfold gf_rmb
  rw [gf_up_k (by omega)]
  by_cases h : e = μ 41 2
  · rw [if_pos h, h, gf_up_s]
  · rw [if_neg h, gf_up_j h]
theorem gf_rmb_d : gf_rmb μ 41 2 = μ 41 2 + 1 := by unfold gf_rmb; rw [gf_up_s]
/-- class and reference after a deed: the class's number is that of c, the reference's that of m -/
theorem lf_two (hI : gf_I μ) (hd : μ 41 2 < 40) {z : Int} (v : ∀ b : Int, μ1 71 b = μ 71 b) (hz : 0 ≤ z ∧ z ≤ 8) (c1 : μ1 41 1 = z) (c2 : μ1 41 2 = μ 41 2 + 1) (c3 : ∀ e : Int, μ1 43 e = gf_rmb μ 43 e) (cf : ∀ a b : Int, ¬ (a = 41 ∧ (b = 1 ∨ b = 2)) → a ≠ 42 → a ≠ 43 → μ1 a b = μ a b) (m1 : μ2 71 1 = z) (m7 : ∀ j : Int, 0 ≤ j → j < z → μ2 71 (24 + j) = μ1 42 j ∧ 0 ≤ μ1 42 j ∧ μ1 42 j ≤ 9) (mf : ∀ a b : Int, ¬ (a = 71 ∧ (b = 1 ∨ (24 ≤ b ∧ b < 32))) → μ2 a b = gm_nt μ1 a b) : gf_I μ2 := by
  have hdn := hI.dn
  have hd0 := hI.d
  have e2 : μ1 71 2 = μ 41 2 := by rw [v]; exact hdn
  have e71 : ∀ a b : Int, a ≠ 71 → μ2 a b = μ1 a b := fun a b ha => by rw [mf a b (by omega), gm_nt_q (by omega)]
  refine lf_deed hI hd (z := z) ⟨by rw [e71 41 1 (by omega)]; exact c1, hz⟩ (by rw [e71 41 2 (by omega)]; exact c2) (fun e e0 e1 => ?_) ?_ m1 ?_ (fun j j0 j1 => ?_) ?_ (fun j j0 j1 => ?_) (fun j j0 j1 => ?_) (fun b hb => ?_) (fun a b k1 k2 k3 k4 => ?_)
  · rw [e71 43 e (by omega), c3, gf_rmb_43, if_neg (by omega)]
  · rw [e71 43 _ (by omega), c3, gf_rmb_43, if_pos rfl]
  · rw [mf 71 2 (by omega)]
    unfold gm_nt
    rw [if_pos (by omega), e2]
  · rw [e71 42 j (by omega)]
    exact m7 j j0 j1
  · have := gm_nt_l (μ := μ1) (by omega)
    rw [e2] at this
    rw [mf 71 _ (by omega), this, v]
  · have := gm_nt_x (μ := μ1) (j := j) (by omega) ⟨j0, j1⟩
    rw [e2] at this
    rw [mf 71 _ (by omega), this, v]
  · rw [mf 71 j (by omega), gm_nt_q (by omega), v]
  · rw [mf 71 b (by omega), gm_nt_q (by omega), v]
  · rw [e71 a b k4]
    exact cf a b k1 k2 k3
theorem vs_two (cf : ∀ a b : Int, ¬ (a = 41 ∧ (b = 1 ∨ b = 2)) → a ≠ 42 → a ≠ 43 → μ1 a b = μ a b) : gf_vw μ1 μ := fun a b ha => cf a b (by omega) (by omega) (by omega)
theorem cf_add {f : Int} (h : μ1 = gf_up (gf_up (gf_rmb μ) 42 (μ 41 1) f) 41 1 (μ 41 1 + 1)) : ∀ a b : Int, ¬ (a = 41 ∧ (b = 1 ∨ b = 2)) → a ≠ 42 → a ≠ 43 → μ1 a b = μ a b := fun a b h1 h2 h3 => by rw [h, gf_up_o (by omega), gf_up_k h2, gf_rmb_f μ h3 (by omega)]
theorem lf_add (hI : gf_I μ) {f : Int} (hf : 0 ≤ f ∧ f < 10) (hs : μ 41 1 < 8) (hd : μ 41 2 < 40) (h1 : μ1 = gf_up (gf_up (gf_rmb μ) 42 (μ 41 1) f) 41 1 (μ 41 1 + 1)) (h2 : μ2 = gm_app (gm_nt μ1) f) : gf_I μ2 := by
  have hs0 := hI.s
  have hn := hI.n
  have hd0 := hI.d
  have hdn := hI.dn
  have v := vs_two (cf_add h1)
  have e1 : μ1 71 1 = μ 41 1 := by rw [v 71 1 (by decide)]; exact hn
  have e2 : μ1 71 2 = μ 41 2 := by rw [v 71 2 (by decide)]; exact hdn
  have en : gm_nt μ1 71 1 = μ 41 1 := by rw [gm_nt_q (by omega), e1]
  unfold gm_app at h2
  rw [en] at h2
  refine lf_two hI hd (z := μ 41 1 + 1) (fun b => v 71 b (by decide)) (by omega) ?_ ?_ (fun e => ?_) (cf_add h1) ?_ (fun j j0 j1 => ?_) (fun a b hab => ?_)
  · rw [h1, gf_up_s]
  · rw [h1, gf_up_j (by omega), gf_up_k (by omega), gf_rmb_d]
  · rw [h1, gf_up_k (by omega), gf_up_k (by omega)]
  · rw [h2, gf_up_s]
  · rw [h2, gf_up_j (by omega)]
    have e42 : ∀ j : Int, j ≠ μ 41 1 → μ1 42 j = μ 42 j := fun j hj => by rw [h1, gf_up_k (by omega), gf_up_j hj, gf_rmb_f μ (by omega) (by omega)]
    by_cases hj : j = μ 41 1
    · have : μ1 42 j = f := by rw [h1, gf_up_k (by omega), hj, gf_up_s]
      rw [this, hj, gf_up_s]
      omega
    · rw [e42 j hj, gf_up_j (by omega), gm_nt_q (by omega), v 71 _ (by decide)]
      exact hI.2.2.2.1.2.2.1 j j0 (by omega)
  · rw [h2, gf_up_o (by omega), gf_up_o (by omega)]
theorem cf_drop (h : μ1 = gf_up (gf_rmb μ) 41 1 (μ 41 1 - 1)) : ∀ a b : Int, ¬ (a = 41 ∧ (b = 1 ∨ b = 2)) → a ≠ 42 → a ≠ 43 → μ1 a b = μ a b := fun a b h1 h2 h3 => by rw [h, gf_up_o (by omega), gf_rmb_f μ h3 (by omega)]
theorem lf_drop (hI : gf_I μ) (hs : μ 41 1 ≠ 0) (hd : μ 41 2 < 40) (h1 : μ1 = gf_up (gf_rmb μ) 41 1 (μ 41 1 - 1)) (h2 : μ2 = gm_off (gm_nt μ1)) : gf_I μ2 := by
  have hs0 := hI.s
  have hn := hI.n
  have hd0 := hI.d
  have hdn := hI.dn
  have v := vs_two (cf_drop h1)
  have e1 : μ1 71 1 = μ 41 1 := by rw [v 71 1 (by decide)]; exact hn
  have e2 : μ1 71 2 = μ 41 2 := by rw [v 71 2 (by decide)]; exact hdn
  have en : gm_nt μ1 71 1 = μ 41 1 := by rw [gm_nt_q (by omega), e1]
  unfold gm_off at h2
  rw [en] at h2
  refine lf_two hI hd (z := μ 41 1 - 1) (fun b => v 71 b (by decide)) (by omega) ?_ ?_ (fun e => ?_) (cf_drop h1) ?_ (fun j j0 j1 => ?_) (fun a b hab => ?_)
  · rw [h1, gf_up_s]
  · rw [h1, gf_up_j (by omega), gf_rmb_d]
  · rw [h1, gf_up_k (by omega)]
  · rw [h2, gf_up_j (by omega), gf_up_s]
  · have e42 : μ1 42 j = μ 42 j := by rw [h1, gf_up_k (by omega), gf_rmb_f μ (by omega) (by omega)]
    rw [e42, h2, gf_up_j (by omega), gf_up_j (by omega), gm_nt_q (by omega), v 71 _ (by decide)]
    exact hI.2.2.2.1.2.2.1 j j0 (by omega)
  · rw [h2, gf_up_o (by omega), gf_up_o (by omega)]
theorem cf_chg {k f : Int} (h : μ1 = gf_up (gf_rmb μ) 42 k f) : ∀ a b : Int, ¬ (a = 41 ∧ (b = 1 ∨ b = 2)) → a ≠ 42 → a ≠ 43 → μ1 a b = μ a b := fun a b h1 h2 h3 => by rw [h, gf_up_k h2, gf_rmb_f μ h3 (by omega)]
theorem lf_chg (hI : gf_I μ) {k f : Int} (hk : 0 ≤ k ∧ k < μ 41 1) (hf : 0 ≤ f ∧ f < 10) (hd : μ 41 2 < 40) (h1 : μ1 = gf_up (gf_rmb μ) 42 k f) (h2 : μ2 = gf_up (gm_nt μ1) 71 (24 + k) f) : gf_I μ2 := by
  have hs0 := hI.s
  have hn := hI.n
  have hd0 := hI.d
  have hdn := hI.dn
  have v := vs_two (cf_chg h1)
  have e1 : μ1 71 1 = μ 41 1 := by rw [v 71 1 (by decide)]; exact hn
  have e2 : μ1 71 2 = μ 41 2 := by rw [v 71 2 (by decide)]; exact hdn
  refine lf_two hI hd (z := μ 41 1) (fun b => v 71 b (by decide)) (by omega) ?_ ?_ (fun e => ?_) (cf_chg h1) ?_ (fun j j0 j1 => ?_) (fun a b hab => ?_)
  · rw [h1, gf_up_k (by omega), gf_rmb_f μ (by omega) (by omega)]
  · rw [h1, gf_up_k (by omega), gf_rmb_d]
  · rw [h1, gf_up_k (by omega)]
  · rw [h2, gf_up_j (by omega), gm_nt_q (by omega), e1]
  · by_cases hj : j = k
    · have : μ1 42 j = f := by rw [h1, hj, gf_up_s]
      rw [this, hj, h2, gf_up_s]
      omega
    · have e42 : μ1 42 j = μ 42 j := by rw [h1, gf_up_j hj, gf_rmb_f μ (by omega) (by omega)]
      rw [e42, h2, gf_up_j (by omega), gm_nt_q (by omega), v 71 _ (by decide)]
      exact hI.2.2.2.1.2.2.1 j j0 (by omega)
  · rw [h2, gf_up_o (by omega)]
theorem cf_swp {k f g : Int} (h : μ1 = gf_up (gf_up (gf_rmb μ) 42 k f) 42 (k + 1) g) : ∀ a b : Int, ¬ (a = 41 ∧ (b = 1 ∨ b = 2)) → a ≠ 42 → a ≠ 43 → μ1 a b = μ a b := fun a b h1 h2 h3 => by rw [h, gf_up_k h2, gf_up_k h2, gf_rmb_f μ h3 (by omega)]
theorem lf_swp (hI : gf_I μ) {k f g f' g' : Int} (hk : 0 ≤ k ∧ k < μ 41 1 - 1) (hf : f = μ 42 (k + 1)) (hg : g = μ 42 k) (hf' : f' = f) (hg' : g' = g) (hd : μ 41 2 < 40) (h1 : μ1 = gf_up (gf_up (gf_rmb μ) 42 k f) 42 (k + 1) g) (h2 : μ2 = gf_up (gf_up (gm_nt μ1) 71 (24 + k) f') 71 (24 + (k + 1)) g') : gf_I μ2 := by
  subst hf'; subst hg'
  have hs0 := hI.s
  have hn := hI.n
  have hd0 := hI.d
  have hdn := hI.dn
  have v := vs_two (cf_swp h1)
  have e1 : μ1 71 1 = μ 41 1 := by rw [v 71 1 (by decide)]; exact hn
  have e2 : μ1 71 2 = μ 41 2 := by rw [v 71 2 (by decide)]; exact hdn
  refine lf_two hI hd (z := μ 41 1) (fun b => v 71 b (by decide)) (by omega) ?_ ?_ (fun e => ?_) (cf_swp h1) ?_ (fun j j0 j1 => ?_) (fun a b hab => ?_)
  · rw [h1, gf_up_k (by omega), gf_up_k (by omega), gf_rmb_f μ (by omega) (by omega)]
  · rw [h1, gf_up_k (by omega), gf_up_k (by omega), gf_rmb_d]
  · rw [h1, gf_up_k (by omega), gf_up_k (by omega)]
  · rw [h2, gf_up_j (by omega), gf_up_j (by omega), gm_nt_q (by omega), e1]
  · by_cases hj : j = k + 1
    · have : μ1 42 j = g' := by rw [h1, hj, gf_up_s]
      rw [this, hj, h2, gf_up_s, hg]
      exact ⟨rfl, (hI.2.2.2.1.2.2.1 k hk.1 (by omega)).2⟩
    · by_cases hj2 : j = k
      · have : μ1 42 j = f' := by rw [h1, gf_up_j hj, hj2, gf_up_s]
        rw [this, hj2, h2, gf_up_j (by omega), gf_up_s, hf]
        exact ⟨rfl, (hI.2.2.2.1.2.2.1 (k + 1) (by omega) (by omega)).2⟩
      · have e42 : μ1 42 j = μ 42 j := by rw [h1, gf_up_j hj, gf_up_j hj2, gf_rmb_f μ (by omega) (by omega)]
        rw [e42, h2, gf_up_j (by omega), gf_up_j (by omega), gm_nt_q (by omega), v 71 _ (by decide)]
        exact hI.2.2.2.1.2.2.1 j j0 (by omega)
  · rw [h2, gf_up_o (by omega), gf_up_o (by omega)]
theorem lf_undo (hI : gf_I μ) {n : Int} (hn : 0 ≤ n ∧ n < μ 41 2) (a1 : μ1 41 1 = ((μ 71 (32 + 9 * n)).toNat : Int)) (a2 : μ1 41 2 = n) (a3 : ∀ j : Int, 0 ≤ j → j < ((μ 71 (32 + 9 * n)).toNat : Int) → μ1 42 j = μ 71 (33 + 9 * n + j)) (a4 : ∀ a b : Int, ¬ (a = 41 ∧ (b = 1 ∨ b = 2)) → a ≠ 42 → μ1 a b = μ a b) (b1 : μ2 71 1 = μ 71 (32 + 9 * n)) (b2 : μ2 71 2 = n) (b3 : ∀ j : Int, 0 ≤ j → j < 8 → μ2 71 (24 + j) = μ 71 (33 + 9 * n + j)) (b4 : ∀ a b : Int, ¬ (a = 71 ∧ (b = 1 ∨ b = 2 ∨ (24 ≤ b ∧ b < 32))) → μ2 a b = μ1 a b) : gf_I μ2 := by
  have hfr : ∀ a b : Int, ¬ (a = 41 ∧ (b = 1 ∨ b = 2)) → a ≠ 42 → ¬ (a = 71 ∧ (b = 1 ∨ b = 2 ∨ (24 ≤ b ∧ b < 32))) → μ2 a b = μ a b := fun a b k1 k2 k3 => by rw [b4 a b k3, a4 a b k1 k2]
  obtain ⟨g1, g2, g3, g4, g5, g6⟩ := hI
  refine ⟨g1.f (fun a b hab => hfr a b (by omega) (by omega) (by omega)), g2.f (fun a b hab => hfr a b (by omega) (by omega) (by omega)), g3.f (fun a b hab => hfr a b (by omega) (by omega) (by omega)), ?_, g5.f (fun a b hab => hfr a b (by omega) (by omega) (by omega)), g6.f (fun a b hab => hfr a b (by omega) (by omega) (by omega))⟩
  obtain ⟨c1, c2, c3, c4⟩ := g4
  obtain ⟨d1, d2, d3⟩ := c4 n hn.1 hn.2
  unfold gI_num
  rw [b4 41 1 (by omega), b4 41 2 (by omega), a1, a2]
  refine ⟨⟨by rw [b1]; omega, by omega, by omega⟩, ⟨b2, by omega, by omega⟩, fun j j0 j1 => ?_, fun e e0 e1 => ?_⟩
  · rw [b4 42 j (by omega), a3 j j0 j1, b3 j j0 (by omega)]
    exact ⟨rfl, d2 j j0 (by omega)⟩
  · obtain ⟨k1, k2, k3⟩ := c4 e e0 (by omega)
    have e32 : μ2 71 (32 + 9 * e) = μ 71 (32 + 9 * e) := hfr _ _ (by omega) (by omega) (by omega)
    rw [e32, hfr 43 e (by omega) (by omega) (by omega)]
    refine ⟨k1, fun j j0 j1 => ?_, ?_⟩
    · rw [hfr 71 _ (by omega) (by omega) (by omega)]
      exact k2 j j0 j1
    · rw [k3]
      exact pf_enc_congr _ (fun j j0 j1 => (hfr 71 _ (by omega) (by omega) (by omega)).symm)
theorem vs_keep {k : Int} (hk : 0 ≤ k ∧ k < 3) (h : gf_rsm μ μ1 (32 + 3 * k) 41) : gf_vw μ1 μ := fun a b ha => h.2.2.2.2 a b (by omega) (by omega) (by omega)
theorem vs_on {k : Int} (hk : 0 ≤ k ∧ k < 3) (h : gf_rsm μ μ1 41 (32 + 3 * k)) : gf_vw μ1 μ := fun a b ha => h.2.2.2.2 a b (by omega) (by omega) (by omega)
theorem lf_keep (hI : gf_I μ) {k : Int} (hk : 0 ≤ k ∧ k < 3) (h : gf_rsm μ μ1 (32 + 3 * k) 41) (h4 : μ1 (32 + 3 * k) 4 = 1) (b1 : μ2 74 k = μ 71 2) (b2 : ∀ j : Int, 0 ≤ j → j < 392 → μ2 75 (392 * k + j) = μ 71 j) (b3 : ∀ a b : Int, ¬ (a = 74 ∧ b = k) → ¬ (a = 75 ∧ 392 * k ≤ b ∧ b < 392 * k + 392) → μ2 a b = μ1 a b) : gf_I μ2 := by
  have hdn := hI.dn
  obtain ⟨a1, a2, a3, a4, a5⟩ := h
  have hfr : ∀ a b : Int, ¬ (32 ≤ a ∧ a ≤ 40) → a ≠ 74 → a ≠ 75 → μ2 a b = μ a b := fun a b k1 k2 k3 => by rw [b3 a b (by omega) (by omega), a5 a b (by omega) (by omega) (by omega)]
  obtain ⟨g1, g2, g3, g4, g5, g6⟩ := hI
  refine ⟨g1.f (fun a b hab => hfr a b (by omega) (by omega) (by omega)), g2.f (fun a b hab => hfr a b (by omega) (by omega) (by omega)), g3.f (fun a b hab => hfr a b (by omega) (by omega) (by omega)), g4.f (fun a b hab => hfr a b (by omega) (by omega) (by omega)), fun x x0 x1 => ?_, g6.f (fun a b hab => hfr a b (by omega) (by omega) (by omega))⟩
  by_cases hx : x = k
  · subst hx
    refine Or.inr ⟨?_, ?_, ?_, fun b hb => ?_⟩
    · rw [b3 _ 4 (by omega) (by omega), h4]; decide
    · rw [b1, b3 _ 2 (by omega) (by omega), a2, hdn]
    · exact gf_wr_congr g4 (by rw [b3 _ 1 (by omega) (by omega), a1]) (by rw [b3 _ 2 (by omega) (by omega), a2]) (fun j j0 j1 => by rw [b3 _ j (by omega) (by omega), a3 j j0 j1]; rfl) (fun j j0 j1 => by rw [b3 _ j (by omega) (by omega), a4 j j0 j1]; rfl) (fun j hj => b2 j (by omega) (by omega))
    · rw [b2 b (by omega) (by omega), hfr 71 b (by omega) (by omega) (by omega)]
  · have e : ∀ b : Int, (∀ a : Int, (a = 32 + 3 * x ∨ a = 32 + 3 * x + 1 ∨ a = 32 + 3 * x + 2) → μ2 a b = μ a b) := fun b a ha => by rw [b3 a b (by omega) (by omega), a5 a b (by omega) (by omega) (by omega)]
    have e75 : ∀ j : Int, 0 ≤ j → j < 392 → μ2 75 (392 * x + j) = μ 75 (392 * x + j) := fun j j0 j1 => by rw [b3 75 _ (by omega) (by omega), a5 75 _ (by omega) (by omega) (by omega)]
    have e74 : μ2 74 x = μ 74 x := by rw [b3 74 x (by omega) (by omega), a5 74 x (by omega) (by omega) (by omega)]
    rw [e 4 _ (by omega), e74]
    rcases g5 x x0 x1 with c1 | ⟨c1, c2, c3, c4⟩
    · exact Or.inl c1
    · refine Or.inr ⟨c1, by rw [e 2 _ (by omega)]; exact c2, ?_, fun b hb => ?_⟩
      · exact gf_wr_congr c3 (e 1 _ (by omega)) (e 2 _ (by omega)) (fun j _ _ => e j _ (by omega)) (fun j _ _ => e j _ (by omega)) (fun j hj => e75 j (by omega) (by omega))
      · rw [e75 b (by omega) (by omega), hfr 71 b (by omega) (by omega) (by omega)]
        exact c4 b hb
theorem lf_on (hI : gf_I μ) {k : Int} (hk : 0 ≤ k ∧ k < 3) (h0 : μ (32 + 3 * k) 4 ≠ 0) (h : gf_rsm μ μ1 41 (32 + 3 * k)) (b2 : ∀ j : Int, 0 ≤ j → j < 392 → μ2 71 j = μ 75 (392 * k + j)) (b3 : ∀ a b : Int, ¬ (a = 71 ∧ 0 ≤ b ∧ b < 392) → μ2 a b = μ1 a b) : gf_I μ2 := by
  obtain ⟨a1, a2, a3, a4, a5⟩ := h
  have hfr : ∀ a b : Int, ¬ (41 ≤ a ∧ a ≤ 43) → a ≠ 71 → μ2 a b = μ a b := fun a b k1 k2 => by rw [b3 a b (by omega), a5 a b (by omega) (by omega) (by omega)]
  obtain ⟨g1, g2, g3, g4, g5, g6⟩ := hI
  rcases g5 k hk.1 hk.2 with c1 | ⟨c1, c2, c3, c4⟩
  · exact absurd c1.1 h0
  · have e71 : ∀ b : Int, b = 0 ∨ (3 ≤ b ∧ b < 24) → μ2 71 b = μ 71 b := fun b hb => by rw [b2 b (by omega) (by omega)]; exact c4 b hb
    refine ⟨g1.f (fun a b hab => hfr a b (by omega) (by omega)), g2.f (fun a b hab => hfr a b (by omega) (by omega)), g3.f (fun a b hab => ?_), ?_, g5.f (fun a b hab => ?_), g6.f (fun a b hab => hfr a b (by omega) (by omega))⟩
    · by_cases ha : a = 71
      · subst ha; exact e71 b (by omega)
      · exact hfr a b (by omega) ha
    · exact gf_wr_congr c3 (by rw [b3 41 1 (by omega), a1]) (by rw [b3 41 2 (by omega), a2]) (fun j j0 j1 => by rw [b3 42 j (by omega)]; exact a3 j j0 j1) (fun j j0 j1 => by rw [b3 43 j (by omega)]; exact a4 j j0 j1) (fun j hj => b2 j (by omega) (by omega))
    · by_cases ha : a = 71
      · subst ha; exact e71 b (by omega)
      · exact hfr a b (by omega) ha
theorem lf_house (hI : gf_I μ) {L : List (Int × Int × Int)} (hL : ∀ q ∈ L, pf_okq q) (h7 : L.length ≤ 7) (a1 : μ1 0 3 = (L.length : Int)) (a2 : gf_hold μ1 24 L) (a3 : μ1 41 1 = 0) (a4 : μ1 41 2 = 0) (a5 : ∀ k : Int, 0 ≤ k → k < 3 → μ1 (32 + 3 * k) 4 = 0) (a6 : ∀ a b : Int, ¬ (44 ≤ a ∧ a ≤ 63) → ¬ (a = 0 ∧ b = 3) → ¬ (24 ≤ a ∧ a ≤ 30) → ¬ (a = 41 ∧ (b = 1 ∨ b = 2)) → ¬ (b = 4 ∧ (a = 32 ∨ a = 35 ∨ a = 38)) → μ1 a b = μ a b) (b1 : μ2 71 0 = (L.length : Int)) (b2 : gm_hold μ2 71 L) (b3 : μ2 71 1 = 0) (b4 : μ2 71 2 = 0) (b5 : ∀ k : Int, 0 ≤ k → k < 3 → μ2 74 k = -1) (b6 : ∀ a b : Int, ¬ gm_scr a b → ¬ (a = 71 ∧ 0 ≤ b ∧ b < 24) → ¬ (a = 74 ∧ 0 ≤ b ∧ b < 3) → μ2 a b = μ1 a b) : gf_I μ2 := by
  have bC : ∀ a b : Int, a < 65 → μ2 a b = μ1 a b := fun a b ha => b6 a b (by unfold gm_scr; omega) (by omega) (by omega)
  have hfr : ∀ a b : Int, ¬ (44 ≤ a ∧ a ≤ 63) → ¬ (a = 0 ∧ b = 3) → ¬ (24 ≤ a ∧ a ≤ 30) → ¬ (a = 41 ∧ (b = 1 ∨ b = 2)) → ¬ (b = 4 ∧ (a = 32 ∨ a = 35 ∨ a = 38)) → ¬ ((a = 65 ∧ (b = 10 ∨ b = 11 ∨ b = 12 ∨ b = 15 ∨ b = 16 ∨ b = 17 ∨ b = 21)) ∨ a = 72 ∨ a = 73 ∨ (76 ≤ a ∧ a ≤ 80)) → ¬ (a = 71 ∧ 0 ≤ b ∧ b < 24) → ¬ (a = 74 ∧ 0 ≤ b ∧ b < 3) → μ2 a b = μ a b := fun a b k1 k2 k3 k4 k5 k6 k7 k8 => by rw [b6 a b k6 k7 k8, a6 a b k1 k2 k3 k4 k5]
  obtain ⟨g1, g2, g3, g4, g5, g6⟩ := hI
  refine ⟨g1.f (fun a b hab => hfr a b (by omega) (by omega) (by omega) (by omega) (by omega) (by omega) (by omega) (by omega)), g2.f (fun a b hab => hfr a b (by omega) (by omega) (by omega) (by omega) (by omega) (by omega) (by omega) (by omega)), ⟨?_, fun i i0 i1 => ?_⟩, ?_, fun k k0 k1 => ?_, g6.f (fun a b hab => hfr a b (by omega) (by omega) (by omega) (by omega) (by omega) (by omega) (by omega) (by omega))⟩
  · rw [bC 0 3 (by omega), a1, b1]; omega
  · rw [bC 0 3 (by omega), a1] at i1
    have hlt : i.toNat < L.length := by omega
    have hq := List.getElem?_eq_getElem hlt
    have h1 := a2 i.toNat _ hq
    have h2 := b2 i.toNat _ hq
    rw [show ((i.toNat : Nat) : Int) = i by omega] at h1 h2
    have ho := hL _ (List.getElem_mem hlt)
    unfold gf_okG
    rw [bC (24 + i) 0 (by omega), bC (24 + i) 1 (by omega), bC (24 + i) 2 (by omega), h1.1, h1.2.1, h1.2.2, h2.1, h2.2.1, h2.2.2]
    exact ⟨⟨rfl, rfl, rfl⟩, ho⟩
  · unfold gI_num
    rw [bC 41 1 (by omega), bC 41 2 (by omega), a3, a4]
    exact ⟨⟨b3, by omega, by omega⟩, ⟨b4, by omega, by omega⟩, fun j j0 j1 => by omega, fun e e0 e1 => by omega⟩
  · exact Or.inl ⟨by rw [bC _ 4 (by omega)]; exact a5 k k0 k1, b5 k k0 k1⟩
end GL2
