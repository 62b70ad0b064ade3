/-! class and reference side by side: what holds between two calls -/
/-- a number with its deeds, as the class has it and as the reference does -/
def gf_wr (z d : Int) (f b R : Int → Int) : Prop :=
  (R 1 = z ∧ 0 ≤ z ∧ z ≤ 8) ∧ (R 2 = d ∧ 0 ≤ d ∧ d ≤ 40) ∧ (∀ j : Int, 0 ≤ j → j < z → R (24 + j) = f j ∧ 0 ≤ f j ∧ f j ≤ 9) ∧
  ∀ e : Int, 0 ≤ e → e < d → (0 ≤ R (32 + 9 * e) ∧ R (32 + 9 * e) ≤ 8) ∧ (∀ j : Int, 0 ≤ j → j < R (32 + 9 * e) → 0 ≤ R (33 + 9 * e + j) ∧ R (33 + 9 * e + j) ≤ 9) ∧ b e = pf_enc (fun j => R (33 + 9 * e + j)) (R (32 + 9 * e)).toNat
theorem gf_wr_congr {z d z' d' : Int} {f b R f' b' R' : Int → Int} (h : gf_wr z d f b R) (hz : z' = z) (hd : d' = d) (hf : ∀ j : Int, 0 ≤ j → j < z → f' j = f j) (hb : ∀ e : Int, 0 ≤ e → e < d → b' e = b e) (hR : ∀ j : Int, j = 1 ∨ j = 2 ∨ (24 ≤ j ∧ j < 392) → R' j = R j) : gf_wr z' d' f' b' R' := by
  subst hz; subst hd
  obtain ⟨h1, h2, h3, h4⟩ := h
  refine ⟨⟨by rw [hR 1 (by omega)]; exact h1.1, h1.2⟩, ⟨by rw [hR 2 (by omega)]; exact h2.1, h2.2⟩, fun j j0 j1 => ?_, fun e e0 e1 => ?_⟩
  · rw [hR (24 + j) (by omega), hf j j0 j1]
    exact h3 j j0 j1
  · obtain ⟨g1, g2, g3⟩ := h4 e e0 e1
    have e2 : R' (32 + 9 * e) = R (32 + 9 * e) := hR _ (by omega)
    rw [e2]
    refine ⟨g1, fun j j0 j1 => ?_, ?_⟩
    · rw [hR _ (by omega)]
      exact g2 j j0 j1
    · rw [hb e e0 e1, g3]
      exact pf_enc_congr _ (fun j j0 j1 => (hR _ (by omega)).symm)
/-- a deed is written down -/
theorem gf_wr_note {z d : Int} {f b R b' R' : Int → Int} (h : gf_wr z d f b R) (hd : d < 40) (h1 : R' 1 = R 1) (h2 : R' 2 = d + 1) (hF : ∀ j : Int, 0 ≤ j → j < 8 → R' (24 + j) = R (24 + j)) (hL : R' (32 + 9 * d) = R 1) (hG : ∀ j : Int, 0 ≤ j → j < 8 → R' (33 + 9 * d + j) = R (24 + j)) (hO : ∀ j : Int, 32 ≤ j → j < 32 + 9 * d → R' j = R j) (hb : ∀ e : Int, 0 ≤ e → e < d → b' e = b e) (hbd : b' d = pf_enc f z.toNat) : gf_wr z (d + 1) f b' R' := by
  obtain ⟨g1, g2, g3, g4⟩ := h
  refine ⟨⟨by rw [h1]; exact g1.1, g1.2⟩, ⟨h2, by omega, by omega⟩, fun j j0 j1 => ?_, fun e e0 e1 => ?_⟩
  · rw [hF j j0 (by omega)]
    exact g3 j j0 j1
  · by_cases he : e = d
    · subst he
      rw [hL, g1.1]
      refine ⟨g1.2, fun j j0 j1 => ?_, ?_⟩
      · rw [hG j j0 (by omega), (g3 j j0 j1).1]
        exact (g3 j j0 j1).2
      · rw [hbd]
        exact pf_enc_congr _ (fun j j0 j1 => by rw [hG j j0 (by omega)]; exact (g3 j j0 (by omega)).1.symm)
    · obtain ⟨k1, k2, k3⟩ := g4 e e0 (by omega)
      have e2 : R' (32 + 9 * e) = R (32 + 9 * e) := hO _ (by omega) (by omega)
      rw [e2]
      refine ⟨k1, fun j j0 j1 => ?_, ?_⟩
      · rw [hO _ (by omega) (by omega)]
        exact k2 j j0 j1
      · rw [hb e e0 (by omega), k3]
        exact pf_enc_congr _ (fun j j0 j1 => (hO _ (by omega) (by omega)).symm)
/-- the number is another, its deeds are the same -/
theorem gf_wr_mod {z d z' : Int} {f b R f' R' : Int → Int} (h : gf_wr z d f b R) (h1 : R' 1 = z' ∧ 0 ≤ z' ∧ z' ≤ 8) (h2 : R' 2 = R 2) (hF : ∀ j : Int, 0 ≤ j → j < z' → R' (24 + j) = f' j ∧ 0 ≤ f' j ∧ f' j ≤ 9) (hO : ∀ j : Int, 32 ≤ j → R' j = R j) : gf_wr z' d f' b R' := by
  obtain ⟨g1, g2, g3, g4⟩ := h
  refine ⟨h1, ⟨by rw [h2]; exact g2.1, g2.2⟩, hF, fun e e0 e1 => ?_⟩
  obtain ⟨k1, k2, k3⟩ := g4 e e0 e1
  have e2 : R' (32 + 9 * e) = R (32 + 9 * e) := hO _ (by omega)
  rw [e2]
  refine ⟨k1, fun j j0 j1 => ?_, ?_⟩
  · rw [hO _ (by omega)]
    exact k2 j j0 j1
  · rw [k3]
    exact pf_enc_congr _ (fun j j0 j1 => (hO _ (by omega)).symm)
def gI_rows (μ : gf_M) : Prop := ∀ r : Int, 0 ≤ r → r < 6 → (μ 66 r = μ (2 + 2 * r) 1 ∧ -1 ≤ μ 66 r ∧ μ 66 r ≤ 40) ∧ ∀ j : Int, 0 ≤ j → j < μ 66 r → μ 67 (40 * r + j) = μ (3 + 2 * r) j
def gI_texts (μ : gf_M) : Prop := (∀ t : Int, 0 ≤ t → t < 4 → (μ 68 t = μ (15 + 2 * t) 1 ∧ -1 ≤ μ 68 t ∧ μ 68 t ≤ 60) ∧ ∀ j : Int, 0 ≤ j → j < μ 68 t → μ 69 (60 * t + j) = μ (16 + 2 * t) j) ∧ ∀ j : Int, -128 ≤ μ 69 j ∧ μ 69 j ≤ 127
def gI_guards (μ : gf_M) : Prop := (μ 71 0 = μ 0 3 ∧ 0 ≤ μ 0 3 ∧ μ 0 3 ≤ 7) ∧ ∀ i : Int, 0 ≤ i → i < μ 0 3 → (μ 71 (3 + i) = μ (24 + i) 0 ∧ μ 71 (10 + i) = μ (24 + i) 1 ∧ μ 71 (17 + i) = μ (24 + i) 2) ∧ gf_okG μ (24 + i)
def gI_num (μ : gf_M) : Prop := gf_wr (μ 41 1) (μ 41 2) (μ 42) (μ 43) (μ 71)
def gI_kept (μ : gf_M) : Prop := ∀ k : Int, 0 ≤ k → k < 3 → (μ (32 + 3 * k) 4 = 0 ∧ μ 74 k = -1) ∨ (μ (32 + 3 * k) 4 ≠ 0 ∧ μ 74 k = μ (32 + 3 * k) 2 ∧ gf_wr (μ (32 + 3 * k) 1) (μ (32 + 3 * k) 2) (μ (32 + 3 * k + 1)) (μ (32 + 3 * k + 2)) (fun j => μ 75 (392 * k + j)) ∧ ∀ b : Int, b = 0 ∨ (3 ≤ b ∧ b < 24) → μ 75 (392 * k + b) = μ 71 b)
def gI_told (μ : gf_M) : Prop := (μ 65 4 = μ 0 12 ∧ μ 65 5 = μ 0 13 ∧ μ 65 6 = μ 0 14 ∧ μ 65 7 = μ 0 15) ∧ ∀ f : Int, 1 ≤ f → f ≤ 5 → μ 70 f = μ 64 f
def gf_I (μ : gf_M) : Prop := gI_rows μ ∧ gI_texts μ ∧ gI_guards μ ∧ gI_num μ ∧ gI_kept μ ∧ gI_told μ
section GI1
variable {μ μ' : gf_M}
theorem gI_rows.f (h : gI_rows μ) (e : ∀ a b : Int, (2 ≤ a ∧ a ≤ 13) ∨ a = 66 ∨ a = 67 → μ' a b = μ a b) : gI_rows μ' := fun r r0 r1 => by
  obtain ⟨h1, h2⟩ := h r r0 r1
  rw [e 66 r (by omega), e (2 + 2 * r) 1 (by omega)]
  refine ⟨h1, fun j j0 j1 => ?_⟩
  rw [e 67 _ (by omega), e (3 + 2 * r) j (by omega)]
  exact h2 j j0 j1
theorem gI_texts.f (h : gI_texts μ) (e : ∀ a b : Int, (15 ≤ a ∧ a ≤ 22) ∨ a = 68 ∨ a = 69 → μ' a b = μ a b) : gI_texts μ' := ⟨fun r r0 r1 => by
  obtain ⟨h1, h2⟩ := h.1 r r0 r1
  rw [e 68 r (by omega), e (15 + 2 * r) 1 (by omega)]
  refine ⟨h1, fun j j0 j1 => ?_⟩
  rw [e 69 _ (by omega), e (16 + 2 * r) j (by omega)]
  exact h2 j j0 j1, fun j => by rw [e 69 j (by omega)]; exact h.2 j⟩
theorem gI_guards.f (h : gI_guards μ) (e : ∀ a b : Int, (a = 0 ∧ b = 3) ∨ (24 ≤ a ∧ a ≤ 30) ∨ (a = 71 ∧ (b = 0 ∨ (3 ≤ b ∧ b < 24))) → μ' a b = μ a b) : gI_guards μ' := by
  have e03 : μ' 0 3 = μ 0 3 := e 0 3 (by omega)
  refine ⟨by rw [e03, e 71 0 (by omega)]; exact h.1, fun i i0 i1 => ?_⟩
  rw [e03] at i1
  obtain ⟨h1, h2⟩ := h.2 i i0 i1
  have h7 := h.1.2
  unfold gf_okG at h2 ⊢
  rw [e 71 (3 + i) (by omega), e 71 (10 + i) (by omega), e 71 (17 + i) (by omega), e (24 + i) 0 (by omega), e (24 + i) 1 (by omega), e (24 + i) 2 (by omega)]
  exact ⟨h1, h2⟩
theorem gI_num.f (h : gI_num μ) (e : ∀ a b : Int, (41 ≤ a ∧ a ≤ 43) ∨ (a = 71 ∧ (b = 1 ∨ b = 2 ∨ 24 ≤ b)) → μ' a b = μ a b) : gI_num μ' :=
  gf_wr_congr h (e 41 1 (by omega)) (e 41 2 (by omega)) (fun j _ _ => e 42 j (by omega)) (fun j _ _ => e 43 j (by omega)) (fun j hj => e 71 j (by omega))
theorem gI_kept.f (h : gI_kept μ) (e : ∀ a b : Int, (32 ≤ a ∧ a ≤ 40) ∨ a = 74 ∨ a = 75 ∨ (a = 71 ∧ (b = 0 ∨ (3 ≤ b ∧ b < 24))) → μ' a b = μ a b) : gI_kept μ' := fun k k0 k1 => by
  rw [e (32 + 3 * k) 4 (by omega), e 74 k (by omega)]
  rcases h k k0 k1 with h1 | ⟨h1, h2, h3, h4⟩
  · exact Or.inl h1
  · refine Or.inr ⟨h1, by rw [h2, e (32 + 3 * k) 2 (by omega)], ?_, fun b hb => ?_⟩
    · exact gf_wr_congr h3 (e _ _ (by omega)) (e _ _ (by omega)) (fun j _ _ => e _ j (by omega)) (fun j _ _ => e _ j (by omega)) (fun j hj => e 75 _ (by omega))
    · rw [e 75 _ (by omega), e 71 b (by omega)]
      exact h4 b hb
theorem gI_told.f (h : gI_told μ) (e : ∀ a b : Int, (a = 0 ∧ 12 ≤ b ∧ b ≤ 15) ∨ a = 64 ∨ (a = 65 ∧ 4 ≤ b ∧ b ≤ 7) ∨ a = 70 → μ' a b = μ a b) : gI_told μ' := by
  obtain ⟨⟨h1, h2, h3, h4⟩, h5⟩ := h
  refine ⟨⟨?_, ?_, ?_, ?_⟩, fun f f0 f1 => ?_⟩
  · rw [e 65 4 (by omega), e 0 12 (by omega)]; exact h1
  · rw [e 65 5 (by omega), e 0 13 (by omega)]; exact h2
  · rw [e 65 6 (by omega), e 0 14 (by omega)]; exact h3
  · rw [e 65 7 (by omega), e 0 15 (by omega)]; exact h4
  · rw [e 70 f (by omega), e 64 f (by omega)]; exact h5 f f0 f1
/-- cells that no call looks at again without writing them first -/
def gf_fr (a b : Int) : Prop := (44 ≤ a ∧ a ≤ 63) ∨ gm_scr a b
theorem gf_I.sc (h : gf_I μ) (e : ∀ a b : Int, ¬ gf_fr a b → μ' a b = μ a b) : gf_I μ' := by
  have e2 : ∀ a b : Int, ¬ ((44 ≤ a ∧ a ≤ 63) ∨ ((a = 65 ∧ (b = 10 ∨ b = 11 ∨ b = 12 ∨ b = 15 ∨ b = 16 ∨ b = 17 ∨ b = 21)) ∨ a = 72 ∨ a = 73 ∨ (76 ≤ a ∧ a ≤ 80))) → μ' a b = μ a b := fun a b hn => e a b hn
  obtain ⟨h1, h2, h3, h4, h5, h6⟩ := h
  exact ⟨h1.f (fun a b hab => e2 a b (by omega)), h2.f (fun a b hab => e2 a b (by omega)), h3.f (fun a b hab => e2 a b (by omega)), h4.f (fun a b hab => e2 a b (by omega)), h5.f (fun a b hab => e2 a b (by omega)), h6.f (fun a b hab => e2 a b (by omega))⟩
theorem gf_fd_f {f a b : Int} (h : ¬ (a = 0 ∧ b = 15)) (h2 : a ≠ 64) : gf_fd μ f a b = μ a b := by
  unfold gf_fd
  rw [gf_up_k h2, gf_up_o h]
theorem gm_fd_f {f a b : Int} (h : ¬ (a = 65 ∧ b = 7)) (h2 : a ≠ 70) : gm_fd μ f a b = μ a b := by
  unfold gm_fd
  rw [gf_up_k h2, gf_up_o h]
theorem gf_tl_f {v a b : Int} (h : ¬ (a = 0 ∧ b = 12)) : gf_tl μ v a b = μ a b := gf_up_o h
theorem gm_tl_f {v a b : Int} (h : ¬ (a = 65 ∧ b = 4)) : gm_tl μ v a b = μ a b := gf_up_o h
theorem gf_I.fd (h : gf_I μ) {f : Int} (hf : 1 ≤ f ∧ f ≤ 5) : gf_I (gm_fd (gf_fd μ f) f) := by
  have e : ∀ a b : Int, ¬ (a = 0 ∧ b = 15) → a ≠ 64 → ¬ (a = 65 ∧ b = 7) → a ≠ 70 → gm_fd (gf_fd μ f) f a b = μ a b := fun a b h1 h2 h3 h4 => by rw [gm_fd_f h3 h4, gf_fd_f h1 h2]
  obtain ⟨h1, h2, h3, h4, h5, h6, h7⟩ := h
  refine ⟨h1.f (fun a b hab => e a b (by omega) (by omega) (by omega) (by omega)), h2.f (fun a b hab => e a b (by omega) (by omega) (by omega) (by omega)), h3.f (fun a b hab => e a b (by omega) (by omega) (by omega) (by omega)), h4.f (fun a b hab => e a b (by omega) (by omega) (by omega) (by omega)), h5.f (fun a b hab => e a b (by omega) (by omega) (by omega) (by omega)), ?_, fun g g0 g1 => ?_⟩
  · rw [e 65 4 (by omega) (by omega) (by omega) (by omega), e 65 5 (by omega) (by omega) (by omega) (by omega), e 65 6 (by omega) (by omega) (by omega) (by omega), e 0 12 (by omega) (by omega) (by omega) (by omega), e 0 13 (by omega) (by omega) (by omega) (by omega), e 0 14 (by omega) (by omega) (by omega) (by omega)]
    refine ⟨h6.1, h6.2.1, h6.2.2.1, ?_⟩
    rw [gm_fd_f (a := 0) (b := 15) (by omega) (by omega)]
    unfold gm_fd gf_fd
    rw [gf_up_k (by omega), gf_up_s, gf_up_k (by omega), gf_up_s]
  · rw [gm_fd_f (a := 64) (by omega) (by omega)]
    unfold gm_fd
    by_cases hg : g = f
    · subst hg
      rw [gf_up_s, gf_fd_f (by omega) (by omega), h7 g g0 g1]
      unfold gf_fd
      rw [gf_up_s]
    · rw [gf_up_j hg, gf_up_k (by omega), gf_fd_f (by omega) (by omega), h7 g g0 g1]
      unfold gf_fd
      rw [gf_up_j hg, gf_up_k (by omega)]
theorem gf_I.tl (h : gf_I μ) {v : Int} : gf_I (gm_tl (gf_tl μ v) v) := by
  have e : ∀ a b : Int, ¬ (a = 0 ∧ b = 12) → ¬ (a = 65 ∧ b = 4) → gm_tl (gf_tl μ v) v a b = μ a b := fun a b h1 h2 => by rw [gm_tl_f h2, gf_tl_f h1]
  obtain ⟨h1, h2, h3, h4, h5, h6, h7⟩ := h
  refine ⟨h1.f (fun a b hab => e a b (by omega) (by omega)), h2.f (fun a b hab => e a b (by omega) (by omega)), h3.f (fun a b hab => e a b (by omega) (by omega)), h4.f (fun a b hab => e a b (by omega) (by omega)), h5.f (fun a b hab => e a b (by omega) (by omega)), ?_, fun g g0 g1 => ?_⟩
  · rw [e 65 5 (by omega) (by omega), e 65 6 (by omega) (by omega), e 65 7 (by omega) (by omega), e 0 13 (by omega) (by omega), e 0 14 (by omega) (by omega), e 0 15 (by omega) (by omega)]
    refine ⟨?_, h6.2⟩
    rw [gm_tl_f (a := 0) (b := 12) (by omega)]
    unfold gm_tl gf_tl
    rw [gf_up_s, gf_up_s]
  · rw [e 70 g (by omega) (by omega), e 64 g (by omega) (by omega)]
    exact h7 g g0 g1
theorem gf_sh2_f {v a b : Int} (h : ¬ (a = 0 ∧ (b = 13 ∨ b = 14))) : gf_sh2 μ v a b = μ a b := by
  unfold gf_sh2
  rw [gf_up_o (by omega), gf_up_o (by omega)]
theorem gm_sh2_f {v a b : Int} (h : ¬ (a = 65 ∧ (b = 5 ∨ b = 6))) : gm_sh2 μ v a b = μ a b := by
  unfold gm_sh2
  rw [gf_up_o (by omega), gf_up_o (by omega)]
theorem gf_I.sh2 (h : gf_I μ) {v : Int} : gf_I (gm_sh2 (gf_sh2 μ v) v) := by
  have e : ∀ a b : Int, ¬ (a = 0 ∧ (b = 13 ∨ b = 14)) → ¬ (a = 65 ∧ (b = 5 ∨ b = 6)) → gm_sh2 (gf_sh2 μ v) v a b = μ a b := fun a b h1 h2 => by rw [gm_sh2_f h2, gf_sh2_f h1]
  obtain ⟨h1, h2, h3, h4, h5, h6, h7⟩ := h
  have hn : μ 71 1 = μ 41 1 := h4.1.1
  refine ⟨h1.f (fun a b hab => e a b (by omega) (by omega)), h2.f (fun a b hab => e a b (by omega) (by omega)), h3.f (fun a b hab => e a b (by omega) (by omega)), h4.f (fun a b hab => e a b (by omega) (by omega)), h5.f (fun a b hab => e a b (by omega) (by omega)), ?_, fun g g0 g1 => ?_⟩
  · rw [e 65 4 (by omega) (by omega), e 65 7 (by omega) (by omega), e 0 12 (by omega) (by omega), e 0 15 (by omega) (by omega)]
    refine ⟨h6.1, ?_, ?_, h6.2.2.2⟩
    · rw [gm_sh2_f (a := 0) (b := 13) (by omega)]
      unfold gm_sh2
      rw [gf_up_j (by omega), gf_up_s, gf_sh2_f (a := 71) (by omega), hn]
      unfold gf_sh2
      rw [gf_up_j (by omega), gf_up_s, Int.gcd_comm]
    · rw [gm_sh2_f (a := 0) (b := 14) (by omega)]
      unfold gm_sh2
      rw [gf_up_s, gf_sh2_f (a := 71) (by omega), hn]
      unfold gf_sh2
      rw [gf_up_s, Int.gcd_comm]
  · rw [e 70 g (by omega) (by omega), e 64 g (by omega) (by omega)]
    exact h7 g g0 g1
end GI1
section GI2
variable {μ μ1 μ2 : gf_M}
/-- the reference's cells are as they were -/
def gf_vw (μ1 μ : gf_M) : Prop := ∀ a b : Int, 65 ≤ a → μ1 a b = μ a b
theorem gf_vw.k (h : gf_vw μ1 μ) {a : Int} (ha : 65 ≤ a) : μ1 a = μ a := funext fun b => h a b ha
theorem gf_vw.rf : gf_vw μ μ := fun _ _ _ => rfl
theorem gf_vw.fd {f : Int} : gf_vw (gf_fd μ f) μ := fun a b h => gf_fd_f (by omega) (by omega)
theorem gf_vw.of_eq (h : μ1 = μ) : gf_vw μ1 μ := h ▸ gf_vw.rf
theorem gf_vw.of_fd {f : Int} (h : μ1 = gf_fd μ f) : gf_vw μ1 μ := h ▸ gf_vw.fd
theorem gf_vw.of_tl {v : Int} (h : μ1 = gf_tl μ v) : gf_vw μ1 μ := h ▸ fun a b h => gf_tl_f (by omega)
theorem gf_vw.of_sc (h : gf_sc μ1 μ) : gf_vw μ1 μ := fun a b ha => h a b (by omega)
theorem gf_vw.of_sctl {v : Int} (h : gf_sc μ1 (gf_tl μ v)) : gf_vw μ1 μ := fun a b ha => by rw [h a b (by omega), gf_tl_f (by omega)]
theorem gf_vw.of_scsh {v : Int} (h : gf_sc μ1 (gf_sh2 μ v)) : gf_vw μ1 μ := fun a b ha => by rw [h a b (by omega), gf_sh2_f (by omega)]
theorem lf_same (hI : gf_I μ) (h1 : μ1 = μ) (h2 : μ2 = μ1) : gf_I μ2 := by rw [h2, h1]; exact hI
theorem lf_fd (hI : gf_I μ) {f : Int} (hf : 1 ≤ f ∧ f ≤ 5) (h1 : μ1 = gf_fd μ f) (h2 : μ2 = gm_fd μ1 f) : gf_I μ2 := by rw [h2, h1]; exact hI.fd hf
theorem lf_fds (hI : gf_I μ) {f : Int} (hf : 1 ≤ f ∧ f ≤ 5) (h1 : μ1 = gf_fd μ f) (h2 : gm_sc μ2 (gm_fd μ1 f)) : gf_I μ2 := (hI.fd hf).sc (fun a b hab => by rw [h2 a b (fun z => hab (Or.inr z)), h1])
theorem lf_sc (hI : gf_I μ) (h1 : gf_sc μ1 μ) (h2 : gm_sc μ2 μ1) : gf_I μ2 := hI.sc (fun a b hab => by rw [h2 a b (fun z => hab (Or.inr z)), h1 a b (fun z => hab (Or.inl z))])
theorem lf_tl (hI : gf_I μ) {v w : Int} (h1 : gf_sc μ1 (gf_tl μ v)) (h2 : gm_sc μ2 (gm_tl μ1 w)) (e : v = w) : gf_I μ2 := by
  subst e
  refine (hI.tl (v := v)).sc (fun a b hab => ?_)
  rw [h2 a b (fun z => hab (Or.inr z))]
  by_cases h : a = 65 ∧ b = 4
  · obtain ⟨rfl, rfl⟩ := h
    unfold gm_tl
    rw [gf_up_s, gf_up_s]
  · rw [gm_tl_f h, gm_tl_f h, h1 a b (fun z => hab (Or.inl z))]
theorem lf_tle (hI : gf_I μ) {v w : Int} (h1 : μ1 = gf_tl μ v) (h2 : μ2 = gm_tl μ1 w) (e : v = w) : gf_I μ2 := lf_tl (μ1 := μ1) (v := v) (w := w) hI (by rw [h1]; exact gf_sc_rf) (by rw [h2]; exact fun _ _ _ => rfl) e
theorem lf_sh2 (hI : gf_I μ) {v w : Int} (h1 : gf_sc μ1 (gf_sh2 μ v)) (h2 : gm_sc μ2 (gm_sh2 μ1 w)) (e : v = w) : gf_I μ2 := by
  subst e
  refine (hI.sh2 (v := v)).sc (fun a b hab => ?_)
  rw [h2 a b (fun z => hab (Or.inr z))]
  have hn : μ1 71 1 = gf_sh2 μ v 71 1 := h1 71 1 (by omega)
  by_cases h : a = 65 ∧ (b = 5 ∨ b = 6)
  · obtain ⟨rfl, rfl | rfl⟩ := h
    · unfold gm_sh2
      rw [gf_up_j (by omega), gf_up_s, gf_up_j (by omega), gf_up_s, hn]
    · unfold gm_sh2
      rw [gf_up_s, gf_up_s, hn]
  · rw [gm_sh2_f h, gm_sh2_f h, h1 a b (fun z => hab (Or.inl z))]
/-- what the reference asks of its cells -/
theorem gf_I.ok (h : gf_I μ) (v : gf_vw μ1 μ) : gm_ok μ1 := by
  obtain ⟨-, -, h3, h4, -, -⟩ := h
  obtain ⟨⟨c0, c1, c2⟩, hg⟩ := h3
  obtain ⟨g1, g2, g3, -⟩ := h4
  unfold gm_ok
  rw [v.k (a := 71) (by decide), c0, g1.1, g2.1]
  refine ⟨⟨c1, c2⟩, fun i i0 i1 => ?_, g1.2, fun j j0 j1 => ?_, g2.2⟩
  · obtain ⟨⟨e1, e2, e3⟩, o1, o2, o3⟩ := hg i i0 i1
    rw [e1, e2, e3]
    exact ⟨o1, o2, o3⟩
  · rw [(g3 j j0 j1).1]
    exact (g3 j j0 j1).2
theorem gf_I.rs (h : gf_I μ) (v : gf_vw μ1 μ) : ∀ r : Int, 0 ≤ r → r < 6 → -1 ≤ μ1 66 r ∧ μ1 66 r ≤ 40 := fun r r0 r1 => by
  rw [v 66 r (by decide)]
  exact (h.1 r r0 r1).1.2
theorem gf_I.ts (h : gf_I μ) (v : gf_vw μ1 μ) : ∀ r : Int, 0 ≤ r → r < 4 → -1 ≤ μ1 68 r ∧ μ1 68 r ≤ 60 := fun r r0 r1 => by
  rw [v 68 r (by decide)]
  exact (h.2.1.1 r r0 r1).1.2
theorem gf_I.tb (h : gf_I μ) (v : gf_vw μ1 μ) : ∀ j : Int, -128 ≤ μ1 69 j ∧ μ1 69 j ≤ 127 := fun j => by
  rw [v 69 j (by decide)]
  exact h.2.1.2 j
/-- what the class asks of its cells -/
theorem gf_I.c7 (h : gf_I μ) : 0 ≤ μ 0 3 ∧ μ 0 3 ≤ 7 := h.2.2.1.1.2
theorem gf_I.G (h : gf_I μ) : gf_okGs μ (μ 0 3) := fun i i0 i1 => (h.2.2.1.2 i i0 i1).2
theorem gf_I.s (h : gf_I μ) : 0 ≤ μ 41 1 ∧ μ 41 1 ≤ 8 := h.2.2.2.1.1.2
theorem gf_I.d (h : gf_I μ) : 0 ≤ μ 41 2 ∧ μ 41 2 ≤ 40 := h.2.2.2.1.2.1.2
theorem gf_I.F (h : gf_I μ) : gf_okF μ 42 (μ 41 1) := fun j j0 j1 => (h.2.2.2.1.2.2.1 j j0 j1).2
theorem gf_I.rw (h : gf_I μ) : ∀ r : Int, 0 ≤ r → r < 6 → -1 ≤ μ (2 + 2 * r) 1 ∧ μ (2 + 2 * r) 1 ≤ 40 := fun r r0 r1 => by
  have := (h.1 r r0 r1).1
  omega
theorem gf_I.tx (h : gf_I μ) : ∀ t : Int, 0 ≤ t → t < 4 → -1 ≤ μ (15 + 2 * t) 1 ∧ μ (15 + 2 * t) 1 ≤ 60 := fun r r0 r1 => by
  have := (h.2.1.1 r r0 r1).1
  omega
theorem gf_I.txb (h : gf_I μ) : ∀ t j : Int, 0 ≤ t → t < 4 → 0 ≤ j → j < μ (15 + 2 * t) 1 → -128 ≤ μ (16 + 2 * t) j ∧ μ (16 + 2 * t) j ≤ 127 := fun t j t0 t1 j0 j1 => by
  obtain ⟨g1, g2⟩ := h.2.1.1 t t0 t1
  rw [← g2 j j0 (by omega)]
  exact h.2.1.2 _
theorem gf_I.kw (h : gf_I μ) : ∀ k : Int, 0 ≤ k → k < 3 → μ (32 + 3 * k) 4 ≠ 0 → (0 ≤ μ (32 + 3 * k) 1 ∧ μ (32 + 3 * k) 1 ≤ 8) ∧ 0 ≤ μ (32 + 3 * k) 2 ∧ μ (32 + 3 * k) 2 ≤ 40 := fun k k0 k1 hk => by
  rcases h.2.2.2.2.1 k k0 k1 with g | ⟨-, -, g, -⟩
  · exact absurd g.1 hk
  · exact ⟨g.1.2, g.2.1.2⟩
theorem gf_I.log (h : gf_I μ) : ∀ d : Int, 0 ≤ d → d < μ 41 2 → (μ 71 (32 + 9 * d)).toNat ≤ 8 ∧ (∀ j : Int, 0 ≤ j → j < ((μ 71 (32 + 9 * d)).toNat : Int) → 0 ≤ μ 71 (33 + 9 * d + j) ∧ μ 71 (33 + 9 * d + j) ≤ 9) ∧ μ 43 d = pf_enc (fun j => μ 71 (33 + 9 * d + j)) (μ 71 (32 + 9 * d)).toNat := fun d d0 d1 => by
  obtain ⟨g1, g2, g3⟩ := h.2.2.2.1.2.2.2 d d0 d1
  exact ⟨by omega, fun j j0 j1 => g2 j j0 (by omega), g3⟩
end GI2
