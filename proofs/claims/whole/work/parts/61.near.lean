/-! pure: the nearest number, as the class finds it and as the reference does -/
theorem pf_pd_nn (x y : Int → Int) : ∀ k : Nat, 0 ≤ pf_pd x y k
  | 0 => Int.le_refl _
  | k + 1 => by
    have := pf_pd_nn x y k
    unfold pf_pd
    split <;> omega
theorem pf_pd_eq {x y : Int → Int} : ∀ k : Nat, (∀ j : Int, 0 ≤ j → j < k → y j = x j) → pf_pd x y k = 0
  | 0, _ => rfl
  | k + 1, h => by
    unfold pf_pd
    rw [pf_pd_eq k (fun j h0 h1 => h j h0 (by omega)), if_pos (h k (by omega) (by omega))]
    rfl
theorem pf_pd_one {x y : Int → Int} {a : Int} : ∀ k : Nat, 0 ≤ a → a < k → y a ≠ x a → (∀ j : Int, 0 ≤ j → j < k → j ≠ a → y j = x j) → pf_pd x y k = 1
  | 0, h0, h1, _, _ => by omega
  | k + 1, h0, h1, hne, h => by
    unfold pf_pd
    by_cases ha : a = k
    · rw [pf_pd_eq k (fun j g0 g1 => h j g0 (by omega) (by omega)), ← ha, if_neg hne]
      rfl
    · rw [pf_pd_one k h0 (by omega) hne (fun j g0 g1 g2 => h j g0 (by omega) g2), if_pos (h k (by omega) (by omega) (by omega))]
      rfl
theorem pf_pd_two {x y : Int → Int} {a b : Int} : ∀ k : Nat, 0 ≤ a → a < b → b < k → y a ≠ x a → y b ≠ x b → (∀ j : Int, 0 ≤ j → j < k → j ≠ a → j ≠ b → y j = x j) → pf_pd x y k = 2
  | 0, h0, h1, h2, _, _, _ => by omega
  | k + 1, h0, h1, h2, hne, hne2, h => by
    unfold pf_pd
    by_cases hb : b = k
    · rw [pf_pd_one k h0 (by omega) hne (fun j g0 g1 g2 => h j g0 (by omega) g2 (by omega)), ← hb, if_neg hne2]
      rfl
    · rw [pf_pd_two k h0 h1 (by omega) hne hne2 (fun j g0 g1 g2 g3 => h j g0 (by omega) g2 g3), if_pos (h k (by omega) (by omega) (by omega) (by omega))]
      rfl
theorem pf_pd_0 {x y : Int → Int} : ∀ k : Nat, pf_pd x y k = 0 → ∀ j : Int, 0 ≤ j → j < k → y j = x j
  | 0, _, j, h0, h1 => by omega
  | k + 1, h, j, h0, h1 => by
    unfold pf_pd at h
    have hn := pf_pd_nn x y k
    by_cases hk : y k = x k
    · rw [if_pos hk] at h
      by_cases hj : j = k
      · rw [hj]; exact hk
      · exact pf_pd_0 k (by omega) j h0 (by omega)
    · rw [if_neg hk] at h
      omega
theorem pf_pd_1 {x y : Int → Int} : ∀ k : Nat, pf_pd x y k = 1 → ∃ a : Int, 0 ≤ a ∧ a < k ∧ y a ≠ x a ∧ ∀ j : Int, 0 ≤ j → j < k → j ≠ a → y j = x j
  | 0, h => by unfold pf_pd at h; omega
  | k + 1, h => by
    unfold pf_pd at h
    by_cases hk : y k = x k
    · rw [if_pos hk] at h
      obtain ⟨a, h0, h1, h2, h3⟩ := pf_pd_1 (x := x) (y := y) k (by omega)
      refine ⟨a, h0, by omega, h2, fun j g0 g1 g2 => ?_⟩
      by_cases hj : j = k
      · rw [hj]; exact hk
      · exact h3 j g0 (by omega) g2
    · rw [if_neg hk] at h
      have h0 := pf_pd_0 (x := x) (y := y) k (by omega)
      exact ⟨k, by omega, by omega, hk, fun j g0 g1 g2 => h0 j g0 (by omega)⟩
theorem pf_pd_2 {x y : Int → Int} : ∀ k : Nat, pf_pd x y k = 2 → ∃ a b : Int, 0 ≤ a ∧ a < b ∧ b < k ∧ y a ≠ x a ∧ y b ≠ x b ∧ ∀ j : Int, 0 ≤ j → j < k → j ≠ a → j ≠ b → y j = x j
  | 0, h => by unfold pf_pd at h; omega
  | k + 1, h => by
    unfold pf_pd at h
    by_cases hk : y k = x k
    · rw [if_pos hk] at h
      obtain ⟨a, b, h0, h1, h2, h3, h4, h5⟩ := pf_pd_2 (x := x) (y := y) k (by omega)
      refine ⟨a, b, h0, h1, by omega, h3, h4, fun j g0 g1 g2 g3 => ?_⟩
      by_cases hj : j = k
      · rw [hj]; exact hk
      · exact h5 j g0 (by omega) g2 g3
    · rw [if_neg hk] at h
      obtain ⟨a, h0, h1, h2, h3⟩ := pf_pd_1 (x := x) (y := y) k (by omega)
      exact ⟨a, k, h0, h1, by omega, h2, hk, fun j g0 g1 g2 g3 => h3 j g0 (by omega) g2⟩
section GP2
variable {μ μ' : gf_M} {i c q : Int} {x : Int → Int}
set_option maxHeartbeats 1000000 in
theorem gm_near_V (hn : 0 ≤ μ 71 1) (hx : ∀ j : Int, 0 ≤ j → j < μ 71 1 → gm_x μ j = x j) (hF : ∀ j : Int, 0 ≤ j → j < μ 71 1 → 0 ≤ x j ∧ x j ≤ 9) (h : gm_near μ i c q μ') :
    (2 < pf_VN (μ 71 (3 + i)) (μ 71 (10 + i)) (μ 71 (17 + i)) (μ 71 1) c x (μ 71 1).toNat 0 → q = -9 ∧ gm_sc μ' μ) ∧ (pf_VN (μ 71 (3 + i)) (μ 71 (10 + i)) (μ 71 (17 + i)) (μ 71 1) c x (μ 71 1).toNat 0 ≤ 2 → q = pf_VN (μ 71 (3 + i)) (μ 71 (10 + i)) (μ 71 (17 + i)) (μ 71 1) c x (μ 71 1).toNat 0 ∧ gm_sc μ' (gm_tl μ (pf_run (μ 71 (3 + i)) (μ 71 (10 + i)) (μ 71 (17 + i)) (μ 71 1) (pf_pkN (μ 71 (3 + i)) (μ 71 (10 + i)) (μ 71 (17 + i)) (μ 71 1) c x) (μ 71 1).toNat).2)) := by
  have hY : (pf_run (μ 71 (3 + i)) (μ 71 (10 + i)) (μ 71 (17 + i)) (μ 71 1) (pf_pkN (μ 71 (3 + i)) (μ 71 (10 + i)) (μ 71 (17 + i)) (μ 71 1) c x) (μ 71 1).toNat).2 = pf_num (pf_yN (μ 71 (3 + i)) (μ 71 (10 + i)) (μ 71 (17 + i)) (μ 71 1) c x) (μ 71 1).toNat := by rw [pf_run_ys]; rfl
  rw [hY]
  have hup := fun (y : Int → Int) (hy : ∀ j : Int, 0 ≤ j → j < μ 71 1 → 0 ≤ y j ∧ y j ≤ 9) (hr : gm_rk μ i y (μ 71 1) = c) => pf_VN_near (x := x) hn hy hr
  have hat := fun h => pf_yN_ok (K := μ 71 (3 + i)) (F := μ 71 (10 + i)) (S := μ 71 (17 + i)) (n := μ 71 1) (c := c) (x := x) hn h
  have hmi := fun h (y : Int → Int) (hy : ∀ j : Int, 0 ≤ j → j < μ 71 1 → 0 ≤ y j ∧ y j ≤ 9) (hr : gm_rk μ i y (μ 71 1) = c) => pf_yN_le (K := μ 71 (3 + i)) (F := μ 71 (10 + i)) (S := μ 71 (17 + i)) (n := μ 71 1) (c := c) (x := x) hn h hy hr
  have h0 := (pf_VN_R (μ 71 (3 + i)) (μ 71 (10 + i)) (μ 71 (17 + i)) (μ 71 1) c x (μ 71 1).toNat 0 (by omega)).1
  have hyR := fun j => pf_yN_R (K := μ 71 (3 + i)) (F := μ 71 (10 + i)) (S := μ 71 (17 + i)) (n := μ 71 1) (c := c) (x := x) j
  generalize hVe : pf_VN (μ 71 (3 + i)) (μ 71 (10 + i)) (μ 71 (17 + i)) (μ 71 1) c x (μ 71 1).toNat 0 = V at *
  generalize hye : pf_yN (μ 71 (3 + i)) (μ 71 (10 + i)) (μ 71 (17 + i)) (μ 71 1) c x = ys at *
  have hrc : ∀ {y z : Int → Int}, (∀ j : Int, 0 ≤ j → j < μ 71 1 → y j = z j) → gm_rk μ i y (μ 71 1) = gm_rk μ i z (μ 71 1) := fun hyz => pf_reck_congr hyz
  have hnc : ∀ {y z : Int → Int}, (∀ j : Int, 0 ≤ j → j < μ 71 1 → y j = z j) → pf_num y (μ 71 1).toNat = pf_num z (μ 71 1).toNat := fun hyz => pf_num_congr _ (fun j a b => hyz j a (by omega))
  obtain ⟨g0, g1⟩ := h
  by_cases hr : gm_rk μ i (gm_x μ) (μ 71 1) = c
  · obtain ⟨hq, hs⟩ := g0 hr
    have hd := pf_pd_eq (x := x) (y := gm_x μ) (μ 71 1).toNat (fun j a b => hx j a (by omega))
    have hV := hup (gm_x μ) (fun j a b => by rw [hx j a b]; exact hF j a b) hr
    have hV0 : V = 0 := by omega
    have h2 := (hat (by omega)).2
    rw [hV0] at h2
    have h3 := pf_pd_0 _ h2
    refine ⟨fun h => by omega, fun _ => ⟨by omega, ?_⟩⟩
    rw [hnc (y := ys) (z := gm_x μ) (fun j a b => by rw [h3 j a (by omega), hx j a b])]
    exact hs
  · have hV0 : V ≠ 0 := fun hV => by
      have h1 := hat (by omega)
      rw [hV] at h1
      have h3 := pf_pd_0 _ h1.2
      exact hr (by rw [← h1.1]; exact (hrc (fun j a b => by rw [hx j a b, h3 j a (by omega)])))
    obtain ⟨L1, hL1, g2, g3⟩ := g1 hr
    have hC1 : V = 1 → ∃ a v : Int, gm_C1 μ i c a a v ∧ gm_M1 μ a a v = pf_num ys (μ 71 1).toNat := fun hV => by
      have h1 := hat (by omega)
      rw [hV] at h1
      obtain ⟨a, a0, a1, a2, a3⟩ := pf_pd_1 _ h1.2
      have hya := hyR a
      have hag : ∀ j : Int, 0 ≤ j → j < μ 71 1 → gm_y1 (gm_x μ) a (ys a) j = ys j := fun j b0 b1 => by
        unfold gm_y1
        by_cases hj : j = a
        · rw [if_pos hj, hj]
        · rw [if_neg hj, hx j b0 b1, a3 j b0 (by omega) hj]
      exact ⟨a, ys a, ⟨⟨a0, by omega⟩, rfl, ⟨hya.1, by omega⟩, by rw [hx a a0 (by omega)]; exact a2, by rw [hrc hag]; exact h1.1⟩, hnc hag⟩
    have hD1 : ∀ a b v : Int, gm_C1 μ i c a b v → V = 1 ∧ pf_num ys (μ 71 1).toNat ≤ gm_M1 μ a b v := fun a b v hC => by
      obtain ⟨c1, rfl, c3, c4, c5⟩ := hC
      have hy : ∀ j : Int, 0 ≤ j → j < μ 71 1 → 0 ≤ gm_y1 (gm_x μ) b v j ∧ gm_y1 (gm_x μ) b v j ≤ 9 := fun j b0 b1 => by
        unfold gm_y1
        by_cases hj : j = b
        · rw [if_pos hj]; omega
        · rw [if_neg hj, hx j b0 b1]; exact hF j b0 b1
      have hpd := pf_pd_one (x := x) (y := gm_y1 (gm_x μ) b v) (a := b) (μ 71 1).toNat c1.1 (by omega) (by unfold gm_y1; rw [if_pos rfl, ← hx b c1.1 c1.2]; exact c4) (fun j b0 b1 b2 => by unfold gm_y1; rw [if_neg b2]; exact hx j b0 (by omega))
      have h1 := hup _ hy c5
      have hV : V = 1 := by clear hC1 g1 g3; omega
      exact ⟨hV, hmi (by omega) _ hy c5 (by omega)⟩
    rcases hL1 with ⟨e1, hno⟩ | ⟨hp, ⟨a, b, v, hC, hM⟩, hle⟩
    · have hV1 : V ≠ 1 := fun hV => by
        obtain ⟨a, v, hC, _⟩ := hC1 hV
        exact hno a a v trivial hC
      obtain ⟨L2, hL2, g4, g5⟩ := g3 (by omega)
      have hC2 : V = 2 → ∃ a b v : Int, gm_C2 μ i c a b v ∧ gm_M2 μ a b v = pf_num ys (μ 71 1).toNat := fun hV => by
        have h1 := hat (by omega)
        rw [hV] at h1
        obtain ⟨a, b, a0, a1, a2, a3, a4, a5⟩ := pf_pd_2 _ h1.2
        have hya := hyR a
        have hyb := hyR b
        have em : (10 * ys b + ys a) % 10 = ys a := by omega
        have ed : (10 * ys b + ys a) / 10 = ys b := by omega
        have hag : ∀ j : Int, 0 ≤ j → j < μ 71 1 → gm_y2 (gm_x μ) a b (10 * ys b + ys a) j = ys j := fun j b0 b1 => by
          unfold gm_y2
          rw [em, ed]
          by_cases hj : j = b
          · rw [if_pos hj, hj]
          · rw [if_neg hj]
            by_cases hj2 : j = a
            · rw [if_pos hj2, hj2]
            · rw [if_neg hj2, hx j b0 b1, a5 j b0 (by omega) hj2 hj]
        exact ⟨a, b, 10 * ys b + ys a, ⟨⟨a0, a1, by omega⟩, ⟨by omega, by omega⟩, by rw [em, hx a a0 (by omega)]; exact a3, by rw [ed, hx b (by omega) (by omega)]; exact a4, by rw [hrc hag]; exact h1.1⟩, hnc hag⟩
      have hD2 : ∀ a b v : Int, gm_C2 μ i c a b v → V = 2 ∧ pf_num ys (μ 71 1).toNat ≤ gm_M2 μ a b v := fun a b v hC => by
        obtain ⟨c1, c3, c4, c4b, c5⟩ := hC
        have hy : ∀ j : Int, 0 ≤ j → j < μ 71 1 → 0 ≤ gm_y2 (gm_x μ) a b v j ∧ gm_y2 (gm_x μ) a b v j ≤ 9 := fun j b0 b1 => by
          unfold gm_y2
          by_cases hj : j = b
          · rw [if_pos hj]; omega
          · rw [if_neg hj]
            by_cases hj2 : j = a
            · rw [if_pos hj2]; omega
            · rw [if_neg hj2, hx j b0 b1]; exact hF j b0 b1
        have hpd := pf_pd_two (x := x) (y := gm_y2 (gm_x μ) a b v) (a := a) (b := b) (μ 71 1).toNat c1.1 c1.2.1 (by omega) (by unfold gm_y2; rw [if_neg (by omega), if_pos rfl, ← hx a c1.1 (by omega)]; exact c4) (by unfold gm_y2; rw [if_pos rfl, ← hx b (by omega) c1.2.2]; exact c4b) (fun j b0 b1 b2 b3 => by unfold gm_y2; rw [if_neg b3, if_neg b2]; exact hx j b0 (by omega))
        have h1 := hup _ hy c5
        have hV : V = 2 := by clear hC1 hC2 g1 g3; omega
        exact ⟨hV, hmi (by omega) _ hy c5 (by omega)⟩
      rcases hL2 with ⟨e2, hno2⟩ | ⟨hp2, ⟨a, b, v, hC, hM⟩, hle2⟩
      · have hV2 : V ≠ 2 := fun hV => by
          obtain ⟨a, b, v, hC, _⟩ := hC2 hV
          exact hno2 a b v trivial hC
        clear hC1 hC2 g1 g3
        exact ⟨fun _ => g5 (by omega), fun h => by omega⟩
      · obtain ⟨hV, hl⟩ := hD2 a b v hC
        obtain ⟨a', b', v', hC', hM'⟩ := hC2 hV
        have hl2 := hle2 a' b' v' trivial hC'
        clear hC1 hC2 g1 g3
        have : pf_num ys (μ 71 1).toNat = L2 := by omega
        rw [this]
        refine ⟨fun h => by omega, fun _ => ?_⟩
        have := g4 hp2
        exact ⟨by omega, this.2⟩
    · obtain ⟨hV, hl⟩ := hD1 a b v hC
      obtain ⟨a', v', hC', hM'⟩ := hC1 hV
      have hl2 := hle a' a' v' trivial hC'
      clear hC1 g1 g3
      have : pf_num ys (μ 71 1).toNat = L1 := by omega
      rw [this]
      refine ⟨fun h => by omega, fun _ => ?_⟩
      have := g2 hp
      exact ⟨by omega, this.2⟩
end GP2
