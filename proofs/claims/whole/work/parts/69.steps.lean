/-! each call: class and reference answer alike, and stay tied (printed by wip/whole/steps.py) -/
theorem pf_sum_cg {f g : Int → Int} : ∀ n : Nat, (∀ j : Int, 0 ≤ j → j < n → f j = g j) → pf_sum f n = pf_sum g n
  | 0, _ => rfl
  | n + 1, h => by
    unfold pf_sum
    rw [pf_sum_cg n (fun j a b => h j a (by omega)), h n (by omega) (by omega)]
section GC3
variable {μ : gf_M} {i r : Int}
theorem gf_I.apk (h : gf_I μ) (hi : 0 ≤ i ∧ i < μ 0 3) (kd f : Int) : pf_reck kd (μ (24 + i) 1) (μ (24 + i) 2) (pf_apd (μ 42) (μ 41 1) f) (μ 41 1 + 1) = pf_reck kd (μ 71 (10 + i)) (μ 71 (17 + i)) (pf_apd (gm_x μ) (μ 71 1) f) (μ 71 1 + 1) := by
  rw [h.k1 hi, h.k2 hi, ← h.n]
  refine pf_reck_congr (fun j a b => ?_)
  unfold pf_apd
  by_cases e : j = μ 71 1
  · rw [if_pos e, if_pos e]
  · rw [if_neg e, if_neg e, h.x j a (by omega)]
theorem gf_I.apd (h : gf_I μ) (hi : 0 ≤ i ∧ i < μ 0 3) (f : Int) : pf_reck (μ (24 + i) 0) (μ (24 + i) 1) (μ (24 + i) 2) (pf_apd (μ 42) (μ 41 1) f) (μ 41 1 + 1) = gm_rk μ i (pf_apd (gm_x μ) (μ 71 1) f) (μ 71 1 + 1) := by
  rw [h.k0 hi]
  exact h.apk hi _ f
theorem gf_I.tst (h : gf_I μ) (hi : 0 ≤ i ∧ i < μ 0 3) (some : Int) : pf_fst (fun f => pf_maxp some (fun kd => pf_reck kd (μ (24 + i) 1) (μ (24 + i) 2) (pf_apd (μ 42) (μ 41 1) f) (μ 41 1 + 1)) 6) 9 = pf_fst (gm_U μ i some) 9 := by
  refine pf_fst_congr 9 (fun f _ _ => ?_)
  show pf_maxp some (fun kd => pf_reck kd (μ (24 + i) 1) (μ (24 + i) 2) (pf_apd (μ 42) (μ 41 1) f) (μ 41 1 + 1)) 6 = gm_U μ i some f
  rw [pf_maxp_eq (fun k => pf_reck_R _ _ _ _ _)]
  unfold gm_U
  congr 1
  funext kd
  exact h.apk hi kd f
theorem gf_I.eok (h : gf_I μ) (hr : 0 ≤ r ∧ r < 6) (h1 : 1 ≤ μ 66 r) : pf_eok (μ (3 + 2 * r)) (μ (2 + 2 * r) 1) ↔ pf_eok (gm_row μ r) (μ 66 r) := by
  rw [h.rsz hr]
  exact ⟨fun g => pf_eok_congr h1 (fun j a b => (h.row hr j a b).symm) g, fun g => pf_eok_congr h1 (h.row hr) g⟩
theorem gf_I.sm (h : gf_I μ) (hr : 0 ≤ r ∧ r < 6) : ((∀ j : Int, 0 ≤ j → j < μ (2 + 2 * r) 1 → -1 ≤ μ (3 + 2 * r) j ∧ μ (3 + 2 * r) j ≤ 9) ∧ pf_cnt (fun j => decide (μ (3 + 2 * r) j = -1)) (μ (2 + 2 * r) 1).toNat ≤ 3) ↔ ((∀ j : Int, 0 ≤ j → j < μ 66 r → -1 ≤ (gm_row μ r) j ∧ (gm_row μ r) j ≤ 9) ∧ pf_cnt (fun j => decide ((gm_row μ r) j = -1)) (μ 66 r).toNat ≤ 3) := by
  rw [h.rsz hr]
  have e : pf_cnt (fun j => decide (μ (3 + 2 * r) j = -1)) (μ 66 r).toNat = pf_cnt (fun j => decide ((gm_row μ r) j = -1)) (μ 66 r).toNat := pf_cnt_congr _ (fun j a b => by rw [h.row hr j a (by omega)])
  rw [e]
  exact ⟨fun g => ⟨fun j a b => by rw [← h.row hr j a b]; exact g.1 j a b, g.2⟩, fun g => ⟨fun j a b => by rw [h.row hr j a b]; exact g.1 j a b, g.2⟩⟩
end GC3

theorem vw_row {μ μ1 : gf_M} {r n q1 : Int} (hI : gf_I μ) (h1 : (¬ (0 ≤ r ∧ r < 6) ∨ 40 < n → q1 = -1 ∧ μ1 = μ) ∧ (0 ≤ r ∧ r < 6 ∧ n ≤ 40 → (n < 0 → q1 = -3 ∧ μ1 = gf_fd μ 5) ∧ (0 ≤ n → q1 = n ∧ gf_rnw μ μ1 (2 + 2 * r) n 0))) : gf_vw μ1 μ := by
  have hs := hI.s
  have hd := hI.d
  have hc7 := hI.c7
  by_cases d : 0 ≤ r ∧ r < 6 ∧ n ≤ 40
  · have g1_1 := h1.2 d
    by_cases d_1 : 0 ≤ n
    · have g1_1_1 := g1_1.2 d_1
      exact vs_rnw g1_1_1.2 (by clear h1; omega)
    · skip
      have g1_1_0 := g1_1.1 (by clear h1 g1_1; first | exact d_1 | omega | exact Classical.not_not.mp d_1)
      exact gf_vw.of_fd g1_1_0.2
  · skip
    have g1_0 := h1.1 (by clear h1; first | exact d | omega | exact Classical.not_not.mp d)
    exact gf_vw.of_eq g1_0.2
set_option maxHeartbeats 1000000 in
theorem st_row {μ μ1 μ2 : gf_M} {r n q1 q2 : Int} (hI : gf_I μ) (h1 : (¬ (0 ≤ r ∧ r < 6) ∨ 40 < n → q1 = -1 ∧ μ1 = μ) ∧ (0 ≤ r ∧ r < 6 ∧ n ≤ 40 → (n < 0 → q1 = -3 ∧ μ1 = gf_fd μ 5) ∧ (0 ≤ n → q1 = n ∧ gf_rnw μ μ1 (2 + 2 * r) n 0))) (h2 : (¬ (0 ≤ r ∧ r < 6) ∨ 40 < n → q2 = -1 ∧ μ2 = μ1) ∧ (0 ≤ r ∧ r < 6 ∧ n ≤ 40 → (n < 0 → q2 = -3 ∧ μ2 = gm_fd μ1 5) ∧ (0 ≤ n → q2 = n ∧ gm_new μ1 μ2 66 67 40 r n 0))) : q1 = q2 ∧ gf_I μ2 := by
  have v := vw_row hI h1
  have hc := hI.c
  have hn := hI.n
  have hdn := hI.dn
  have hs := hI.s
  have hd := hI.d
  have hc7 := hI.c7
  have k65 := v.k (a := 65) (by decide)
  have k66 := v.k (a := 66) (by decide)
  have k67 := v.k (a := 67) (by decide)
  have k68 := v.k (a := 68) (by decide)
  have k69 := v.k (a := 69) (by decide)
  have k70 := v.k (a := 70) (by decide)
  have k71 := v.k (a := 71) (by decide)
  have k74 := v.k (a := 74) (by decide)
  have k75 := v.k (a := 75) (by decide)
  try simp only [k65, k66, k67, k68, k69, k70, k71, k74, k75, v.x, v.rk, v.uS, v.uX, v.ua, v.og, v.cvd, v.row, v.U, v.W, v.leaf, v.fw, v.ff, v.cn, v.dg] at h2
  clear k65 k66 k67 k68 k69 k70 k74 k75
  by_cases d : 0 ≤ r ∧ r < 6 ∧ n ≤ 40
  · have g1_1 := h1.2 (by clear h1 h2; first | exact d | omega | exact Classical.not_not.mp d)
    have g2_1 := h2.2 d
    by_cases d_1 : 0 ≤ n
    · have g1_1_1 := g1_1.2 (by clear h1 h2 g1_1 g2_1; first | exact d_1 | omega | exact Classical.not_not.mp d_1)
      have g2_1_1 := g2_1.2 d_1
      clear h1 h2 g1_1 g2_1
      exact ⟨g1_1_1.1.trans g2_1_1.1.symm, lf_row hI (by omega) (by omega) g1_1_1.2 g2_1_1.2⟩
    · skip
      have g1_1_0 := g1_1.1 (by clear h1 h2 g1_1 g2_1; first | exact d_1 | omega | exact Classical.not_not.mp d_1)
      have g2_1_0 := g2_1.1 (by clear h1 h2 g1_1 g2_1; first | exact d_1 | omega | exact Classical.not_not.mp d_1)
      clear h1 h2 g1_1 g2_1
      exact ⟨g1_1_0.1.trans g2_1_0.1.symm, lf_fd hI (by decide) g1_1_0.2 g2_1_0.2⟩
  · skip
    have g1_0 := h1.1 (by clear h1 h2; first | exact d | omega | exact Classical.not_not.mp d)
    have g2_0 := h2.1 (by clear h1 h2; first | exact d | omega | exact Classical.not_not.mp d)
    clear h1 h2
    exact ⟨g1_0.1.trans g2_0.1.symm, lf_same hI g1_0.2 g2_0.2⟩
theorem vw_lay {μ μ1 : gf_M} {r i v q1 : Int} (hI : gf_I μ) (h1 : (¬ (0 ≤ r ∧ r < 6) → q1 = -1 ∧ μ1 = μ) ∧ (0 ≤ r ∧ r < 6 → (μ (2 + 2 * r) 1 = -1 → q1 = -3 ∧ μ1 = gf_fd μ 1) ∧ (μ (2 + 2 * r) 1 ≠ -1 → (¬ (0 ≤ i ∧ i < μ (2 + 2 * r) 1) → q1 = -3 ∧ μ1 = gf_fd μ 2) ∧ (0 ≤ i ∧ i < μ (2 + 2 * r) 1 → q1 = 1 ∧ μ1 = gf_tl (gf_up μ (3 + 2 * r) i v) (μ (3 + 2 * r) i))))) : gf_vw μ1 μ := by
  have hs := hI.s
  have hd := hI.d
  have hc7 := hI.c7
  by_cases d : 0 ≤ r ∧ r < 6
  · have g1_1 := h1.2 d
    by_cases d_1 : μ (2 + 2 * r) 1 ≠ -1
    · have g1_1_1 := g1_1.2 d_1
      by_cases d_1_1 : 0 ≤ i ∧ i < μ (2 + 2 * r) 1
      · have g1_1_1_1 := g1_1_1.2 d_1_1
        exact vs_lay d g1_1_1_1.2
      · skip
        have g1_1_1_0 := g1_1_1.1 (by clear h1 g1_1 g1_1_1; first | exact d_1_1 | omega | exact Classical.not_not.mp d_1_1)
        exact gf_vw.of_fd g1_1_1_0.2
    · skip
      have g1_1_0 := g1_1.1 (by clear h1 g1_1; first | exact d_1 | omega | exact Classical.not_not.mp d_1)
      exact gf_vw.of_fd g1_1_0.2
  · skip
    have g1_0 := h1.1 (by clear h1; first | exact d | omega | exact Classical.not_not.mp d)
    exact gf_vw.of_eq g1_0.2
set_option maxHeartbeats 1000000 in
theorem st_lay {μ μ1 μ2 : gf_M} {r i v q1 q2 : Int} (hI : gf_I μ) (h1 : (¬ (0 ≤ r ∧ r < 6) → q1 = -1 ∧ μ1 = μ) ∧ (0 ≤ r ∧ r < 6 → (μ (2 + 2 * r) 1 = -1 → q1 = -3 ∧ μ1 = gf_fd μ 1) ∧ (μ (2 + 2 * r) 1 ≠ -1 → (¬ (0 ≤ i ∧ i < μ (2 + 2 * r) 1) → q1 = -3 ∧ μ1 = gf_fd μ 2) ∧ (0 ≤ i ∧ i < μ (2 + 2 * r) 1 → q1 = 1 ∧ μ1 = gf_tl (gf_up μ (3 + 2 * r) i v) (μ (3 + 2 * r) i))))) (h2 : (¬ (0 ≤ r ∧ r < 6) → q2 = -1 ∧ μ2 = μ1) ∧ (0 ≤ r ∧ r < 6 → (μ1 66 r = -1 → q2 = -3 ∧ μ2 = gm_fd μ1 1) ∧ (μ1 66 r ≠ -1 → (¬ (0 ≤ i ∧ i < μ1 66 r) → q2 = -3 ∧ μ2 = gm_fd μ1 2) ∧ (0 ≤ i ∧ i < μ1 66 r → q2 = 1 ∧ μ2 = gm_tl (gf_up μ1 67 (40 * r + i) v) (μ1 67 (40 * r + i)))))) : q1 = q2 ∧ gf_I μ2 := by
  have v := vw_lay hI h1
  have hc := hI.c
  have hn := hI.n
  have hdn := hI.dn
  have hs := hI.s
  have hd := hI.d
  have hc7 := hI.c7
  have k65 := v.k (a := 65) (by decide)
  have k66 := v.k (a := 66) (by decide)
  have k67 := v.k (a := 67) (by decide)
  have k68 := v.k (a := 68) (by decide)
  have k69 := v.k (a := 69) (by decide)
  have k70 := v.k (a := 70) (by decide)
  have k71 := v.k (a := 71) (by decide)
  have k74 := v.k (a := 74) (by decide)
  have k75 := v.k (a := 75) (by decide)
  try simp only [k65, k66, k67, k68, k69, k70, k71, k74, k75, v.x, v.rk, v.uS, v.uX, v.ua, v.og, v.cvd, v.row, v.U, v.W, v.leaf, v.fw, v.ff, v.cn, v.dg] at h2
  clear k65 k66 k67 k68 k69 k70 k74 k75
  by_cases d : 0 ≤ r ∧ r < 6
  · have g1_1 := h1.2 (by clear h1 h2; first | exact d | omega | exact Classical.not_not.mp d)
    have g2_1 := h2.2 d
    have er := hI.rsz (r := r) (by clear h1 h2 g1_1 g2_1; omega)
    have eR := hI.rs gf_vw.rf r (by clear h1 h2 g1_1 g2_1; omega) (by clear h1 h2 g1_1 g2_1; omega)
    by_cases d_1 : μ 66 r ≠ -1
    · have g1_1_1 := g1_1.2 (by clear h1 h2 g1_1 g2_1; first | exact d_1 | omega | exact Classical.not_not.mp d_1)
      have g2_1_1 := g2_1.2 d_1
      by_cases d_1_1 : 0 ≤ i ∧ i < μ 66 r
      · have g1_1_1_1 := g1_1_1.2 (by clear h1 h2 g1_1 g2_1 g1_1_1 g2_1_1; first | exact d_1_1 | omega | exact Classical.not_not.mp d_1_1)
        have g2_1_1_1 := g2_1_1.2 d_1_1
        clear h1 h2 g1_1 g2_1 g1_1_1 g2_1_1
        exact ⟨g1_1_1_1.1.trans g2_1_1_1.1.symm, lf_lay hI (by omega) (by omega) g1_1_1_1.2 g2_1_1_1.2 (hI.row (r := r) (by omega) i (by omega) (by omega))⟩
      · skip
        have g1_1_1_0 := g1_1_1.1 (by clear h1 h2 g1_1 g2_1 g1_1_1 g2_1_1; first | exact d_1_1 | omega | exact Classical.not_not.mp d_1_1)
        have g2_1_1_0 := g2_1_1.1 (by clear h1 h2 g1_1 g2_1 g1_1_1 g2_1_1; first | exact d_1_1 | omega | exact Classical.not_not.mp d_1_1)
        clear h1 h2 g1_1 g2_1 g1_1_1 g2_1_1
        exact ⟨g1_1_1_0.1.trans g2_1_1_0.1.symm, lf_fd hI (by decide) g1_1_1_0.2 g2_1_1_0.2⟩
    · skip
      have g1_1_0 := g1_1.1 (by clear h1 h2 g1_1 g2_1; first | exact d_1 | omega | exact Classical.not_not.mp d_1)
      have g2_1_0 := g2_1.1 (by clear h1 h2 g1_1 g2_1; first | exact d_1 | omega | exact Classical.not_not.mp d_1)
      clear h1 h2 g1_1 g2_1
      exact ⟨g1_1_0.1.trans g2_1_0.1.symm, lf_fd hI (by decide) g1_1_0.2 g2_1_0.2⟩
  · skip
    have g1_0 := h1.1 (by clear h1 h2; first | exact d | omega | exact Classical.not_not.mp d)
    have g2_0 := h2.1 (by clear h1 h2; first | exact d | omega | exact Classical.not_not.mp d)
    clear h1 h2
    exact ⟨g1_0.1.trans g2_0.1.symm, lf_same hI g1_0.2 g2_0.2⟩
theorem vw_at {μ μ1 : gf_M} {r i q1 : Int} (hI : gf_I μ) (h1 : (¬ (0 ≤ r ∧ r < 6) → q1 = -1 ∧ μ1 = μ) ∧ (0 ≤ r ∧ r < 6 → (μ (2 + 2 * r) 1 = -1 → q1 = -3 ∧ μ1 = gf_fd μ 1) ∧ (μ (2 + 2 * r) 1 ≠ -1 → (¬ (0 ≤ i ∧ i < μ (2 + 2 * r) 1) → q1 = -3 ∧ μ1 = gf_fd μ 2) ∧ (0 ≤ i ∧ i < μ (2 + 2 * r) 1 → q1 = 1 ∧ μ1 = gf_tl μ (μ (3 + 2 * r) i))))) : gf_vw μ1 μ := by
  have hs := hI.s
  have hd := hI.d
  have hc7 := hI.c7
  by_cases d : 0 ≤ r ∧ r < 6
  · have g1_1 := h1.2 d
    by_cases d_1 : μ (2 + 2 * r) 1 ≠ -1
    · have g1_1_1 := g1_1.2 d_1
      by_cases d_1_1 : 0 ≤ i ∧ i < μ (2 + 2 * r) 1
      · have g1_1_1_1 := g1_1_1.2 d_1_1
        exact gf_vw.of_tl g1_1_1_1.2
      · skip
        have g1_1_1_0 := g1_1_1.1 (by clear h1 g1_1 g1_1_1; first | exact d_1_1 | omega | exact Classical.not_not.mp d_1_1)
        exact gf_vw.of_fd g1_1_1_0.2
    · skip
      have g1_1_0 := g1_1.1 (by clear h1 g1_1; first | exact d_1 | omega | exact Classical.not_not.mp d_1)
      exact gf_vw.of_fd g1_1_0.2
  · skip
    have g1_0 := h1.1 (by clear h1; first | exact d | omega | exact Classical.not_not.mp d)
    exact gf_vw.of_eq g1_0.2
set_option maxHeartbeats 1000000 in
theorem st_at {μ μ1 μ2 : gf_M} {r i q1 q2 : Int} (hI : gf_I μ) (h1 : (¬ (0 ≤ r ∧ r < 6) → q1 = -1 ∧ μ1 = μ) ∧ (0 ≤ r ∧ r < 6 → (μ (2 + 2 * r) 1 = -1 → q1 = -3 ∧ μ1 = gf_fd μ 1) ∧ (μ (2 + 2 * r) 1 ≠ -1 → (¬ (0 ≤ i ∧ i < μ (2 + 2 * r) 1) → q1 = -3 ∧ μ1 = gf_fd μ 2) ∧ (0 ≤ i ∧ i < μ (2 + 2 * r) 1 → q1 = 1 ∧ μ1 = gf_tl μ (μ (3 + 2 * r) i))))) (h2 : (¬ (0 ≤ r ∧ r < 6) → q2 = -1 ∧ μ2 = μ1) ∧ (0 ≤ r ∧ r < 6 → (μ1 66 r = -1 → q2 = -3 ∧ μ2 = gm_fd μ1 1) ∧ (μ1 66 r ≠ -1 → (¬ (0 ≤ i ∧ i < μ1 66 r) → q2 = -3 ∧ μ2 = gm_fd μ1 2) ∧ (0 ≤ i ∧ i < μ1 66 r → q2 = 1 ∧ μ2 = gm_tl μ1 (μ1 67 (40 * r + i)))))) : q1 = q2 ∧ gf_I μ2 := by
  have v := vw_at hI h1
  have hc := hI.c
  have hn := hI.n
  have hdn := hI.dn
  have hs := hI.s
  have hd := hI.d
  have hc7 := hI.c7
  have k65 := v.k (a := 65) (by decide)
  have k66 := v.k (a := 66) (by decide)
  have k67 := v.k (a := 67) (by decide)
  have k68 := v.k (a := 68) (by decide)
  have k69 := v.k (a := 69) (by decide)
  have k70 := v.k (a := 70) (by decide)
  have k71 := v.k (a := 71) (by decide)
  have k74 := v.k (a := 74) (by decide)
  have k75 := v.k (a := 75) (by decide)
  try simp only [k65, k66, k67, k68, k69, k70, k71, k74, k75, v.x, v.rk, v.uS, v.uX, v.ua, v.og, v.cvd, v.row, v.U, v.W, v.leaf, v.fw, v.ff, v.cn, v.dg] at h2
  clear k65 k66 k67 k68 k69 k70 k74 k75
  by_cases d : 0 ≤ r ∧ r < 6
  · have g1_1 := h1.2 (by clear h1 h2; first | exact d | omega | exact Classical.not_not.mp d)
    have g2_1 := h2.2 d
    have er := hI.rsz (r := r) (by clear h1 h2 g1_1 g2_1; omega)
    have eR := hI.rs gf_vw.rf r (by clear h1 h2 g1_1 g2_1; omega) (by clear h1 h2 g1_1 g2_1; omega)
    by_cases d_1 : μ 66 r ≠ -1
    · have g1_1_1 := g1_1.2 (by clear h1 h2 g1_1 g2_1; first | exact d_1 | omega | exact Classical.not_not.mp d_1)
      have g2_1_1 := g2_1.2 d_1
      by_cases d_1_1 : 0 ≤ i ∧ i < μ 66 r
      · have g1_1_1_1 := g1_1_1.2 (by clear h1 h2 g1_1 g2_1 g1_1_1 g2_1_1; first | exact d_1_1 | omega | exact Classical.not_not.mp d_1_1)
        have g2_1_1_1 := g2_1_1.2 d_1_1
        clear h1 h2 g1_1 g2_1 g1_1_1 g2_1_1
        exact ⟨g1_1_1_1.1.trans g2_1_1_1.1.symm, lf_tle hI g1_1_1_1.2 g2_1_1_1.2 ((hI.row (r := r) (by omega) i (by omega) (by omega)))⟩
      · skip
        have g1_1_1_0 := g1_1_1.1 (by clear h1 h2 g1_1 g2_1 g1_1_1 g2_1_1; first | exact d_1_1 | omega | exact Classical.not_not.mp d_1_1)
        have g2_1_1_0 := g2_1_1.1 (by clear h1 h2 g1_1 g2_1 g1_1_1 g2_1_1; first | exact d_1_1 | omega | exact Classical.not_not.mp d_1_1)
        clear h1 h2 g1_1 g2_1 g1_1_1 g2_1_1
        exact ⟨g1_1_1_0.1.trans g2_1_1_0.1.symm, lf_fd hI (by decide) g1_1_1_0.2 g2_1_1_0.2⟩
    · skip
      have g1_1_0 := g1_1.1 (by clear h1 h2 g1_1 g2_1; first | exact d_1 | omega | exact Classical.not_not.mp d_1)
      have g2_1_0 := g2_1.1 (by clear h1 h2 g1_1 g2_1; first | exact d_1 | omega | exact Classical.not_not.mp d_1)
      clear h1 h2 g1_1 g2_1
      exact ⟨g1_1_0.1.trans g2_1_0.1.symm, lf_fd hI (by decide) g1_1_0.2 g2_1_0.2⟩
  · skip
    have g1_0 := h1.1 (by clear h1 h2; first | exact d | omega | exact Classical.not_not.mp d)
    have g2_0 := h2.1 (by clear h1 h2; first | exact d | omega | exact Classical.not_not.mp d)
    clear h1 h2
    exact ⟨g1_0.1.trans g2_0.1.symm, lf_same hI g1_0.2 g2_0.2⟩
theorem vw_tear {μ μ1 : gf_M} {r q1 : Int} (hI : gf_I μ) (h1 : (¬ (0 ≤ r ∧ r < 6) → q1 = -1 ∧ μ1 = μ) ∧ (0 ≤ r ∧ r < 6 → (μ (2 + 2 * r) 1 = -1 → q1 = -3 ∧ μ1 = gf_fd μ 1) ∧ (μ (2 + 2 * r) 1 ≠ -1 → q1 = 1 ∧ μ1 = gf_up μ (2 + 2 * r) 1 (-1)))) : gf_vw μ1 μ := by
  have hs := hI.s
  have hd := hI.d
  have hc7 := hI.c7
  by_cases d : 0 ≤ r ∧ r < 6
  · have g1_1 := h1.2 d
    by_cases d_1 : μ (2 + 2 * r) 1 ≠ -1
    · have g1_1_1 := g1_1.2 d_1
      rw [g1_1_1.2]
      exact vs_up (by clear h1; omega)
    · skip
      have g1_1_0 := g1_1.1 (by clear h1 g1_1; first | exact d_1 | omega | exact Classical.not_not.mp d_1)
      exact gf_vw.of_fd g1_1_0.2
  · skip
    have g1_0 := h1.1 (by clear h1; first | exact d | omega | exact Classical.not_not.mp d)
    exact gf_vw.of_eq g1_0.2
set_option maxHeartbeats 1000000 in
theorem st_tear {μ μ1 μ2 : gf_M} {r q1 q2 : Int} (hI : gf_I μ) (h1 : (¬ (0 ≤ r ∧ r < 6) → q1 = -1 ∧ μ1 = μ) ∧ (0 ≤ r ∧ r < 6 → (μ (2 + 2 * r) 1 = -1 → q1 = -3 ∧ μ1 = gf_fd μ 1) ∧ (μ (2 + 2 * r) 1 ≠ -1 → q1 = 1 ∧ μ1 = gf_up μ (2 + 2 * r) 1 (-1)))) (h2 : (¬ (0 ≤ r ∧ r < 6) → q2 = -1 ∧ μ2 = μ1) ∧ (0 ≤ r ∧ r < 6 → (μ1 66 r = -1 → q2 = -3 ∧ μ2 = gm_fd μ1 1) ∧ (μ1 66 r ≠ -1 → q2 = 1 ∧ μ2 = gf_up μ1 66 r (-1)))) : q1 = q2 ∧ gf_I μ2 := by
  have v := vw_tear hI h1
  have hc := hI.c
  have hn := hI.n
  have hdn := hI.dn
  have hs := hI.s
  have hd := hI.d
  have hc7 := hI.c7
  have k65 := v.k (a := 65) (by decide)
  have k66 := v.k (a := 66) (by decide)
  have k67 := v.k (a := 67) (by decide)
  have k68 := v.k (a := 68) (by decide)
  have k69 := v.k (a := 69) (by decide)
  have k70 := v.k (a := 70) (by decide)
  have k71 := v.k (a := 71) (by decide)
  have k74 := v.k (a := 74) (by decide)
  have k75 := v.k (a := 75) (by decide)
  try simp only [k65, k66, k67, k68, k69, k70, k71, k74, k75, v.x, v.rk, v.uS, v.uX, v.ua, v.og, v.cvd, v.row, v.U, v.W, v.leaf, v.fw, v.ff, v.cn, v.dg] at h2
  clear k65 k66 k67 k68 k69 k70 k74 k75
  by_cases d : 0 ≤ r ∧ r < 6
  · have g1_1 := h1.2 (by clear h1 h2; first | exact d | omega | exact Classical.not_not.mp d)
    have g2_1 := h2.2 d
    have er := hI.rsz (r := r) (by clear h1 h2 g1_1 g2_1; omega)
    have eR := hI.rs gf_vw.rf r (by clear h1 h2 g1_1 g2_1; omega) (by clear h1 h2 g1_1 g2_1; omega)
    by_cases d_1 : μ 66 r ≠ -1
    · have g1_1_1 := g1_1.2 (by clear h1 h2 g1_1 g2_1; first | exact d_1 | omega | exact Classical.not_not.mp d_1)
      have g2_1_1 := g2_1.2 d_1
      clear h1 h2 g1_1 g2_1
      exact ⟨g1_1_1.1.trans g2_1_1.1.symm, lf_tear hI (by omega) g1_1_1.2 g2_1_1.2⟩
    · skip
      have g1_1_0 := g1_1.1 (by clear h1 h2 g1_1 g2_1; first | exact d_1 | omega | exact Classical.not_not.mp d_1)
      have g2_1_0 := g2_1.1 (by clear h1 h2 g1_1 g2_1; first | exact d_1 | omega | exact Classical.not_not.mp d_1)
      clear h1 h2 g1_1 g2_1
      exact ⟨g1_1_0.1.trans g2_1_0.1.symm, lf_fd hI (by decide) g1_1_0.2 g2_1_0.2⟩
  · skip
    have g1_0 := h1.1 (by clear h1 h2; first | exact d | omega | exact Classical.not_not.mp d)
    have g2_0 := h2.1 (by clear h1 h2; first | exact d | omega | exact Classical.not_not.mp d)
    clear h1 h2
    exact ⟨g1_0.1.trans g2_0.1.symm, lf_same hI g1_0.2 g2_0.2⟩
theorem vw_copy {μ μ1 : gf_M} {r i o j n q1 : Int} (hI : gf_I μ) (h1 : (¬ (0 ≤ r ∧ r < 6 ∧ 0 ≤ o ∧ o < 6) → q1 = -1 ∧ μ1 = μ) ∧ (0 ≤ r ∧ r < 6 ∧ 0 ≤ o ∧ o < 6 → (n < 0 → q1 = -3 ∧ μ1 = gf_fd μ 5) ∧ (0 ≤ n → (μ (2 + 2 * r) 1 = -1 ∨ μ (2 + 2 * o) 1 = -1 → q1 = -3 ∧ μ1 = gf_fd μ 1) ∧ (μ (2 + 2 * r) 1 ≠ -1 ∧ μ (2 + 2 * o) 1 ≠ -1 → (¬ (0 ≤ i ∧ i + n ≤ μ (2 + 2 * r) 1 ∧ 0 ≤ j ∧ j + n ≤ μ (2 + 2 * o) 1) → q1 = -3 ∧ μ1 = gf_fd μ 2) ∧ (0 ≤ i ∧ i + n ≤ μ (2 + 2 * r) 1 ∧ 0 ≤ j ∧ j + n ≤ μ (2 + 2 * o) 1 → q1 = 1 ∧ μ1 = gf_cp μ (3 + 2 * r) i (3 + 2 * o) j n))))) : gf_vw μ1 μ := by
  have hs := hI.s
  have hd := hI.d
  have hc7 := hI.c7
  by_cases d : 0 ≤ r ∧ r < 6 ∧ 0 ≤ o ∧ o < 6
  · have g1_1 := h1.2 d
    by_cases d_1 : 0 ≤ n
    · have g1_1_1 := g1_1.2 d_1
      by_cases d_1_1 : μ (2 + 2 * r) 1 ≠ -1 ∧ μ (2 + 2 * o) 1 ≠ -1
      · have g1_1_1_1 := g1_1_1.2 d_1_1
        by_cases d_1_1_1 : 0 ≤ i ∧ i + n ≤ μ (2 + 2 * r) 1 ∧ 0 ≤ j ∧ j + n ≤ μ (2 + 2 * o) 1
        · have g1_1_1_1_1 := g1_1_1_1.2 d_1_1_1
          exact vs_cp (by clear h1; omega) g1_1_1_1_1.2
        · skip
          have g1_1_1_1_0 := g1_1_1_1.1 (by clear h1 g1_1 g1_1_1 g1_1_1_1; first | exact d_1_1_1 | omega | exact Classical.not_not.mp d_1_1_1)
          exact gf_vw.of_fd g1_1_1_1_0.2
      · skip
        have g1_1_1_0 := g1_1_1.1 (by clear h1 g1_1 g1_1_1; first | exact d_1_1 | omega | exact Classical.not_not.mp d_1_1)
        exact gf_vw.of_fd g1_1_1_0.2
    · skip
      have g1_1_0 := g1_1.1 (by clear h1 g1_1; first | exact d_1 | omega | exact Classical.not_not.mp d_1)
      exact gf_vw.of_fd g1_1_0.2
  · skip
    have g1_0 := h1.1 (by clear h1; first | exact d | omega | exact Classical.not_not.mp d)
    exact gf_vw.of_eq g1_0.2
set_option maxHeartbeats 1000000 in
theorem st_copy {μ μ1 μ2 : gf_M} {r i o j n q1 q2 : Int} (hI : gf_I μ) (h1 : (¬ (0 ≤ r ∧ r < 6 ∧ 0 ≤ o ∧ o < 6) → q1 = -1 ∧ μ1 = μ) ∧ (0 ≤ r ∧ r < 6 ∧ 0 ≤ o ∧ o < 6 → (n < 0 → q1 = -3 ∧ μ1 = gf_fd μ 5) ∧ (0 ≤ n → (μ (2 + 2 * r) 1 = -1 ∨ μ (2 + 2 * o) 1 = -1 → q1 = -3 ∧ μ1 = gf_fd μ 1) ∧ (μ (2 + 2 * r) 1 ≠ -1 ∧ μ (2 + 2 * o) 1 ≠ -1 → (¬ (0 ≤ i ∧ i + n ≤ μ (2 + 2 * r) 1 ∧ 0 ≤ j ∧ j + n ≤ μ (2 + 2 * o) 1) → q1 = -3 ∧ μ1 = gf_fd μ 2) ∧ (0 ≤ i ∧ i + n ≤ μ (2 + 2 * r) 1 ∧ 0 ≤ j ∧ j + n ≤ μ (2 + 2 * o) 1 → q1 = 1 ∧ μ1 = gf_cp μ (3 + 2 * r) i (3 + 2 * o) j n))))) (h2 : (¬ (0 ≤ r ∧ r < 6 ∧ 0 ≤ o ∧ o < 6) → q2 = -1 ∧ μ2 = μ1) ∧ (0 ≤ r ∧ r < 6 ∧ 0 ≤ o ∧ o < 6 → (n < 0 → q2 = -3 ∧ μ2 = gm_fd μ1 5) ∧ (0 ≤ n → (μ1 66 r = -1 ∨ μ1 66 o = -1 → q2 = -3 ∧ μ2 = gm_fd μ1 1) ∧ (μ1 66 r ≠ -1 ∧ μ1 66 o ≠ -1 → (¬ (0 ≤ i ∧ i + n ≤ μ1 66 r ∧ 0 ≤ j ∧ j + n ≤ μ1 66 o) → q2 = -3 ∧ μ2 = gm_fd μ1 2) ∧ (0 ≤ i ∧ i + n ≤ μ1 66 r ∧ 0 ≤ j ∧ j + n ≤ μ1 66 o → q2 = 1 ∧ μ2 = gf_cp μ1 67 (40 * r + i) 67 (40 * o + j) n))))) : q1 = q2 ∧ gf_I μ2 := by
  have v := vw_copy hI h1
  have hc := hI.c
  have hn := hI.n
  have hdn := hI.dn
  have hs := hI.s
  have hd := hI.d
  have hc7 := hI.c7
  have k65 := v.k (a := 65) (by decide)
  have k66 := v.k (a := 66) (by decide)
  have k67 := v.k (a := 67) (by decide)
  have k68 := v.k (a := 68) (by decide)
  have k69 := v.k (a := 69) (by decide)
  have k70 := v.k (a := 70) (by decide)
  have k71 := v.k (a := 71) (by decide)
  have k74 := v.k (a := 74) (by decide)
  have k75 := v.k (a := 75) (by decide)
  try simp only [k65, k66, k67, k68, k69, k70, k71, k74, k75, v.x, v.rk, v.uS, v.uX, v.ua, v.og, v.cvd, v.row, v.U, v.W, v.leaf, v.fw, v.ff, v.cn, v.dg] at h2
  clear k65 k66 k67 k68 k69 k70 k74 k75
  by_cases d : 0 ≤ r ∧ r < 6 ∧ 0 ≤ o ∧ o < 6
  · have g1_1 := h1.2 (by clear h1 h2; first | exact d | omega | exact Classical.not_not.mp d)
    have g2_1 := h2.2 d
    have er := hI.rsz (r := r) (by clear h1 h2 g1_1 g2_1; omega)
    have eR := hI.rs gf_vw.rf r (by clear h1 h2 g1_1 g2_1; omega) (by clear h1 h2 g1_1 g2_1; omega)
    have eo := hI.rsz (r := o) (by clear h1 h2 g1_1 g2_1; omega)
    by_cases d_1 : 0 ≤ n
    · have g1_1_1 := g1_1.2 (by clear h1 h2 g1_1 g2_1; first | exact d_1 | omega | exact Classical.not_not.mp d_1)
      have g2_1_1 := g2_1.2 d_1
      by_cases d_1_1 : μ 66 r ≠ -1 ∧ μ 66 o ≠ -1
      · have g1_1_1_1 := g1_1_1.2 (by clear h1 h2 g1_1 g2_1 g1_1_1 g2_1_1; first | exact d_1_1 | omega | exact Classical.not_not.mp d_1_1)
        have g2_1_1_1 := g2_1_1.2 d_1_1
        by_cases d_1_1_1 : 0 ≤ i ∧ i + n ≤ μ 66 r ∧ 0 ≤ j ∧ j + n ≤ μ 66 o
        · have g1_1_1_1_1 := g1_1_1_1.2 (by clear h1 h2 g1_1 g2_1 g1_1_1 g2_1_1 g1_1_1_1 g2_1_1_1; first | exact d_1_1_1 | omega | exact Classical.not_not.mp d_1_1_1)
          have g2_1_1_1_1 := g2_1_1_1.2 d_1_1_1
          clear h1 h2 g1_1 g2_1 g1_1_1 g2_1_1 g1_1_1_1 g2_1_1_1
          exact ⟨g1_1_1_1_1.1.trans g2_1_1_1_1.1.symm, lf_copy hI (r := r) (o := o) (by omega) (by omega) (by omega) (by omega) (by omega) g1_1_1_1_1.2 g2_1_1_1_1.2⟩
        · skip
          have g1_1_1_1_0 := g1_1_1_1.1 (by clear h1 h2 g1_1 g2_1 g1_1_1 g2_1_1 g1_1_1_1 g2_1_1_1; first | exact d_1_1_1 | omega | exact Classical.not_not.mp d_1_1_1)
          have g2_1_1_1_0 := g2_1_1_1.1 (by clear h1 h2 g1_1 g2_1 g1_1_1 g2_1_1 g1_1_1_1 g2_1_1_1; first | exact d_1_1_1 | omega | exact Classical.not_not.mp d_1_1_1)
          clear h1 h2 g1_1 g2_1 g1_1_1 g2_1_1 g1_1_1_1 g2_1_1_1
          exact ⟨g1_1_1_1_0.1.trans g2_1_1_1_0.1.symm, lf_fd hI (by decide) g1_1_1_1_0.2 g2_1_1_1_0.2⟩
      · skip
        have g1_1_1_0 := g1_1_1.1 (by clear h1 h2 g1_1 g2_1 g1_1_1 g2_1_1; first | exact d_1_1 | omega | exact Classical.not_not.mp d_1_1)
        have g2_1_1_0 := g2_1_1.1 (by clear h1 h2 g1_1 g2_1 g1_1_1 g2_1_1; first | exact d_1_1 | omega | exact Classical.not_not.mp d_1_1)
        clear h1 h2 g1_1 g2_1 g1_1_1 g2_1_1
        exact ⟨g1_1_1_0.1.trans g2_1_1_0.1.symm, lf_fd hI (by decide) g1_1_1_0.2 g2_1_1_0.2⟩
    · skip
      have g1_1_0 := g1_1.1 (by clear h1 h2 g1_1 g2_1; first | exact d_1 | omega | exact Classical.not_not.mp d_1)
      have g2_1_0 := g2_1.1 (by clear h1 h2 g1_1 g2_1; first | exact d_1 | omega | exact Classical.not_not.mp d_1)
      clear h1 h2 g1_1 g2_1
      exact ⟨g1_1_0.1.trans g2_1_0.1.symm, lf_fd hI (by decide) g1_1_0.2 g2_1_0.2⟩
  · skip
    have g1_0 := h1.1 (by clear h1 h2; first | exact d | omega | exact Classical.not_not.mp d)
    have g2_0 := h2.1 (by clear h1 h2; first | exact d | omega | exact Classical.not_not.mp d)
    clear h1 h2
    exact ⟨g1_0.1.trans g2_0.1.symm, lf_same hI g1_0.2 g2_0.2⟩
theorem vw_mean {μ μ1 : gf_M} {r q1 : Int} (hI : gf_I μ) (h1 : (¬ (0 ≤ r ∧ r < 6) → q1 = -1 ∧ μ1 = μ) ∧ (0 ≤ r ∧ r < 6 → (μ (2 + 2 * r) 1 = -1 → q1 = -3 ∧ μ1 = gf_fd μ 1) ∧ (μ (2 + 2 * r) 1 = 0 → q1 = -3 ∧ μ1 = gf_fd μ 4) ∧ (1 ≤ μ (2 + 2 * r) 1 → q1 = 1 ∧ μ1 = gf_tl μ (gf_w ((pf_sum (μ (3 + 2 * r)) (μ (2 + 2 * r) 1).toNat).tdiv (μ (2 + 2 * r) 1)))))) : gf_vw μ1 μ := by
  have hs := hI.s
  have hd := hI.d
  have hc7 := hI.c7
  by_cases d : 0 ≤ r ∧ r < 6
  · have g1_1 := h1.2 d
    have eR := hI.rw r (by clear h1; omega) (by clear h1; omega)
    by_cases d_1x2 : 1 ≤ μ (2 + 2 * r) 1
    · have g1_1_2 := g1_1.2.2 d_1x2
      exact gf_vw.of_tl g1_1_2.2
    · skip
      by_cases d_1x1 : μ (2 + 2 * r) 1 = 0
      · have g1_1_1 := g1_1.2.1 d_1x1
        exact gf_vw.of_fd g1_1_1.2
      · skip
        have g1_1_0 := g1_1.1 (by clear h1 g1_1; first | exact d_1x1 | omega | exact Classical.not_not.mp d_1x1)
        exact gf_vw.of_fd g1_1_0.2
  · skip
    have g1_0 := h1.1 (by clear h1; first | exact d | omega | exact Classical.not_not.mp d)
    exact gf_vw.of_eq g1_0.2
set_option maxHeartbeats 1000000 in
theorem st_mean {μ μ1 μ2 : gf_M} {r q1 q2 : Int} (hI : gf_I μ) (h1 : (¬ (0 ≤ r ∧ r < 6) → q1 = -1 ∧ μ1 = μ) ∧ (0 ≤ r ∧ r < 6 → (μ (2 + 2 * r) 1 = -1 → q1 = -3 ∧ μ1 = gf_fd μ 1) ∧ (μ (2 + 2 * r) 1 = 0 → q1 = -3 ∧ μ1 = gf_fd μ 4) ∧ (1 ≤ μ (2 + 2 * r) 1 → q1 = 1 ∧ μ1 = gf_tl μ (gf_w ((pf_sum (μ (3 + 2 * r)) (μ (2 + 2 * r) 1).toNat).tdiv (μ (2 + 2 * r) 1)))))) (h2 : (¬ (0 ≤ r ∧ r < 6) → q2 = -1 ∧ μ2 = μ1) ∧ (0 ≤ r ∧ r < 6 → (μ1 66 r = -1 → q2 = -3 ∧ μ2 = gm_fd μ1 1) ∧ (μ1 66 r = 0 → q2 = -3 ∧ μ2 = gm_fd μ1 4) ∧ (1 ≤ μ1 66 r → q2 = 1 ∧ μ2 = gm_tl μ1 (gf_w ((pf_sum (fun j => μ1 67 (40 * r + j)) (μ1 66 r).toNat).tdiv (μ1 66 r)))))) : q1 = q2 ∧ gf_I μ2 := by
  have v := vw_mean hI h1
  have hc := hI.c
  have hn := hI.n
  have hdn := hI.dn
  have hs := hI.s
  have hd := hI.d
  have hc7 := hI.c7
  have k65 := v.k (a := 65) (by decide)
  have k66 := v.k (a := 66) (by decide)
  have k67 := v.k (a := 67) (by decide)
  have k68 := v.k (a := 68) (by decide)
  have k69 := v.k (a := 69) (by decide)
  have k70 := v.k (a := 70) (by decide)
  have k71 := v.k (a := 71) (by decide)
  have k74 := v.k (a := 74) (by decide)
  have k75 := v.k (a := 75) (by decide)
  try simp only [k65, k66, k67, k68, k69, k70, k71, k74, k75, v.x, v.rk, v.uS, v.uX, v.ua, v.og, v.cvd, v.row, v.U, v.W, v.leaf, v.fw, v.ff, v.cn, v.dg] at h2
  clear k65 k66 k67 k68 k69 k70 k74 k75
  by_cases d : 0 ≤ r ∧ r < 6
  · have g1_1 := h1.2 (by clear h1 h2; first | exact d | omega | exact Classical.not_not.mp d)
    have g2_1 := h2.2 d
    have er := hI.rsz (r := r) (by clear h1 h2 g1_1 g2_1; omega)
    have eR := hI.rs gf_vw.rf r (by clear h1 h2 g1_1 g2_1; omega) (by clear h1 h2 g1_1 g2_1; omega)
    by_cases d_1x2 : 1 ≤ μ 66 r
    · have g1_1_2 := g1_1.2.2 (by clear h1 h2 g1_1 g2_1; first | exact d_1x2 | omega | exact Classical.not_not.mp d_1x2)
      have g2_1_2 := g2_1.2.2 d_1x2
      clear h1 h2 g1_1 g2_1
      exact ⟨g1_1_2.1.trans g2_1_2.1.symm, lf_tle hI g1_1_2.2 g2_1_2.2 (by rw [er, pf_sum_cg (g := fun j => μ 67 (40 * r + j)) _ (fun j a b => hI.row (r := r) (by omega) j a (by omega))])⟩
    · skip
      by_cases d_1x1 : μ 66 r = 0
      · have g1_1_1 := g1_1.2.1 (by clear h1 h2 g1_1 g2_1; first | exact d_1x1 | omega | exact Classical.not_not.mp d_1x1)
        have g2_1_1 := g2_1.2.1 d_1x1
        clear h1 h2 g1_1 g2_1
        exact ⟨g1_1_1.1.trans g2_1_1.1.symm, lf_fd hI (by decide) g1_1_1.2 g2_1_1.2⟩
      · skip
        have g1_1_0 := g1_1.1 (by clear h1 h2 g1_1 g2_1; first | exact d_1x1 | omega | exact Classical.not_not.mp d_1x1)
        have g2_1_0 := g2_1.1 (by clear h1 h2 g1_1 g2_1; first | exact d_1x1 | omega | exact Classical.not_not.mp d_1x1)
        clear h1 h2 g1_1 g2_1
        exact ⟨g1_1_0.1.trans g2_1_0.1.symm, lf_fd hI (by decide) g1_1_0.2 g2_1_0.2⟩
  · skip
    have g1_0 := h1.1 (by clear h1 h2; first | exact d | omega | exact Classical.not_not.mp d)
    have g2_0 := h2.1 (by clear h1 h2; first | exact d | omega | exact Classical.not_not.mp d)
    clear h1 h2
    exact ⟨g1_0.1.trans g2_0.1.symm, lf_same hI g1_0.2 g2_0.2⟩
theorem vw_text {μ μ1 : gf_M} {r n q1 : Int} (hI : gf_I μ) (h1 : (¬ (0 ≤ r ∧ r < 4) ∨ 60 < n → q1 = -1 ∧ μ1 = μ) ∧ (0 ≤ r ∧ r < 4 ∧ n ≤ 60 → (n < 0 → q1 = -3 ∧ μ1 = gf_fd μ 5) ∧ (0 ≤ n → q1 = n ∧ gf_rnw μ μ1 (15 + 2 * r) n 32))) : gf_vw μ1 μ := by
  have hs := hI.s
  have hd := hI.d
  have hc7 := hI.c7
  by_cases d : 0 ≤ r ∧ r < 4 ∧ n ≤ 60
  · have g1_1 := h1.2 d
    by_cases d_1 : 0 ≤ n
    · have g1_1_1 := g1_1.2 d_1
      exact vs_rnw g1_1_1.2 (by clear h1; omega)
    · skip
      have g1_1_0 := g1_1.1 (by clear h1 g1_1; first | exact d_1 | omega | exact Classical.not_not.mp d_1)
      exact gf_vw.of_fd g1_1_0.2
  · skip
    have g1_0 := h1.1 (by clear h1; first | exact d | omega | exact Classical.not_not.mp d)
    exact gf_vw.of_eq g1_0.2
set_option maxHeartbeats 1000000 in
theorem st_text {μ μ1 μ2 : gf_M} {r n q1 q2 : Int} (hI : gf_I μ) (h1 : (¬ (0 ≤ r ∧ r < 4) ∨ 60 < n → q1 = -1 ∧ μ1 = μ) ∧ (0 ≤ r ∧ r < 4 ∧ n ≤ 60 → (n < 0 → q1 = -3 ∧ μ1 = gf_fd μ 5) ∧ (0 ≤ n → q1 = n ∧ gf_rnw μ μ1 (15 + 2 * r) n 32))) (h2 : (¬ (0 ≤ r ∧ r < 4) ∨ 60 < n → q2 = -1 ∧ μ2 = μ1) ∧ (0 ≤ r ∧ r < 4 ∧ n ≤ 60 → (n < 0 → q2 = -3 ∧ μ2 = gm_fd μ1 5) ∧ (0 ≤ n → q2 = n ∧ gm_new μ1 μ2 68 69 60 r n 32))) : q1 = q2 ∧ gf_I μ2 := by
  have v := vw_text hI h1
  have hc := hI.c
  have hn := hI.n
  have hdn := hI.dn
  have hs := hI.s
  have hd := hI.d
  have hc7 := hI.c7
  have k65 := v.k (a := 65) (by decide)
  have k66 := v.k (a := 66) (by decide)
  have k67 := v.k (a := 67) (by decide)
  have k68 := v.k (a := 68) (by decide)
  have k69 := v.k (a := 69) (by decide)
  have k70 := v.k (a := 70) (by decide)
  have k71 := v.k (a := 71) (by decide)
  have k74 := v.k (a := 74) (by decide)
  have k75 := v.k (a := 75) (by decide)
  try simp only [k65, k66, k67, k68, k69, k70, k71, k74, k75, v.x, v.rk, v.uS, v.uX, v.ua, v.og, v.cvd, v.row, v.U, v.W, v.leaf, v.fw, v.ff, v.cn, v.dg] at h2
  clear k65 k66 k67 k68 k69 k70 k74 k75
  by_cases d : 0 ≤ r ∧ r < 4 ∧ n ≤ 60
  · have g1_1 := h1.2 (by clear h1 h2; first | exact d | omega | exact Classical.not_not.mp d)
    have g2_1 := h2.2 d
    by_cases d_1 : 0 ≤ n
    · have g1_1_1 := g1_1.2 (by clear h1 h2 g1_1 g2_1; first | exact d_1 | omega | exact Classical.not_not.mp d_1)
      have g2_1_1 := g2_1.2 d_1
      clear h1 h2 g1_1 g2_1
      exact ⟨g1_1_1.1.trans g2_1_1.1.symm, lf_text hI (by omega) (by omega) g1_1_1.2 g2_1_1.2⟩
    · skip
      have g1_1_0 := g1_1.1 (by clear h1 h2 g1_1 g2_1; first | exact d_1 | omega | exact Classical.not_not.mp d_1)
      have g2_1_0 := g2_1.1 (by clear h1 h2 g1_1 g2_1; first | exact d_1 | omega | exact Classical.not_not.mp d_1)
      clear h1 h2 g1_1 g2_1
      exact ⟨g1_1_0.1.trans g2_1_0.1.symm, lf_fd hI (by decide) g1_1_0.2 g2_1_0.2⟩
  · skip
    have g1_0 := h1.1 (by clear h1 h2; first | exact d | omega | exact Classical.not_not.mp d)
    have g2_0 := h2.1 (by clear h1 h2; first | exact d | omega | exact Classical.not_not.mp d)
    clear h1 h2
    exact ⟨g1_0.1.trans g2_0.1.symm, lf_same hI g1_0.2 g2_0.2⟩
theorem vw_put {μ μ1 : gf_M} {t i v q1 : Int} (hI : gf_I μ) (h1 : (¬ (0 ≤ t ∧ t < 4) → q1 = -1 ∧ μ1 = μ) ∧ (0 ≤ t ∧ t < 4 → (μ (15 + 2 * t) 1 = -1 → q1 = -3 ∧ μ1 = gf_fd μ 1) ∧ (μ (15 + 2 * t) 1 ≠ -1 → (¬ (0 ≤ i ∧ i < μ (15 + 2 * t) 1) → q1 = -3 ∧ μ1 = gf_fd μ 2) ∧ (0 ≤ i ∧ i < μ (15 + 2 * t) 1 → q1 = μ (16 + 2 * t) i + 1000 ∧ μ1 = gf_up μ (16 + 2 * t) i (gf_b v))))) : gf_vw μ1 μ := by
  have hs := hI.s
  have hd := hI.d
  have hc7 := hI.c7
  by_cases d : 0 ≤ t ∧ t < 4
  · have g1_1 := h1.2 d
    by_cases d_1 : μ (15 + 2 * t) 1 ≠ -1
    · have g1_1_1 := g1_1.2 d_1
      by_cases d_1_1 : 0 ≤ i ∧ i < μ (15 + 2 * t) 1
      · have g1_1_1_1 := g1_1_1.2 d_1_1
        rw [g1_1_1_1.2]
        exact vs_up (by clear h1; omega)
      · skip
        have g1_1_1_0 := g1_1_1.1 (by clear h1 g1_1 g1_1_1; first | exact d_1_1 | omega | exact Classical.not_not.mp d_1_1)
        exact gf_vw.of_fd g1_1_1_0.2
    · skip
      have g1_1_0 := g1_1.1 (by clear h1 g1_1; first | exact d_1 | omega | exact Classical.not_not.mp d_1)
      exact gf_vw.of_fd g1_1_0.2
  · skip
    have g1_0 := h1.1 (by clear h1; first | exact d | omega | exact Classical.not_not.mp d)
    exact gf_vw.of_eq g1_0.2
set_option maxHeartbeats 1000000 in
theorem st_put {μ μ1 μ2 : gf_M} {t i v q1 q2 : Int} (hI : gf_I μ) (h1 : (¬ (0 ≤ t ∧ t < 4) → q1 = -1 ∧ μ1 = μ) ∧ (0 ≤ t ∧ t < 4 → (μ (15 + 2 * t) 1 = -1 → q1 = -3 ∧ μ1 = gf_fd μ 1) ∧ (μ (15 + 2 * t) 1 ≠ -1 → (¬ (0 ≤ i ∧ i < μ (15 + 2 * t) 1) → q1 = -3 ∧ μ1 = gf_fd μ 2) ∧ (0 ≤ i ∧ i < μ (15 + 2 * t) 1 → q1 = μ (16 + 2 * t) i + 1000 ∧ μ1 = gf_up μ (16 + 2 * t) i (gf_b v))))) (h2 : (¬ (0 ≤ t ∧ t < 4) → q2 = -1 ∧ μ2 = μ1) ∧ (0 ≤ t ∧ t < 4 → (μ1 68 t = -1 → q2 = -3 ∧ μ2 = gm_fd μ1 1) ∧ (μ1 68 t ≠ -1 → (¬ (0 ≤ i ∧ i < μ1 68 t) → q2 = -3 ∧ μ2 = gm_fd μ1 2) ∧ (0 ≤ i ∧ i < μ1 68 t → q2 = μ1 69 (60 * t + i) + 1000 ∧ μ2 = gf_up μ1 69 (60 * t + i) (gf_b v))))) : q1 = q2 ∧ gf_I μ2 := by
  have v := vw_put hI h1
  have hc := hI.c
  have hn := hI.n
  have hdn := hI.dn
  have hs := hI.s
  have hd := hI.d
  have hc7 := hI.c7
  have k65 := v.k (a := 65) (by decide)
  have k66 := v.k (a := 66) (by decide)
  have k67 := v.k (a := 67) (by decide)
  have k68 := v.k (a := 68) (by decide)
  have k69 := v.k (a := 69) (by decide)
  have k70 := v.k (a := 70) (by decide)
  have k71 := v.k (a := 71) (by decide)
  have k74 := v.k (a := 74) (by decide)
  have k75 := v.k (a := 75) (by decide)
  try simp only [k65, k66, k67, k68, k69, k70, k71, k74, k75, v.x, v.rk, v.uS, v.uX, v.ua, v.og, v.cvd, v.row, v.U, v.W, v.leaf, v.fw, v.ff, v.cn, v.dg] at h2
  clear k65 k66 k67 k68 k69 k70 k74 k75
  by_cases d : 0 ≤ t ∧ t < 4
  · have g1_1 := h1.2 (by clear h1 h2; first | exact d | omega | exact Classical.not_not.mp d)
    have g2_1 := h2.2 d
    have et := hI.tsz (t := t) (by clear h1 h2 g1_1 g2_1; omega)
    have eT := hI.ts gf_vw.rf t (by clear h1 h2 g1_1 g2_1; omega) (by clear h1 h2 g1_1 g2_1; omega)
    by_cases d_1 : μ 68 t ≠ -1
    · have g1_1_1 := g1_1.2 (by clear h1 h2 g1_1 g2_1; first | exact d_1 | omega | exact Classical.not_not.mp d_1)
      have g2_1_1 := g2_1.2 d_1
      by_cases d_1_1 : 0 ≤ i ∧ i < μ 68 t
      · have g1_1_1_1 := g1_1_1.2 (by clear h1 h2 g1_1 g2_1 g1_1_1 g2_1_1; first | exact d_1_1 | omega | exact Classical.not_not.mp d_1_1)
        have g2_1_1_1 := g2_1_1.2 d_1_1
        clear h1 h2 g1_1 g2_1 g1_1_1 g2_1_1
        exact ⟨g1_1_1_1.1.trans (Eq.trans (by rw [← (hI.2.1.1 t (by omega) (by omega)).2 i (by omega) (by omega)]) g2_1_1_1.1.symm), lf_put hI (by omega) (by omega) g1_1_1_1.2 g2_1_1_1.2⟩
      · skip
        have g1_1_1_0 := g1_1_1.1 (by clear h1 h2 g1_1 g2_1 g1_1_1 g2_1_1; first | exact d_1_1 | omega | exact Classical.not_not.mp d_1_1)
        have g2_1_1_0 := g2_1_1.1 (by clear h1 h2 g1_1 g2_1 g1_1_1 g2_1_1; first | exact d_1_1 | omega | exact Classical.not_not.mp d_1_1)
        clear h1 h2 g1_1 g2_1 g1_1_1 g2_1_1
        exact ⟨g1_1_1_0.1.trans g2_1_1_0.1.symm, lf_fd hI (by decide) g1_1_1_0.2 g2_1_1_0.2⟩
    · skip
      have g1_1_0 := g1_1.1 (by clear h1 h2 g1_1 g2_1; first | exact d_1 | omega | exact Classical.not_not.mp d_1)
      have g2_1_0 := g2_1.1 (by clear h1 h2 g1_1 g2_1; first | exact d_1 | omega | exact Classical.not_not.mp d_1)
      clear h1 h2 g1_1 g2_1
      exact ⟨g1_1_0.1.trans g2_1_0.1.symm, lf_fd hI (by decide) g1_1_0.2 g2_1_0.2⟩
  · skip
    have g1_0 := h1.1 (by clear h1 h2; first | exact d | omega | exact Classical.not_not.mp d)
    have g2_0 := h2.1 (by clear h1 h2; first | exact d | omega | exact Classical.not_not.mp d)
    clear h1 h2
    exact ⟨g1_0.1.trans g2_0.1.symm, lf_same hI g1_0.2 g2_0.2⟩
theorem vw_fault {μ μ1 : gf_M} {t q1 : Int} (hI : gf_I μ) (h1 : (¬ (0 ≤ t ∧ t < 4) → q1 = -1 ∧ μ1 = μ) ∧ (0 ≤ t ∧ t < 4 → (μ (15 + 2 * t) 1 = -1 → q1 = -3 ∧ μ1 = gf_fd μ 1) ∧ (μ (15 + 2 * t) 1 ≠ -1 → q1 = (pf_pr (μ (16 + 2 * t)) (μ (15 + 2 * t) 1) 61 0 []).1 ∧ gf_sc μ1 μ))) : gf_vw μ1 μ := by
  have hs := hI.s
  have hd := hI.d
  have hc7 := hI.c7
  by_cases d : 0 ≤ t ∧ t < 4
  · have g1_1 := h1.2 d
    by_cases d_1 : μ (15 + 2 * t) 1 ≠ -1
    · have g1_1_1 := g1_1.2 d_1
      exact gf_vw.of_sc g1_1_1.2
    · skip
      have g1_1_0 := g1_1.1 (by clear h1 g1_1; first | exact d_1 | omega | exact Classical.not_not.mp d_1)
      exact gf_vw.of_fd g1_1_0.2
  · skip
    have g1_0 := h1.1 (by clear h1; first | exact d | omega | exact Classical.not_not.mp d)
    exact gf_vw.of_eq g1_0.2
set_option maxHeartbeats 1000000 in
theorem st_fault {μ μ1 μ2 : gf_M} {t q1 q2 : Int} (hI : gf_I μ) (h1 : (¬ (0 ≤ t ∧ t < 4) → q1 = -1 ∧ μ1 = μ) ∧ (0 ≤ t ∧ t < 4 → (μ (15 + 2 * t) 1 = -1 → q1 = -3 ∧ μ1 = gf_fd μ 1) ∧ (μ (15 + 2 * t) 1 ≠ -1 → q1 = (pf_pr (μ (16 + 2 * t)) (μ (15 + 2 * t) 1) 61 0 []).1 ∧ gf_sc μ1 μ))) (h2 : (¬ (0 ≤ t ∧ t < 4) → q2 = -1 ∧ μ2 = μ1) ∧ (0 ≤ t ∧ t < 4 → (μ1 68 t = -1 → q2 = -3 ∧ μ2 = gm_fd μ1 1) ∧ (μ1 68 t ≠ -1 → q2 = (pf_pr (fun j => μ1 69 (60 * t + j)) (μ1 68 t) 61 0 []).1 ∧ gm_sc μ2 μ1))) : q1 = q2 ∧ gf_I μ2 := by
  have v := vw_fault hI h1
  have hc := hI.c
  have hn := hI.n
  have hdn := hI.dn
  have hs := hI.s
  have hd := hI.d
  have hc7 := hI.c7
  have k65 := v.k (a := 65) (by decide)
  have k66 := v.k (a := 66) (by decide)
  have k67 := v.k (a := 67) (by decide)
  have k68 := v.k (a := 68) (by decide)
  have k69 := v.k (a := 69) (by decide)
  have k70 := v.k (a := 70) (by decide)
  have k71 := v.k (a := 71) (by decide)
  have k74 := v.k (a := 74) (by decide)
  have k75 := v.k (a := 75) (by decide)
  try simp only [k65, k66, k67, k68, k69, k70, k71, k74, k75, v.x, v.rk, v.uS, v.uX, v.ua, v.og, v.cvd, v.row, v.U, v.W, v.leaf, v.fw, v.ff, v.cn, v.dg] at h2
  clear k65 k66 k67 k68 k69 k70 k74 k75
  by_cases d : 0 ≤ t ∧ t < 4
  · have g1_1 := h1.2 (by clear h1 h2; first | exact d | omega | exact Classical.not_not.mp d)
    have g2_1 := h2.2 d
    have et := hI.tsz (t := t) (by clear h1 h2 g1_1 g2_1; omega)
    have eT := hI.ts gf_vw.rf t (by clear h1 h2 g1_1 g2_1; omega) (by clear h1 h2 g1_1 g2_1; omega)
    by_cases d_1 : μ 68 t ≠ -1
    · have g1_1_1 := g1_1.2 (by clear h1 h2 g1_1 g2_1; first | exact d_1 | omega | exact Classical.not_not.mp d_1)
      have g2_1_1 := g2_1.2 d_1
      clear h1 h2 g1_1 g2_1
      exact ⟨g1_1_1.1.trans (Eq.trans (congrArg Prod.fst (hI.PR (t := t) (by omega))) g2_1_1.1.symm), lf_sc hI g1_1_1.2 g2_1_1.2⟩
    · skip
      have g1_1_0 := g1_1.1 (by clear h1 h2 g1_1 g2_1; first | exact d_1 | omega | exact Classical.not_not.mp d_1)
      have g2_1_0 := g2_1.1 (by clear h1 h2 g1_1 g2_1; first | exact d_1 | omega | exact Classical.not_not.mp d_1)
      clear h1 h2 g1_1 g2_1
      exact ⟨g1_1_0.1.trans g2_1_0.1.symm, lf_fd hI (by decide) g1_1_0.2 g2_1_0.2⟩
  · skip
    have g1_0 := h1.1 (by clear h1 h2; first | exact d | omega | exact Classical.not_not.mp d)
    have g2_0 := h2.1 (by clear h1 h2; first | exact d | omega | exact Classical.not_not.mp d)
    clear h1 h2
    exact ⟨g1_0.1.trans g2_0.1.symm, lf_same hI g1_0.2 g2_0.2⟩
theorem vw_house {μ μ1 : gf_M} {t q1 : Int} (hI : gf_I μ) (h1 : (¬ (0 ≤ t ∧ t < 4) → q1 = -1 ∧ μ1 = μ) ∧ (0 ≤ t ∧ t < 4 → (μ (15 + 2 * t) 1 = -1 → q1 = -3 ∧ μ1 = gf_fd μ 1) ∧ (μ (15 + 2 * t) 1 ≠ -1 → ((pf_PR μ t).1 ≠ -9 → q1 = -4 ∧ gf_sc μ1 μ) ∧ ((pf_PR μ t).1 = -9 → q1 = ((pf_PR μ t).2.length : Int) ∧ (2 ≤ q1 ∧ q1 ≤ 7) ∧ μ1 0 3 = q1 ∧ gf_hold μ1 24 (pf_PR μ t).2 ∧ μ1 41 1 = 0 ∧ μ1 41 2 = 0 ∧ (∀ k : Int, 0 ≤ k → k < 3 → μ1 (32 + 3 * k) 4 = 0) ∧ ∀ a b : Int, ¬ (44 ≤ a ∧ a ≤ 63) → ¬ (a = 0 ∧ b = 3) → ¬ (24 ≤ a ∧ a ≤ 30) → ¬ (a = 41 ∧ (b = 1 ∨ b = 2)) → ¬ (b = 4 ∧ (a = 32 ∨ a = 35 ∨ a = 38)) → μ1 a b = μ a b)))) : gf_vw μ1 μ := by
  have hs := hI.s
  have hd := hI.d
  have hc7 := hI.c7
  by_cases d : 0 ≤ t ∧ t < 4
  · have g1_1 := h1.2 d
    by_cases d_1 : μ (15 + 2 * t) 1 ≠ -1
    · have g1_1_1 := g1_1.2 d_1
      by_cases d_1_1 : (pf_PR μ t).1 = -9
      · have g1_1_1_1 := g1_1_1.2 d_1_1
        exact fun a b ha => g1_1_1_1.2.2.2.2.2.2.2 a b (by omega) (by omega) (by omega) (by omega) (by omega)
      · skip
        have g1_1_1_0 := g1_1_1.1 (by clear h1 g1_1 g1_1_1; first | exact d_1_1 | omega | exact Classical.not_not.mp d_1_1)
        exact gf_vw.of_sc g1_1_1_0.2
    · skip
      have g1_1_0 := g1_1.1 (by clear h1 g1_1; first | exact d_1 | omega | exact Classical.not_not.mp d_1)
      exact gf_vw.of_fd g1_1_0.2
  · skip
    have g1_0 := h1.1 (by clear h1; first | exact d | omega | exact Classical.not_not.mp d)
    exact gf_vw.of_eq g1_0.2
set_option maxHeartbeats 1000000 in
theorem st_house {μ μ1 μ2 : gf_M} {t q1 q2 : Int} (hI : gf_I μ) (h1 : (¬ (0 ≤ t ∧ t < 4) → q1 = -1 ∧ μ1 = μ) ∧ (0 ≤ t ∧ t < 4 → (μ (15 + 2 * t) 1 = -1 → q1 = -3 ∧ μ1 = gf_fd μ 1) ∧ (μ (15 + 2 * t) 1 ≠ -1 → ((pf_PR μ t).1 ≠ -9 → q1 = -4 ∧ gf_sc μ1 μ) ∧ ((pf_PR μ t).1 = -9 → q1 = ((pf_PR μ t).2.length : Int) ∧ (2 ≤ q1 ∧ q1 ≤ 7) ∧ μ1 0 3 = q1 ∧ gf_hold μ1 24 (pf_PR μ t).2 ∧ μ1 41 1 = 0 ∧ μ1 41 2 = 0 ∧ (∀ k : Int, 0 ≤ k → k < 3 → μ1 (32 + 3 * k) 4 = 0) ∧ ∀ a b : Int, ¬ (44 ≤ a ∧ a ≤ 63) → ¬ (a = 0 ∧ b = 3) → ¬ (24 ≤ a ∧ a ≤ 30) → ¬ (a = 41 ∧ (b = 1 ∨ b = 2)) → ¬ (b = 4 ∧ (a = 32 ∨ a = 35 ∨ a = 38)) → μ1 a b = μ a b)))) (h2 : (¬ (0 ≤ t ∧ t < 4) → q2 = -1 ∧ μ2 = μ1) ∧ (0 ≤ t ∧ t < 4 → (μ1 68 t = -1 → q2 = -3 ∧ μ2 = gm_fd μ1 1) ∧ (μ1 68 t ≠ -1 → ((pf_pr (fun j => μ1 69 (60 * t + j)) (μ1 68 t) 61 0 []).1 ≠ -9 → q2 = -4 ∧ gm_sc μ2 μ1) ∧ ((pf_pr (fun j => μ1 69 (60 * t + j)) (μ1 68 t) 61 0 []).1 = -9 → q2 = ((pf_pr (fun j => μ1 69 (60 * t + j)) (μ1 68 t) 61 0 []).2.length : Int) ∧ μ2 71 0 = q2 ∧ gm_hold μ2 71 (pf_pr (fun j => μ1 69 (60 * t + j)) (μ1 68 t) 61 0 []).2 ∧ μ2 71 1 = 0 ∧ μ2 71 2 = 0 ∧ (∀ k : Int, 0 ≤ k → k < 3 → μ2 74 k = -1) ∧ ∀ a b : Int, ¬ gm_scr a b → ¬ (a = 71 ∧ 0 ≤ b ∧ b < 24) → ¬ (a = 74 ∧ 0 ≤ b ∧ b < 3) → μ2 a b = μ1 a b)))) : q1 = q2 ∧ gf_I μ2 := by
  have v := vw_house hI h1
  have hc := hI.c
  have hn := hI.n
  have hdn := hI.dn
  have hs := hI.s
  have hd := hI.d
  have hc7 := hI.c7
  have k65 := v.k (a := 65) (by decide)
  have k66 := v.k (a := 66) (by decide)
  have k67 := v.k (a := 67) (by decide)
  have k68 := v.k (a := 68) (by decide)
  have k69 := v.k (a := 69) (by decide)
  have k70 := v.k (a := 70) (by decide)
  have k71 := v.k (a := 71) (by decide)
  have k74 := v.k (a := 74) (by decide)
  have k75 := v.k (a := 75) (by decide)
  try simp only [k65, k66, k67, k68, k69, k70, k71, k74, k75, v.x, v.rk, v.uS, v.uX, v.ua, v.og, v.cvd, v.row, v.U, v.W, v.leaf, v.fw, v.ff, v.cn, v.dg] at h2
  clear k65 k66 k67 k68 k69 k70 k74 k75
  by_cases d : 0 ≤ t ∧ t < 4
  · have g1_1 := h1.2 (by clear h1 h2; first | exact d | omega | exact Classical.not_not.mp d)
    have g2_1 := h2.2 d
    have et := hI.tsz (t := t) (by clear h1 h2 g1_1 g2_1; omega)
    have eT := hI.ts gf_vw.rf t (by clear h1 h2 g1_1 g2_1; omega) (by clear h1 h2 g1_1 g2_1; omega)
    by_cases d_1 : μ 68 t ≠ -1
    · have g1_1_1 := g1_1.2 (by clear h1 h2 g1_1 g2_1; first | exact d_1 | omega | exact Classical.not_not.mp d_1)
      have g2_1_1 := g2_1.2 d_1
      rw [hI.PR (t := t) (by clear h1 h2 g1_1 g2_1 g1_1_1 g2_1_1; omega)] at g1_1_1
      by_cases d_1_1 : (pf_pr (fun j => μ 69 (60 * t + j)) (μ 68 t) 61 0 []).1 = -9
      · have g1_1_1_1 := g1_1_1.2 (by clear h1 h2 g1_1 g2_1 g1_1_1 g2_1_1; first | exact d_1_1 | omega | exact Classical.not_not.mp d_1_1)
        have g2_1_1_1 := g2_1_1.2 d_1_1
        clear h1 h2 g1_1 g2_1 g1_1_1 g2_1_1
        obtain ⟨a0, aR, a1, a2, a3, a4, a5, a6⟩ := g1_1_1_1
        obtain ⟨b0, b1, b2, b3, b4, b5, b6⟩ := g2_1_1_1
        exact ⟨a0.trans b0.symm, lf_house hI (pf_pr_ok (by omega) 61 0 [] (by decide) (fun q h => absurd h List.not_mem_nil)) (by omega) (a1.trans a0) a2 a3 a4 a5 a6 (b1.trans b0) b2 b3 b4 b5 b6⟩
      · skip
        have g1_1_1_0 := g1_1_1.1 (by clear h1 h2 g1_1 g2_1 g1_1_1 g2_1_1; first | exact d_1_1 | omega | exact Classical.not_not.mp d_1_1)
        have g2_1_1_0 := g2_1_1.1 (by clear h1 h2 g1_1 g2_1 g1_1_1 g2_1_1; first | exact d_1_1 | omega | exact Classical.not_not.mp d_1_1)
        clear h1 h2 g1_1 g2_1 g1_1_1 g2_1_1
        exact ⟨g1_1_1_0.1.trans g2_1_1_0.1.symm, lf_sc hI g1_1_1_0.2 g2_1_1_0.2⟩
    · skip
      have g1_1_0 := g1_1.1 (by clear h1 h2 g1_1 g2_1; first | exact d_1 | omega | exact Classical.not_not.mp d_1)
      have g2_1_0 := g2_1.1 (by clear h1 h2 g1_1 g2_1; first | exact d_1 | omega | exact Classical.not_not.mp d_1)
      clear h1 h2 g1_1 g2_1
      exact ⟨g1_1_0.1.trans g2_1_0.1.symm, lf_fd hI (by decide) g1_1_0.2 g2_1_0.2⟩
  · skip
    have g1_0 := h1.1 (by clear h1 h2; first | exact d | omega | exact Classical.not_not.mp d)
    have g2_0 := h2.1 (by clear h1 h2; first | exact d | omega | exact Classical.not_not.mp d)
    clear h1 h2
    exact ⟨g1_0.1.trans g2_0.1.symm, lf_same hI g1_0.2 g2_0.2⟩
theorem vw_guard {μ μ1 : gf_M} {i w q1 : Int} (hI : gf_I μ) (h1 : (¬ (0 ≤ i ∧ i < μ 0 3 ∧ 0 ≤ w ∧ w < 5) → q1 = -1 ∧ μ1 = μ) ∧ (0 ≤ i ∧ i < μ 0 3 ∧ 0 ≤ w ∧ w < 5 → q1 = 1 ∧ gf_sc μ1 (gf_tl μ (pf_og μ i w)))) : gf_vw μ1 μ := by
  have hs := hI.s
  have hd := hI.d
  have hc7 := hI.c7
  by_cases d : 0 ≤ i ∧ i < μ 0 3 ∧ 0 ≤ w ∧ w < 5
  · have g1_1 := h1.2 d
    exact gf_vw.of_sctl g1_1.2
  · skip
    have g1_0 := h1.1 (by clear h1; first | exact d | omega | exact Classical.not_not.mp d)
    exact gf_vw.of_eq g1_0.2
set_option maxHeartbeats 1000000 in
theorem st_guard {μ μ1 μ2 : gf_M} {i w q1 q2 : Int} (hI : gf_I μ) (h1 : (¬ (0 ≤ i ∧ i < μ 0 3 ∧ 0 ≤ w ∧ w < 5) → q1 = -1 ∧ μ1 = μ) ∧ (0 ≤ i ∧ i < μ 0 3 ∧ 0 ≤ w ∧ w < 5 → q1 = 1 ∧ gf_sc μ1 (gf_tl μ (pf_og μ i w)))) (h2 : (¬ (0 ≤ i ∧ i < μ1 71 0 ∧ 0 ≤ w ∧ w < 5) → q2 = -1 ∧ μ2 = μ1) ∧ (0 ≤ i ∧ i < μ1 71 0 ∧ 0 ≤ w ∧ w < 5 → q2 = 1 ∧ gm_sc μ2 (gm_tl μ1 (gm_og μ1 i w)))) : q1 = q2 ∧ gf_I μ2 := by
  have v := vw_guard hI h1
  have hc := hI.c
  have hn := hI.n
  have hdn := hI.dn
  have hs := hI.s
  have hd := hI.d
  have hc7 := hI.c7
  have k65 := v.k (a := 65) (by decide)
  have k66 := v.k (a := 66) (by decide)
  have k67 := v.k (a := 67) (by decide)
  have k68 := v.k (a := 68) (by decide)
  have k69 := v.k (a := 69) (by decide)
  have k70 := v.k (a := 70) (by decide)
  have k71 := v.k (a := 71) (by decide)
  have k74 := v.k (a := 74) (by decide)
  have k75 := v.k (a := 75) (by decide)
  try simp only [k65, k66, k67, k68, k69, k70, k71, k74, k75, v.x, v.rk, v.uS, v.uX, v.ua, v.og, v.cvd, v.row, v.U, v.W, v.leaf, v.fw, v.ff, v.cn, v.dg] at h2
  clear k65 k66 k67 k68 k69 k70 k74 k75
  by_cases d : 0 ≤ i ∧ i < μ 71 0 ∧ 0 ≤ w ∧ w < 5
  · have g1_1 := h1.2 (by clear h1 h2; first | exact d | omega | exact Classical.not_not.mp d)
    have g2_1 := h2.2 d
    have hi : 0 ≤ i ∧ i < μ 0 3 := by clear h1 h2 g1_1 g2_1; omega
    clear h1 h2
    exact ⟨g1_1.1.trans g2_1.1.symm, lf_tl hI g1_1.2 g2_1.2 (hI.og hi w)⟩
  · skip
    have g1_0 := h1.1 (by clear h1 h2; first | exact d | omega | exact Classical.not_not.mp d)
    have g2_0 := h2.1 (by clear h1 h2; first | exact d | omega | exact Classical.not_not.mp d)
    clear h1 h2
    exact ⟨g1_0.1.trans g2_0.1.symm, lf_same hI g1_0.2 g2_0.2⟩
theorem vw_mark {μ μ1 : gf_M} {i w q1 : Int} (hI : gf_I μ) (h1 : (¬ (0 ≤ i ∧ i < μ 0 3 ∧ 1 ≤ w ∧ w ≤ 5) → q1 = -1 ∧ μ1 = μ) ∧ (0 ≤ i ∧ i < μ 0 3 ∧ 1 ≤ w ∧ w ≤ 5 → (¬ pf_is (μ (24 + i) 0) w → q1 = -3 ∧ μ1 = gf_fd μ 3) ∧ (pf_is (μ (24 + i) 0) w → q1 = gf_abs (pf_reck (μ (24 + i) 0) (μ (24 + i) 1) (μ (24 + i) 2) (μ 42) (μ 41 1) - pf_reck (([-1, 0, 0, 0, 1, 2] : List Int).getD w.toNat 0) (μ (24 + i) 1) (μ (24 + i) 2) (μ 42) (μ 41 1)) ∧ gf_sc μ1 μ))) : gf_vw μ1 μ := by
  have hs := hI.s
  have hd := hI.d
  have hc7 := hI.c7
  by_cases d : 0 ≤ i ∧ i < μ 0 3 ∧ 1 ≤ w ∧ w ≤ 5
  · have g1_1 := h1.2 d
    by_cases d_1 : pf_is (μ (24 + i) 0) w
    · have g1_1_1 := g1_1.2 d_1
      exact gf_vw.of_sc g1_1_1.2
    · skip
      have g1_1_0 := g1_1.1 (by clear h1 g1_1; first | exact d_1 | omega | exact Classical.not_not.mp d_1)
      exact gf_vw.of_fd g1_1_0.2
  · skip
    have g1_0 := h1.1 (by clear h1; first | exact d | omega | exact Classical.not_not.mp d)
    exact gf_vw.of_eq g1_0.2
set_option maxHeartbeats 1000000 in
theorem st_mark {μ μ1 μ2 : gf_M} {i w q1 q2 : Int} (hI : gf_I μ) (h1 : (¬ (0 ≤ i ∧ i < μ 0 3 ∧ 1 ≤ w ∧ w ≤ 5) → q1 = -1 ∧ μ1 = μ) ∧ (0 ≤ i ∧ i < μ 0 3 ∧ 1 ≤ w ∧ w ≤ 5 → (¬ pf_is (μ (24 + i) 0) w → q1 = -3 ∧ μ1 = gf_fd μ 3) ∧ (pf_is (μ (24 + i) 0) w → q1 = gf_abs (pf_reck (μ (24 + i) 0) (μ (24 + i) 1) (μ (24 + i) 2) (μ 42) (μ 41 1) - pf_reck (([-1, 0, 0, 0, 1, 2] : List Int).getD w.toNat 0) (μ (24 + i) 1) (μ (24 + i) 2) (μ 42) (μ 41 1)) ∧ gf_sc μ1 μ))) (h2 : (¬ (0 ≤ i ∧ i < μ1 71 0 ∧ 1 ≤ w ∧ w ≤ 5) → q2 = -1 ∧ μ2 = μ1) ∧ (0 ≤ i ∧ i < μ1 71 0 ∧ 1 ≤ w ∧ w ≤ 5 → (¬ pf_is (μ1 71 (3 + i)) w → q2 = -3 ∧ μ2 = gm_fd μ1 3) ∧ (pf_is (μ1 71 (3 + i)) w → q2 = gf_abs (gm_rk μ1 i (gm_x μ1) (μ1 71 1) - pf_reck (([-1, 0, 0, 0, 1, 2] : List Int).getD w.toNat 0) (μ1 71 (10 + i)) (μ1 71 (17 + i)) (gm_x μ1) (μ1 71 1)) ∧ gm_sc μ2 μ1))) : q1 = q2 ∧ gf_I μ2 := by
  have v := vw_mark hI h1
  have hc := hI.c
  have hn := hI.n
  have hdn := hI.dn
  have hs := hI.s
  have hd := hI.d
  have hc7 := hI.c7
  have k65 := v.k (a := 65) (by decide)
  have k66 := v.k (a := 66) (by decide)
  have k67 := v.k (a := 67) (by decide)
  have k68 := v.k (a := 68) (by decide)
  have k69 := v.k (a := 69) (by decide)
  have k70 := v.k (a := 70) (by decide)
  have k71 := v.k (a := 71) (by decide)
  have k74 := v.k (a := 74) (by decide)
  have k75 := v.k (a := 75) (by decide)
  try simp only [k65, k66, k67, k68, k69, k70, k71, k74, k75, v.x, v.rk, v.uS, v.uX, v.ua, v.og, v.cvd, v.row, v.U, v.W, v.leaf, v.fw, v.ff, v.cn, v.dg] at h2
  clear k65 k66 k67 k68 k69 k70 k74 k75
  by_cases d : 0 ≤ i ∧ i < μ 71 0 ∧ 1 ≤ w ∧ w ≤ 5
  · have g1_1 := h1.2 (by clear h1 h2; first | exact d | omega | exact Classical.not_not.mp d)
    have g2_1 := h2.2 d
    have hi : 0 ≤ i ∧ i < μ 0 3 := by clear h1 h2 g1_1 g2_1; omega
    rw [hI.rkx hi, hI.k0 hi, hI.k1 hi, hI.k2 hi, ← hn] at g1_1
    by_cases d_1 : pf_is (μ 71 (3 + i)) w
    · have g1_1_1 := g1_1.2 (by clear h1 h2 g1_1 g2_1; first | exact d_1 | omega | exact Classical.not_not.mp d_1)
      have g2_1_1 := g2_1.2 d_1
      clear h1 h2 g1_1 g2_1
      exact ⟨g1_1_1.1.trans (Eq.trans (by rw [pf_reck_congr (f := μ 42) (g := gm_x μ) (size := μ 71 1) (fun j a b => (hI.x j a b).symm)]) g2_1_1.1.symm), lf_sc hI g1_1_1.2 g2_1_1.2⟩
    · skip
      have g1_1_0 := g1_1.1 (by clear h1 h2 g1_1 g2_1; first | exact d_1 | omega | exact Classical.not_not.mp d_1)
      have g2_1_0 := g2_1.1 (by clear h1 h2 g1_1 g2_1; first | exact d_1 | omega | exact Classical.not_not.mp d_1)
      clear h1 h2 g1_1 g2_1
      exact ⟨g1_1_0.1.trans g2_1_0.1.symm, lf_fd hI (by decide) g1_1_0.2 g2_1_0.2⟩
  · skip
    have g1_0 := h1.1 (by clear h1 h2; first | exact d | omega | exact Classical.not_not.mp d)
    have g2_0 := h2.1 (by clear h1 h2; first | exact d | omega | exact Classical.not_not.mp d)
    clear h1 h2
    exact ⟨g1_0.1.trans g2_0.1.symm, lf_same hI g1_0.2 g2_0.2⟩
theorem vw_figure {μ μ1 : gf_M} {k q1 : Int} (hI : gf_I μ) (h1 : ((¬ (0 ≤ k ∧ k < μ 41 1) → q1 = -1) ∧ (0 ≤ k ∧ k < μ 41 1 → q1 = μ 42 k)) ∧ μ1 = μ) : gf_vw μ1 μ := by
  exact gf_vw.of_eq h1.2
set_option maxHeartbeats 1000000 in
theorem st_figure {μ μ1 μ2 : gf_M} {k q1 q2 : Int} (hI : gf_I μ) (h1 : ((¬ (0 ≤ k ∧ k < μ 41 1) → q1 = -1) ∧ (0 ≤ k ∧ k < μ 41 1 → q1 = μ 42 k)) ∧ μ1 = μ) (h2 : ((¬ (0 ≤ k ∧ k < μ1 71 1) → q2 = -1) ∧ (0 ≤ k ∧ k < μ1 71 1 → q2 = μ1 71 (24 + k))) ∧ μ2 = μ1) : q1 = q2 ∧ gf_I μ2 := by
  have v := vw_figure hI h1
  have hc := hI.c
  have hn := hI.n
  have hdn := hI.dn
  have hs := hI.s
  have hd := hI.d
  have hc7 := hI.c7
  have k65 := v.k (a := 65) (by decide)
  have k66 := v.k (a := 66) (by decide)
  have k67 := v.k (a := 67) (by decide)
  have k68 := v.k (a := 68) (by decide)
  have k69 := v.k (a := 69) (by decide)
  have k70 := v.k (a := 70) (by decide)
  have k71 := v.k (a := 71) (by decide)
  have k74 := v.k (a := 74) (by decide)
  have k75 := v.k (a := 75) (by decide)
  try simp only [k65, k66, k67, k68, k69, k70, k71, k74, k75, v.x, v.rk, v.uS, v.uX, v.ua, v.og, v.cvd, v.row, v.U, v.W, v.leaf, v.fw, v.ff, v.cn, v.dg] at h2
  clear k65 k66 k67 k68 k69 k70 k74 k75
  by_cases d : 0 ≤ k ∧ k < μ 41 1
  · have a := h1.1.2 d
    have b := h2.1.2 (by rw [hn]; exact d)
    exact ⟨a.trans (((hI.x k d.1 (by rw [hn]; exact d.2)).symm).trans b.symm), lf_same hI h1.2 h2.2⟩
  · exact ⟨(h1.1.1 d).trans (h2.1.1 (by rw [hn]; exact d)).symm, lf_same hI h1.2 h2.2⟩
theorem vw_add {μ μ1 : gf_M} {f q1 : Int} (hI : gf_I μ) (h1 : (¬ (0 ≤ f ∧ f < 10) → q1 = -1 ∧ μ1 = μ) ∧ (0 ≤ f ∧ f < 10 → (μ 0 3 = 0 ∨ μ 41 1 = 8 → q1 = -4 ∧ μ1 = μ) ∧ (μ 0 3 ≠ 0 ∧ μ 41 1 < 8 → (μ 41 2 = 40 → q1 = -2 ∧ μ1 = μ) ∧ (μ 41 2 < 40 → q1 = μ 41 1 + 1 ∧ μ1 = gf_up (gf_up (gf_rmb μ) 42 (μ 41 1) f) 41 1 (μ 41 1 + 1))))) : gf_vw μ1 μ := by
  have hs := hI.s
  have hd := hI.d
  have hc7 := hI.c7
  by_cases d : 0 ≤ f ∧ f < 10
  · have g1_1 := h1.2 d
    by_cases d_1 : μ 0 3 ≠ 0 ∧ μ 41 1 < 8
    · have g1_1_1 := g1_1.2 d_1
      by_cases d_1_1 : μ 41 2 < 40
      · have g1_1_1_1 := g1_1_1.2 d_1_1
        exact vs_two (cf_add g1_1_1_1.2)
      · skip
        have g1_1_1_0 := g1_1_1.1 (by clear h1 g1_1 g1_1_1; first | exact d_1_1 | omega | exact Classical.not_not.mp d_1_1)
        exact gf_vw.of_eq g1_1_1_0.2
    · skip
      have g1_1_0 := g1_1.1 (by clear h1 g1_1; first | exact d_1 | omega | exact Classical.not_not.mp d_1)
      exact gf_vw.of_eq g1_1_0.2
  · skip
    have g1_0 := h1.1 (by clear h1; first | exact d | omega | exact Classical.not_not.mp d)
    exact gf_vw.of_eq g1_0.2
set_option maxHeartbeats 1000000 in
theorem st_add {μ μ1 μ2 : gf_M} {f q1 q2 : Int} (hI : gf_I μ) (h1 : (¬ (0 ≤ f ∧ f < 10) → q1 = -1 ∧ μ1 = μ) ∧ (0 ≤ f ∧ f < 10 → (μ 0 3 = 0 ∨ μ 41 1 = 8 → q1 = -4 ∧ μ1 = μ) ∧ (μ 0 3 ≠ 0 ∧ μ 41 1 < 8 → (μ 41 2 = 40 → q1 = -2 ∧ μ1 = μ) ∧ (μ 41 2 < 40 → q1 = μ 41 1 + 1 ∧ μ1 = gf_up (gf_up (gf_rmb μ) 42 (μ 41 1) f) 41 1 (μ 41 1 + 1))))) (h2 : (¬ (0 ≤ f ∧ f < 10) → q2 = -1 ∧ μ2 = μ1) ∧ (0 ≤ f ∧ f < 10 → (μ1 71 0 = 0 ∨ μ1 71 1 = 8 → q2 = -4 ∧ μ2 = μ1) ∧ (μ1 71 0 ≠ 0 ∧ μ1 71 1 < 8 → (μ1 71 2 = 40 → q2 = -2 ∧ μ2 = μ1) ∧ (μ1 71 2 < 40 → q2 = μ1 71 1 + 1 ∧ μ2 = gm_app (gm_nt μ1) f)))) : q1 = q2 ∧ gf_I μ2 := by
  have v := vw_add hI h1
  have hc := hI.c
  have hn := hI.n
  have hdn := hI.dn
  have hs := hI.s
  have hd := hI.d
  have hc7 := hI.c7
  have k65 := v.k (a := 65) (by decide)
  have k66 := v.k (a := 66) (by decide)
  have k67 := v.k (a := 67) (by decide)
  have k68 := v.k (a := 68) (by decide)
  have k69 := v.k (a := 69) (by decide)
  have k70 := v.k (a := 70) (by decide)
  have k71 := v.k (a := 71) (by decide)
  have k74 := v.k (a := 74) (by decide)
  have k75 := v.k (a := 75) (by decide)
  try simp only [k65, k66, k67, k68, k69, k70, k71, k74, k75, v.x, v.rk, v.uS, v.uX, v.ua, v.og, v.cvd, v.row, v.U, v.W, v.leaf, v.fw, v.ff, v.cn, v.dg] at h2
  clear k65 k66 k67 k68 k69 k70 k74 k75
  by_cases d : 0 ≤ f ∧ f < 10
  · have g1_1 := h1.2 (by clear h1 h2; first | exact d | omega | exact Classical.not_not.mp d)
    have g2_1 := h2.2 d
    by_cases d_1 : μ 71 0 ≠ 0 ∧ μ 71 1 < 8
    · have g1_1_1 := g1_1.2 (by clear h1 h2 g1_1 g2_1; first | exact d_1 | omega | exact Classical.not_not.mp d_1)
      have g2_1_1 := g2_1.2 d_1
      by_cases d_1_1 : μ 71 2 < 40
      · have g1_1_1_1 := g1_1_1.2 (by clear h1 h2 g1_1 g2_1 g1_1_1 g2_1_1; first | exact d_1_1 | omega | exact Classical.not_not.mp d_1_1)
        have g2_1_1_1 := g2_1_1.2 d_1_1
        clear h1 h2 g1_1 g2_1 g1_1_1 g2_1_1
        exact ⟨g1_1_1_1.1.trans (Eq.trans (by rw [hn]) g2_1_1_1.1.symm), lf_add hI (by omega) (by omega) (by omega) g1_1_1_1.2 g2_1_1_1.2⟩
      · skip
        have g1_1_1_0 := g1_1_1.1 (by clear h1 h2 g1_1 g2_1 g1_1_1 g2_1_1; first | exact d_1_1 | omega | exact Classical.not_not.mp d_1_1)
        have g2_1_1_0 := g2_1_1.1 (by clear h1 h2 g1_1 g2_1 g1_1_1 g2_1_1; first | exact d_1_1 | omega | exact Classical.not_not.mp d_1_1)
        clear h1 h2 g1_1 g2_1 g1_1_1 g2_1_1
        exact ⟨g1_1_1_0.1.trans g2_1_1_0.1.symm, lf_same hI g1_1_1_0.2 g2_1_1_0.2⟩
    · skip
      have g1_1_0 := g1_1.1 (by clear h1 h2 g1_1 g2_1; first | exact d_1 | omega | exact Classical.not_not.mp d_1)
      have g2_1_0 := g2_1.1 (by clear h1 h2 g1_1 g2_1; first | exact d_1 | omega | exact Classical.not_not.mp d_1)
      clear h1 h2 g1_1 g2_1
      exact ⟨g1_1_0.1.trans g2_1_0.1.symm, lf_same hI g1_1_0.2 g2_1_0.2⟩
  · skip
    have g1_0 := h1.1 (by clear h1 h2; first | exact d | omega | exact Classical.not_not.mp d)
    have g2_0 := h2.1 (by clear h1 h2; first | exact d | omega | exact Classical.not_not.mp d)
    clear h1 h2
    exact ⟨g1_0.1.trans g2_0.1.symm, lf_same hI g1_0.2 g2_0.2⟩
theorem vw_drop {μ μ1 : gf_M} {q1 : Int} (hI : gf_I μ) (h1 : (μ 41 1 = 0 → q1 = -4 ∧ μ1 = μ) ∧ (μ 41 1 ≠ 0 → (μ 41 2 = 40 → q1 = -2 ∧ μ1 = μ) ∧ (μ 41 2 < 40 → q1 = μ 42 (μ 41 1 - 1) ∧ μ1 = gf_up (gf_rmb μ) 41 1 (μ 41 1 - 1)))) : gf_vw μ1 μ := by
  have hs := hI.s
  have hd := hI.d
  have hc7 := hI.c7
  by_cases d : μ 41 1 ≠ 0
  · have g1_1 := h1.2 d
    by_cases d_1 : μ 41 2 < 40
    · have g1_1_1 := g1_1.2 d_1
      exact vs_two (cf_drop g1_1_1.2)
    · skip
      have g1_1_0 := g1_1.1 (by clear h1 g1_1; first | exact d_1 | omega | exact Classical.not_not.mp d_1)
      exact gf_vw.of_eq g1_1_0.2
  · skip
    have g1_0 := h1.1 (by clear h1; first | exact d | omega | exact Classical.not_not.mp d)
    exact gf_vw.of_eq g1_0.2
set_option maxHeartbeats 1000000 in
theorem st_drop {μ μ1 μ2 : gf_M} {q1 q2 : Int} (hI : gf_I μ) (h1 : (μ 41 1 = 0 → q1 = -4 ∧ μ1 = μ) ∧ (μ 41 1 ≠ 0 → (μ 41 2 = 40 → q1 = -2 ∧ μ1 = μ) ∧ (μ 41 2 < 40 → q1 = μ 42 (μ 41 1 - 1) ∧ μ1 = gf_up (gf_rmb μ) 41 1 (μ 41 1 - 1)))) (h2 : (μ1 71 1 = 0 → q2 = -4 ∧ μ2 = μ1) ∧ (μ1 71 1 ≠ 0 → (μ1 71 2 = 40 → q2 = -2 ∧ μ2 = μ1) ∧ (μ1 71 2 < 40 → q2 = μ1 71 (24 + (μ1 71 1 - 1)) ∧ μ2 = gm_off (gm_nt μ1)))) : q1 = q2 ∧ gf_I μ2 := by
  have v := vw_drop hI h1
  have hc := hI.c
  have hn := hI.n
  have hdn := hI.dn
  have hs := hI.s
  have hd := hI.d
  have hc7 := hI.c7
  have k65 := v.k (a := 65) (by decide)
  have k66 := v.k (a := 66) (by decide)
  have k67 := v.k (a := 67) (by decide)
  have k68 := v.k (a := 68) (by decide)
  have k69 := v.k (a := 69) (by decide)
  have k70 := v.k (a := 70) (by decide)
  have k71 := v.k (a := 71) (by decide)
  have k74 := v.k (a := 74) (by decide)
  have k75 := v.k (a := 75) (by decide)
  try simp only [k65, k66, k67, k68, k69, k70, k71, k74, k75, v.x, v.rk, v.uS, v.uX, v.ua, v.og, v.cvd, v.row, v.U, v.W, v.leaf, v.fw, v.ff, v.cn, v.dg] at h2
  clear k65 k66 k67 k68 k69 k70 k74 k75
  by_cases d : μ 71 1 ≠ 0
  · have g1_1 := h1.2 (by clear h1 h2; first | exact d | omega | exact Classical.not_not.mp d)
    have g2_1 := h2.2 d
    by_cases d_1 : μ 71 2 < 40
    · have g1_1_1 := g1_1.2 (by clear h1 h2 g1_1 g2_1; first | exact d_1 | omega | exact Classical.not_not.mp d_1)
      have g2_1_1 := g2_1.2 d_1
      clear h1 h2 g1_1 g2_1
      exact ⟨g1_1_1.1.trans (Eq.trans (by rw [hn]; exact (hI.x _ (by omega) (by omega)).symm) g2_1_1.1.symm), lf_drop hI (by omega) (by omega) g1_1_1.2 g2_1_1.2⟩
    · skip
      have g1_1_0 := g1_1.1 (by clear h1 h2 g1_1 g2_1; first | exact d_1 | omega | exact Classical.not_not.mp d_1)
      have g2_1_0 := g2_1.1 (by clear h1 h2 g1_1 g2_1; first | exact d_1 | omega | exact Classical.not_not.mp d_1)
      clear h1 h2 g1_1 g2_1
      exact ⟨g1_1_0.1.trans g2_1_0.1.symm, lf_same hI g1_1_0.2 g2_1_0.2⟩
  · skip
    have g1_0 := h1.1 (by clear h1 h2; first | exact d | omega | exact Classical.not_not.mp d)
    have g2_0 := h2.1 (by clear h1 h2; first | exact d | omega | exact Classical.not_not.mp d)
    clear h1 h2
    exact ⟨g1_0.1.trans g2_0.1.symm, lf_same hI g1_0.2 g2_0.2⟩
theorem vw_change {μ μ1 : gf_M} {k f q1 : Int} (hI : gf_I μ) (h1 : (¬ (0 ≤ k ∧ k < μ 41 1 ∧ 0 ≤ f ∧ f < 10) → q1 = -1 ∧ μ1 = μ) ∧ (0 ≤ k ∧ k < μ 41 1 ∧ 0 ≤ f ∧ f < 10 → (μ 42 k = f → q1 = -4 ∧ μ1 = μ) ∧ (μ 42 k ≠ f → (μ 41 2 = 40 → q1 = -2 ∧ μ1 = μ) ∧ (μ 41 2 < 40 → q1 = μ 42 k ∧ μ1 = gf_up (gf_rmb μ) 42 k f)))) : gf_vw μ1 μ := by
  have hs := hI.s
  have hd := hI.d
  have hc7 := hI.c7
  by_cases d : 0 ≤ k ∧ k < μ 41 1 ∧ 0 ≤ f ∧ f < 10
  · have g1_1 := h1.2 d
    by_cases d_1 : μ 42 k ≠ f
    · have g1_1_1 := g1_1.2 d_1
      by_cases d_1_1 : μ 41 2 < 40
      · have g1_1_1_1 := g1_1_1.2 d_1_1
        exact vs_two (cf_chg g1_1_1_1.2)
      · skip
        have g1_1_1_0 := g1_1_1.1 (by clear h1 g1_1 g1_1_1; first | exact d_1_1 | omega | exact Classical.not_not.mp d_1_1)
        exact gf_vw.of_eq g1_1_1_0.2
    · skip
      have g1_1_0 := g1_1.1 (by clear h1 g1_1; first | exact d_1 | omega | exact Classical.not_not.mp d_1)
      exact gf_vw.of_eq g1_1_0.2
  · skip
    have g1_0 := h1.1 (by clear h1; first | exact d | omega | exact Classical.not_not.mp d)
    exact gf_vw.of_eq g1_0.2
set_option maxHeartbeats 1000000 in
theorem st_change {μ μ1 μ2 : gf_M} {k f q1 q2 : Int} (hI : gf_I μ) (h1 : (¬ (0 ≤ k ∧ k < μ 41 1 ∧ 0 ≤ f ∧ f < 10) → q1 = -1 ∧ μ1 = μ) ∧ (0 ≤ k ∧ k < μ 41 1 ∧ 0 ≤ f ∧ f < 10 → (μ 42 k = f → q1 = -4 ∧ μ1 = μ) ∧ (μ 42 k ≠ f → (μ 41 2 = 40 → q1 = -2 ∧ μ1 = μ) ∧ (μ 41 2 < 40 → q1 = μ 42 k ∧ μ1 = gf_up (gf_rmb μ) 42 k f)))) (h2 : (¬ (0 ≤ k ∧ k < μ1 71 1 ∧ 0 ≤ f ∧ f < 10) → q2 = -1 ∧ μ2 = μ1) ∧ (0 ≤ k ∧ k < μ1 71 1 ∧ 0 ≤ f ∧ f < 10 → (μ1 71 (24 + k) = f → q2 = -4 ∧ μ2 = μ1) ∧ (μ1 71 (24 + k) ≠ f → (μ1 71 2 = 40 → q2 = -2 ∧ μ2 = μ1) ∧ (μ1 71 2 < 40 → q2 = μ1 71 (24 + k) ∧ μ2 = gf_up (gm_nt μ1) 71 (24 + k) f)))) : q1 = q2 ∧ gf_I μ2 := by
  have v := vw_change hI h1
  have hc := hI.c
  have hn := hI.n
  have hdn := hI.dn
  have hs := hI.s
  have hd := hI.d
  have hc7 := hI.c7
  have k65 := v.k (a := 65) (by decide)
  have k66 := v.k (a := 66) (by decide)
  have k67 := v.k (a := 67) (by decide)
  have k68 := v.k (a := 68) (by decide)
  have k69 := v.k (a := 69) (by decide)
  have k70 := v.k (a := 70) (by decide)
  have k71 := v.k (a := 71) (by decide)
  have k74 := v.k (a := 74) (by decide)
  have k75 := v.k (a := 75) (by decide)
  try simp only [k65, k66, k67, k68, k69, k70, k71, k74, k75, v.x, v.rk, v.uS, v.uX, v.ua, v.og, v.cvd, v.row, v.U, v.W, v.leaf, v.fw, v.ff, v.cn, v.dg] at h2
  clear k65 k66 k67 k68 k69 k70 k74 k75
  by_cases d : 0 ≤ k ∧ k < μ 71 1 ∧ 0 ≤ f ∧ f < 10
  · have g1_1 := h1.2 (by clear h1 h2; first | exact d | omega | exact Classical.not_not.mp d)
    have g2_1 := h2.2 d
    have ek : μ 71 (24 + k) = μ 42 k := hI.x k (by clear h1 h2 g1_1 g2_1; omega) (by clear h1 h2 g1_1 g2_1; omega)
    by_cases d_1 : μ 71 (24 + k) ≠ f
    · have g1_1_1 := g1_1.2 (by clear h1 h2 g1_1 g2_1; first | exact d_1 | omega | exact Classical.not_not.mp d_1)
      have g2_1_1 := g2_1.2 d_1
      by_cases d_1_1 : μ 71 2 < 40
      · have g1_1_1_1 := g1_1_1.2 (by clear h1 h2 g1_1 g2_1 g1_1_1 g2_1_1; first | exact d_1_1 | omega | exact Classical.not_not.mp d_1_1)
        have g2_1_1_1 := g2_1_1.2 d_1_1
        clear h1 h2 g1_1 g2_1 g1_1_1 g2_1_1
        exact ⟨g1_1_1_1.1.trans (Eq.trans (ek.symm) g2_1_1_1.1.symm), lf_chg hI (by omega) (by omega) (by omega) g1_1_1_1.2 g2_1_1_1.2⟩
      · skip
        have g1_1_1_0 := g1_1_1.1 (by clear h1 h2 g1_1 g2_1 g1_1_1 g2_1_1; first | exact d_1_1 | omega | exact Classical.not_not.mp d_1_1)
        have g2_1_1_0 := g2_1_1.1 (by clear h1 h2 g1_1 g2_1 g1_1_1 g2_1_1; first | exact d_1_1 | omega | exact Classical.not_not.mp d_1_1)
        clear h1 h2 g1_1 g2_1 g1_1_1 g2_1_1
        exact ⟨g1_1_1_0.1.trans g2_1_1_0.1.symm, lf_same hI g1_1_1_0.2 g2_1_1_0.2⟩
    · skip
      have g1_1_0 := g1_1.1 (by clear h1 h2 g1_1 g2_1; first | exact d_1 | omega | exact Classical.not_not.mp d_1)
      have g2_1_0 := g2_1.1 (by clear h1 h2 g1_1 g2_1; first | exact d_1 | omega | exact Classical.not_not.mp d_1)
      clear h1 h2 g1_1 g2_1
      exact ⟨g1_1_0.1.trans g2_1_0.1.symm, lf_same hI g1_1_0.2 g2_1_0.2⟩
  · skip
    have g1_0 := h1.1 (by clear h1 h2; first | exact d | omega | exact Classical.not_not.mp d)
    have g2_0 := h2.1 (by clear h1 h2; first | exact d | omega | exact Classical.not_not.mp d)
    clear h1 h2
    exact ⟨g1_0.1.trans g2_0.1.symm, lf_same hI g1_0.2 g2_0.2⟩
theorem vw_swap {μ μ1 : gf_M} {k q1 : Int} (hI : gf_I μ) (h1 : (¬ (0 ≤ k ∧ k < μ 41 1 - 1) → q1 = -1 ∧ μ1 = μ) ∧ (0 ≤ k ∧ k < μ 41 1 - 1 → (μ 41 2 = 40 → q1 = -2 ∧ μ1 = μ) ∧ (μ 41 2 < 40 → q1 = μ 42 (k + 1) ∧ μ1 = gf_up (gf_up (gf_rmb μ) 42 k (μ 42 (k + 1))) 42 (k + 1) (μ 42 k)))) : gf_vw μ1 μ := by
  have hs := hI.s
  have hd := hI.d
  have hc7 := hI.c7
  by_cases d : 0 ≤ k ∧ k < μ 41 1 - 1
  · have g1_1 := h1.2 d
    by_cases d_1 : μ 41 2 < 40
    · have g1_1_1 := g1_1.2 d_1
      exact vs_two (cf_swp g1_1_1.2)
    · skip
      have g1_1_0 := g1_1.1 (by clear h1 g1_1; first | exact d_1 | omega | exact Classical.not_not.mp d_1)
      exact gf_vw.of_eq g1_1_0.2
  · skip
    have g1_0 := h1.1 (by clear h1; first | exact d | omega | exact Classical.not_not.mp d)
    exact gf_vw.of_eq g1_0.2
set_option maxHeartbeats 1000000 in
theorem st_swap {μ μ1 μ2 : gf_M} {k q1 q2 : Int} (hI : gf_I μ) (h1 : (¬ (0 ≤ k ∧ k < μ 41 1 - 1) → q1 = -1 ∧ μ1 = μ) ∧ (0 ≤ k ∧ k < μ 41 1 - 1 → (μ 41 2 = 40 → q1 = -2 ∧ μ1 = μ) ∧ (μ 41 2 < 40 → q1 = μ 42 (k + 1) ∧ μ1 = gf_up (gf_up (gf_rmb μ) 42 k (μ 42 (k + 1))) 42 (k + 1) (μ 42 k)))) (h2 : (¬ (0 ≤ k ∧ k < μ1 71 1 - 1) → q2 = -1 ∧ μ2 = μ1) ∧ (0 ≤ k ∧ k < μ1 71 1 - 1 → (μ1 71 2 = 40 → q2 = -2 ∧ μ2 = μ1) ∧ (μ1 71 2 < 40 → q2 = μ1 71 (24 + (k + 1)) ∧ μ2 = gf_up (gf_up (gm_nt μ1) 71 (24 + k) (μ1 71 (24 + (k + 1)))) 71 (24 + (k + 1)) (μ1 71 (24 + k))))) : q1 = q2 ∧ gf_I μ2 := by
  have v := vw_swap hI h1
  have hc := hI.c
  have hn := hI.n
  have hdn := hI.dn
  have hs := hI.s
  have hd := hI.d
  have hc7 := hI.c7
  have k65 := v.k (a := 65) (by decide)
  have k66 := v.k (a := 66) (by decide)
  have k67 := v.k (a := 67) (by decide)
  have k68 := v.k (a := 68) (by decide)
  have k69 := v.k (a := 69) (by decide)
  have k70 := v.k (a := 70) (by decide)
  have k71 := v.k (a := 71) (by decide)
  have k74 := v.k (a := 74) (by decide)
  have k75 := v.k (a := 75) (by decide)
  try simp only [k65, k66, k67, k68, k69, k70, k71, k74, k75, v.x, v.rk, v.uS, v.uX, v.ua, v.og, v.cvd, v.row, v.U, v.W, v.leaf, v.fw, v.ff, v.cn, v.dg] at h2
  clear k65 k66 k67 k68 k69 k70 k74 k75
  by_cases d : 0 ≤ k ∧ k < μ 71 1 - 1
  · have g1_1 := h1.2 (by clear h1 h2; first | exact d | omega | exact Classical.not_not.mp d)
    have g2_1 := h2.2 d
    by_cases d_1 : μ 71 2 < 40
    · have g1_1_1 := g1_1.2 (by clear h1 h2 g1_1 g2_1; first | exact d_1 | omega | exact Classical.not_not.mp d_1)
      have g2_1_1 := g2_1.2 d_1
      clear h1 h2 g1_1 g2_1
      exact ⟨g1_1_1.1.trans (Eq.trans ((hI.x (k + 1) (by omega) (by omega)).symm) g2_1_1.1.symm), lf_swp hI (k := k) (by omega) rfl rfl (hI.x (k + 1) (by omega) (by omega)) (hI.x k (by omega) (by omega)) (by omega) g1_1_1.2 g2_1_1.2⟩
    · skip
      have g1_1_0 := g1_1.1 (by clear h1 h2 g1_1 g2_1; first | exact d_1 | omega | exact Classical.not_not.mp d_1)
      have g2_1_0 := g2_1.1 (by clear h1 h2 g1_1 g2_1; first | exact d_1 | omega | exact Classical.not_not.mp d_1)
      clear h1 h2 g1_1 g2_1
      exact ⟨g1_1_0.1.trans g2_1_0.1.symm, lf_same hI g1_1_0.2 g2_1_0.2⟩
  · skip
    have g1_0 := h1.1 (by clear h1 h2; first | exact d | omega | exact Classical.not_not.mp d)
    have g2_0 := h2.1 (by clear h1 h2; first | exact d | omega | exact Classical.not_not.mp d)
    clear h1 h2
    exact ⟨g1_0.1.trans g2_0.1.symm, lf_same hI g1_0.2 g2_0.2⟩
theorem vw_undo {μ μ1 : gf_M} {n q1 : Int} (hI : gf_I μ) (h1 : (¬ (0 ≤ n ∧ n ≤ μ 41 2) → q1 = -1 ∧ μ1 = μ) ∧ (n = μ 41 2 → q1 = 0 ∧ μ1 = μ) ∧ (0 ≤ n ∧ n < μ 41 2 → q1 = μ 41 2 - n ∧ μ1 41 1 = ((μ 71 (32 + 9 * n)).toNat : Int) ∧ μ1 41 2 = n ∧ (∀ j : Int, 0 ≤ j → j < ((μ 71 (32 + 9 * n)).toNat : Int) → μ1 42 j = μ 71 (33 + 9 * n + j)) ∧ ∀ a b : Int, ¬ (a = 41 ∧ (b = 1 ∨ b = 2)) → a ≠ 42 → μ1 a b = μ a b)) : gf_vw μ1 μ := by
  have hs := hI.s
  have hd := hI.d
  have hc7 := hI.c7
  by_cases dx2 : 0 ≤ n ∧ n < μ 41 2
  · have g1_2 := h1.2.2 dx2
    exact fun a b ha => g1_2.2.2.2.2 a b (by omega) (by omega)
  · skip
    by_cases dx1 : n = μ 41 2
    · have g1_1 := h1.2.1 dx1
      exact gf_vw.of_eq g1_1.2
    · skip
      have g1_0 := h1.1 (by clear h1; first | exact dx1 | omega | exact Classical.not_not.mp dx1)
      exact gf_vw.of_eq g1_0.2
set_option maxHeartbeats 1000000 in
theorem st_undo {μ μ1 μ2 : gf_M} {n q1 q2 : Int} (hI : gf_I μ) (h1 : (¬ (0 ≤ n ∧ n ≤ μ 41 2) → q1 = -1 ∧ μ1 = μ) ∧ (n = μ 41 2 → q1 = 0 ∧ μ1 = μ) ∧ (0 ≤ n ∧ n < μ 41 2 → q1 = μ 41 2 - n ∧ μ1 41 1 = ((μ 71 (32 + 9 * n)).toNat : Int) ∧ μ1 41 2 = n ∧ (∀ j : Int, 0 ≤ j → j < ((μ 71 (32 + 9 * n)).toNat : Int) → μ1 42 j = μ 71 (33 + 9 * n + j)) ∧ ∀ a b : Int, ¬ (a = 41 ∧ (b = 1 ∨ b = 2)) → a ≠ 42 → μ1 a b = μ a b)) (h2 : (¬ (0 ≤ n ∧ n ≤ μ1 71 2) → q2 = -1 ∧ μ2 = μ1) ∧ (n = μ1 71 2 → q2 = 0 ∧ μ2 = μ1) ∧ (0 ≤ n ∧ n < μ1 71 2 → q2 = μ1 71 2 - n ∧ μ2 71 1 = μ1 71 (32 + 9 * n) ∧ μ2 71 2 = n ∧ (∀ j : Int, 0 ≤ j → j < 8 → μ2 71 (24 + j) = μ1 71 (33 + 9 * n + j)) ∧ ∀ a b : Int, ¬ (a = 71 ∧ (b = 1 ∨ b = 2 ∨ (24 ≤ b ∧ b < 32))) → μ2 a b = μ1 a b)) : q1 = q2 ∧ gf_I μ2 := by
  have v := vw_undo hI h1
  have hc := hI.c
  have hn := hI.n
  have hdn := hI.dn
  have hs := hI.s
  have hd := hI.d
  have hc7 := hI.c7
  have k65 := v.k (a := 65) (by decide)
  have k66 := v.k (a := 66) (by decide)
  have k67 := v.k (a := 67) (by decide)
  have k68 := v.k (a := 68) (by decide)
  have k69 := v.k (a := 69) (by decide)
  have k70 := v.k (a := 70) (by decide)
  have k71 := v.k (a := 71) (by decide)
  have k74 := v.k (a := 74) (by decide)
  have k75 := v.k (a := 75) (by decide)
  try simp only [k65, k66, k67, k68, k69, k70, k71, k74, k75, v.x, v.rk, v.uS, v.uX, v.ua, v.og, v.cvd, v.row, v.U, v.W, v.leaf, v.fw, v.ff, v.cn, v.dg] at h2
  clear k65 k66 k67 k68 k69 k70 k74 k75
  by_cases dx2 : 0 ≤ n ∧ n < μ 71 2
  · have g1_2 := h1.2.2 (by clear h1 h2; first | exact dx2 | omega | exact Classical.not_not.mp dx2)
    have g2_2 := h2.2.2 dx2
    clear h1 h2
    exact ⟨g1_2.1.trans (Eq.trans (by rw [hdn]) g2_2.1.symm), lf_undo hI (by omega) g1_2.2.1 g1_2.2.2.1 g1_2.2.2.2.1 g1_2.2.2.2.2 g2_2.2.1 g2_2.2.2.1 g2_2.2.2.2.1 g2_2.2.2.2.2⟩
  · skip
    by_cases dx1 : n = μ 71 2
    · have g1_1 := h1.2.1 (by clear h1 h2; first | exact dx1 | omega | exact Classical.not_not.mp dx1)
      have g2_1 := h2.2.1 dx1
      clear h1 h2
      exact ⟨g1_1.1.trans g2_1.1.symm, lf_same hI g1_1.2 g2_1.2⟩
    · skip
      have g1_0 := h1.1 (by clear h1 h2; first | exact dx1 | omega | exact Classical.not_not.mp dx1)
      have g2_0 := h2.1 (by clear h1 h2; first | exact dx1 | omega | exact Classical.not_not.mp dx1)
      clear h1 h2
      exact ⟨g1_0.1.trans g2_0.1.symm, lf_same hI g1_0.2 g2_0.2⟩
theorem vw_keep {μ μ1 : gf_M} {k q1 : Int} (hI : gf_I μ) (h1 : (¬ (0 ≤ k ∧ k < 3) → q1 = -1 ∧ μ1 = μ) ∧ (0 ≤ k ∧ k < 3 → (μ 0 3 = 0 → q1 = -4 ∧ μ1 = μ) ∧ (μ 0 3 ≠ 0 → q1 = μ 41 2 ∧ gf_rsm μ μ1 (32 + 3 * k) 41 ∧ μ1 (32 + 3 * k) 4 = 1))) : gf_vw μ1 μ := by
  have hs := hI.s
  have hd := hI.d
  have hc7 := hI.c7
  by_cases d : 0 ≤ k ∧ k < 3
  · have g1_1 := h1.2 d
    by_cases d_1 : μ 0 3 ≠ 0
    · have g1_1_1 := g1_1.2 d_1
      exact vs_keep d g1_1_1.2.1
    · skip
      have g1_1_0 := g1_1.1 (by clear h1 g1_1; first | exact d_1 | omega | exact Classical.not_not.mp d_1)
      exact gf_vw.of_eq g1_1_0.2
  · skip
    have g1_0 := h1.1 (by clear h1; first | exact d | omega | exact Classical.not_not.mp d)
    exact gf_vw.of_eq g1_0.2
set_option maxHeartbeats 1000000 in
theorem st_keep {μ μ1 μ2 : gf_M} {k q1 q2 : Int} (hI : gf_I μ) (h1 : (¬ (0 ≤ k ∧ k < 3) → q1 = -1 ∧ μ1 = μ) ∧ (0 ≤ k ∧ k < 3 → (μ 0 3 = 0 → q1 = -4 ∧ μ1 = μ) ∧ (μ 0 3 ≠ 0 → q1 = μ 41 2 ∧ gf_rsm μ μ1 (32 + 3 * k) 41 ∧ μ1 (32 + 3 * k) 4 = 1))) (h2 : (¬ (0 ≤ k ∧ k < 3) → q2 = -1 ∧ μ2 = μ1) ∧ (0 ≤ k ∧ k < 3 → (μ1 71 0 = 0 → q2 = -4 ∧ μ2 = μ1) ∧ (μ1 71 0 ≠ 0 → q2 = μ1 71 2 ∧ μ2 74 k = μ1 71 2 ∧ (∀ j : Int, 0 ≤ j → j < 392 → μ2 75 (392 * k + j) = μ1 71 j) ∧ ∀ a b : Int, ¬ (a = 74 ∧ b = k) → ¬ (a = 75 ∧ 392 * k ≤ b ∧ b < 392 * k + 392) → μ2 a b = μ1 a b))) : q1 = q2 ∧ gf_I μ2 := by
  have v := vw_keep hI h1
  have hc := hI.c
  have hn := hI.n
  have hdn := hI.dn
  have hs := hI.s
  have hd := hI.d
  have hc7 := hI.c7
  have k65 := v.k (a := 65) (by decide)
  have k66 := v.k (a := 66) (by decide)
  have k67 := v.k (a := 67) (by decide)
  have k68 := v.k (a := 68) (by decide)
  have k69 := v.k (a := 69) (by decide)
  have k70 := v.k (a := 70) (by decide)
  have k71 := v.k (a := 71) (by decide)
  have k74 := v.k (a := 74) (by decide)
  have k75 := v.k (a := 75) (by decide)
  try simp only [k65, k66, k67, k68, k69, k70, k71, k74, k75, v.x, v.rk, v.uS, v.uX, v.ua, v.og, v.cvd, v.row, v.U, v.W, v.leaf, v.fw, v.ff, v.cn, v.dg] at h2
  clear k65 k66 k67 k68 k69 k70 k74 k75
  by_cases d : 0 ≤ k ∧ k < 3
  · have g1_1 := h1.2 (by clear h1 h2; first | exact d | omega | exact Classical.not_not.mp d)
    have g2_1 := h2.2 d
    by_cases d_1 : μ 71 0 ≠ 0
    · have g1_1_1 := g1_1.2 (by clear h1 h2 g1_1 g2_1; first | exact d_1 | omega | exact Classical.not_not.mp d_1)
      have g2_1_1 := g2_1.2 d_1
      clear h1 h2 g1_1 g2_1
      exact ⟨g1_1_1.1.trans (Eq.trans (hdn.symm) g2_1_1.1.symm), lf_keep hI (by omega) g1_1_1.2.1 g1_1_1.2.2 g2_1_1.2.1 g2_1_1.2.2.1 g2_1_1.2.2.2⟩
    · skip
      have g1_1_0 := g1_1.1 (by clear h1 h2 g1_1 g2_1; first | exact d_1 | omega | exact Classical.not_not.mp d_1)
      have g2_1_0 := g2_1.1 (by clear h1 h2 g1_1 g2_1; first | exact d_1 | omega | exact Classical.not_not.mp d_1)
      clear h1 h2 g1_1 g2_1
      exact ⟨g1_1_0.1.trans g2_1_0.1.symm, lf_same hI g1_1_0.2 g2_1_0.2⟩
  · skip
    have g1_0 := h1.1 (by clear h1 h2; first | exact d | omega | exact Classical.not_not.mp d)
    have g2_0 := h2.1 (by clear h1 h2; first | exact d | omega | exact Classical.not_not.mp d)
    clear h1 h2
    exact ⟨g1_0.1.trans g2_0.1.symm, lf_same hI g1_0.2 g2_0.2⟩
theorem vw_on {μ μ1 : gf_M} {k q1 : Int} (hI : gf_I μ) (h1 : (¬ (0 ≤ k ∧ k < 3) → q1 = -1 ∧ μ1 = μ) ∧ (0 ≤ k ∧ k < 3 → (μ (32 + 3 * k) 4 = 0 → q1 = -3 ∧ μ1 = gf_fd μ 1) ∧ (μ (32 + 3 * k) 4 ≠ 0 → q1 = μ (32 + 3 * k) 2 ∧ gf_rsm μ μ1 41 (32 + 3 * k)))) : gf_vw μ1 μ := by
  have hs := hI.s
  have hd := hI.d
  have hc7 := hI.c7
  by_cases d : 0 ≤ k ∧ k < 3
  · have g1_1 := h1.2 d
    by_cases d_1 : μ (32 + 3 * k) 4 ≠ 0
    · have g1_1_1 := g1_1.2 d_1
      exact vs_on d g1_1_1.2
    · skip
      have g1_1_0 := g1_1.1 (by clear h1 g1_1; first | exact d_1 | omega | exact Classical.not_not.mp d_1)
      exact gf_vw.of_fd g1_1_0.2
  · skip
    have g1_0 := h1.1 (by clear h1; first | exact d | omega | exact Classical.not_not.mp d)
    exact gf_vw.of_eq g1_0.2
set_option maxHeartbeats 1000000 in
theorem st_on {μ μ1 μ2 : gf_M} {k q1 q2 : Int} (hI : gf_I μ) (h1 : (¬ (0 ≤ k ∧ k < 3) → q1 = -1 ∧ μ1 = μ) ∧ (0 ≤ k ∧ k < 3 → (μ (32 + 3 * k) 4 = 0 → q1 = -3 ∧ μ1 = gf_fd μ 1) ∧ (μ (32 + 3 * k) 4 ≠ 0 → q1 = μ (32 + 3 * k) 2 ∧ gf_rsm μ μ1 41 (32 + 3 * k)))) (h2 : (¬ (0 ≤ k ∧ k < 3) → q2 = -1 ∧ μ2 = μ1) ∧ (0 ≤ k ∧ k < 3 → (μ1 74 k < 0 → q2 = -3 ∧ μ2 = gm_fd μ1 1) ∧ (0 ≤ μ1 74 k → q2 = μ1 75 (392 * k + 2) ∧ (∀ j : Int, 0 ≤ j → j < 392 → μ2 71 j = μ1 75 (392 * k + j)) ∧ ∀ a b : Int, ¬ (a = 71 ∧ 0 ≤ b ∧ b < 392) → μ2 a b = μ1 a b))) : q1 = q2 ∧ gf_I μ2 := by
  have v := vw_on hI h1
  have hc := hI.c
  have hn := hI.n
  have hdn := hI.dn
  have hs := hI.s
  have hd := hI.d
  have hc7 := hI.c7
  have k65 := v.k (a := 65) (by decide)
  have k66 := v.k (a := 66) (by decide)
  have k67 := v.k (a := 67) (by decide)
  have k68 := v.k (a := 68) (by decide)
  have k69 := v.k (a := 69) (by decide)
  have k70 := v.k (a := 70) (by decide)
  have k71 := v.k (a := 71) (by decide)
  have k74 := v.k (a := 74) (by decide)
  have k75 := v.k (a := 75) (by decide)
  try simp only [k65, k66, k67, k68, k69, k70, k71, k74, k75, v.x, v.rk, v.uS, v.uX, v.ua, v.og, v.cvd, v.row, v.U, v.W, v.leaf, v.fw, v.ff, v.cn, v.dg] at h2
  clear k65 k66 k67 k68 k69 k70 k74 k75
  by_cases d : 0 ≤ k ∧ k < 3
  · have g1_1 := h1.2 (by clear h1 h2; first | exact d | omega | exact Classical.not_not.mp d)
    have g2_1 := h2.2 d
    have hk2 : (μ (32 + 3 * k) 4 = 0 ∧ μ 74 k = -1) ∨ (μ (32 + 3 * k) 4 ≠ 0 ∧ 0 ≤ μ 74 k ∧ μ 75 (392 * k + 2) = μ (32 + 3 * k) 2) := by
      rcases hI.2.2.2.2.1 k (by clear h1 h2 g1_1 g2_1; omega) (by clear h1 h2 g1_1 g2_1; omega) with h | ⟨h, h2, h3, _⟩
      · exact Or.inl h
      · exact Or.inr ⟨h, by rw [h2]; exact h3.2.1.2.1, h3.2.1.1⟩
    by_cases d_1 : 0 ≤ μ 74 k
    · have g1_1_1 := g1_1.2 (by clear h1 h2 g1_1 g2_1; first | exact d_1 | omega | exact Classical.not_not.mp d_1)
      have g2_1_1 := g2_1.2 d_1
      clear h1 h2 g1_1 g2_1
      exact ⟨g1_1_1.1.trans (Eq.trans (by omega) g2_1_1.1.symm), lf_on hI (by omega) (by omega) g1_1_1.2 g2_1_1.2.1 g2_1_1.2.2⟩
    · skip
      have g1_1_0 := g1_1.1 (by clear h1 h2 g1_1 g2_1; first | exact d_1 | omega | exact Classical.not_not.mp d_1)
      have g2_1_0 := g2_1.1 (by clear h1 h2 g1_1 g2_1; first | exact d_1 | omega | exact Classical.not_not.mp d_1)
      clear h1 h2 g1_1 g2_1
      exact ⟨g1_1_0.1.trans g2_1_0.1.symm, lf_fd hI (by decide) g1_1_0.2 g2_1_0.2⟩
  · skip
    have g1_0 := h1.1 (by clear h1 h2; first | exact d | omega | exact Classical.not_not.mp d)
    have g2_0 := h2.1 (by clear h1 h2; first | exact d | omega | exact Classical.not_not.mp d)
    clear h1 h2
    exact ⟨g1_0.1.trans g2_0.1.symm, lf_same hI g1_0.2 g2_0.2⟩
theorem vw_slips {μ μ1 : gf_M} {i q1 : Int} (hI : gf_I μ) (h1 : (¬ (0 ≤ i ∧ i < μ 0 3) → q1 = -1 ∧ μ1 = μ) ∧ (0 ≤ i ∧ i < μ 0 3 → (pf_unS μ i.toNat = [] → q1 = -9 ∧ gf_sc μ1 μ) ∧ (pf_unS μ i.toNat ≠ [] → q1 = ((pf_unS μ i.toNat).length : Int) ∧ gf_sc μ1 (gf_tl μ ((pf_unS μ i.toNat).head?.getD (-9)))))) : gf_vw μ1 μ := by
  have hs := hI.s
  have hd := hI.d
  have hc7 := hI.c7
  by_cases d : 0 ≤ i ∧ i < μ 0 3
  · have g1_1 := h1.2 d
    by_cases d_1 : pf_unS μ i.toNat ≠ []
    · have g1_1_1 := g1_1.2 d_1
      exact gf_vw.of_sctl g1_1_1.2
    · skip
      have g1_1_0 := g1_1.1 (by clear h1 g1_1; first | exact d_1 | omega | exact Classical.not_not.mp d_1)
      exact gf_vw.of_sc g1_1_0.2
  · skip
    have g1_0 := h1.1 (by clear h1; first | exact d | omega | exact Classical.not_not.mp d)
    exact gf_vw.of_eq g1_0.2
set_option maxHeartbeats 1000000 in
theorem st_slips {μ μ1 μ2 : gf_M} {i q1 q2 : Int} (hI : gf_I μ) (h1 : (¬ (0 ≤ i ∧ i < μ 0 3) → q1 = -1 ∧ μ1 = μ) ∧ (0 ≤ i ∧ i < μ 0 3 → (pf_unS μ i.toNat = [] → q1 = -9 ∧ gf_sc μ1 μ) ∧ (pf_unS μ i.toNat ≠ [] → q1 = ((pf_unS μ i.toNat).length : Int) ∧ gf_sc μ1 (gf_tl μ ((pf_unS μ i.toNat).head?.getD (-9)))))) (h2 : (¬ (0 ≤ i ∧ i < μ1 71 0) → q2 = -1 ∧ μ2 = μ1) ∧ (0 ≤ i ∧ i < μ1 71 0 → (gm_uS μ1 i = [] → q2 = -9 ∧ gm_sc μ2 μ1) ∧ (gm_uS μ1 i ≠ [] → q2 = ((gm_uS μ1 i).length : Int) ∧ gm_sc μ2 (gm_tl μ1 ((gm_uS μ1 i).head?.getD (-9)))))) : q1 = q2 ∧ gf_I μ2 := by
  have v := vw_slips hI h1
  have hc := hI.c
  have hn := hI.n
  have hdn := hI.dn
  have hs := hI.s
  have hd := hI.d
  have hc7 := hI.c7
  have k65 := v.k (a := 65) (by decide)
  have k66 := v.k (a := 66) (by decide)
  have k67 := v.k (a := 67) (by decide)
  have k68 := v.k (a := 68) (by decide)
  have k69 := v.k (a := 69) (by decide)
  have k70 := v.k (a := 70) (by decide)
  have k71 := v.k (a := 71) (by decide)
  have k74 := v.k (a := 74) (by decide)
  have k75 := v.k (a := 75) (by decide)
  try simp only [k65, k66, k67, k68, k69, k70, k71, k74, k75, v.x, v.rk, v.uS, v.uX, v.ua, v.og, v.cvd, v.row, v.U, v.W, v.leaf, v.fw, v.ff, v.cn, v.dg] at h2
  clear k65 k66 k67 k68 k69 k70 k74 k75
  by_cases d : 0 ≤ i ∧ i < μ 71 0
  · have g1_1 := h1.2 (by clear h1 h2; first | exact d | omega | exact Classical.not_not.mp d)
    have g2_1 := h2.2 d
    have hi : 0 ≤ i ∧ i < μ 0 3 := by clear h1 h2 g1_1 g2_1; omega
    rw [hI.uS hi] at g1_1
    by_cases d_1 : gm_uS μ i ≠ []
    · have g1_1_1 := g1_1.2 (by clear h1 h2 g1_1 g2_1; first | exact d_1 | omega | exact Classical.not_not.mp d_1)
      have g2_1_1 := g2_1.2 d_1
      clear h1 h2 g1_1 g2_1
      exact ⟨g1_1_1.1.trans g2_1_1.1.symm, lf_tl hI g1_1_1.2 g2_1_1.2 (rfl)⟩
    · skip
      have g1_1_0 := g1_1.1 (by clear h1 h2 g1_1 g2_1; first | exact d_1 | omega | exact Classical.not_not.mp d_1)
      have g2_1_0 := g2_1.1 (by clear h1 h2 g1_1 g2_1; first | exact d_1 | omega | exact Classical.not_not.mp d_1)
      clear h1 h2 g1_1 g2_1
      exact ⟨g1_1_0.1.trans g2_1_0.1.symm, lf_sc hI g1_1_0.2 g2_1_0.2⟩
  · skip
    have g1_0 := h1.1 (by clear h1 h2; first | exact d | omega | exact Classical.not_not.mp d)
    have g2_0 := h2.1 (by clear h1 h2; first | exact d | omega | exact Classical.not_not.mp d)
    clear h1 h2
    exact ⟨g1_0.1.trans g2_0.1.symm, lf_same hI g1_0.2 g2_0.2⟩
theorem vw_swaps {μ μ1 : gf_M} {i q1 : Int} (hI : gf_I μ) (h1 : (¬ (0 ≤ i ∧ i < μ 0 3) → q1 = -1 ∧ μ1 = μ) ∧ (0 ≤ i ∧ i < μ 0 3 → (pf_unX μ 1 i.toNat = [] → q1 = -9 ∧ gf_sc μ1 μ) ∧ (pf_unX μ 1 i.toNat ≠ [] → q1 = ((pf_unX μ 1 i.toNat).length : Int) ∧ gf_sc μ1 (gf_tl μ ((pf_unX μ 1 i.toNat).head?.getD (-9)))))) : gf_vw μ1 μ := by
  have hs := hI.s
  have hd := hI.d
  have hc7 := hI.c7
  by_cases d : 0 ≤ i ∧ i < μ 0 3
  · have g1_1 := h1.2 d
    by_cases d_1 : pf_unX μ 1 i.toNat ≠ []
    · have g1_1_1 := g1_1.2 d_1
      exact gf_vw.of_sctl g1_1_1.2
    · skip
      have g1_1_0 := g1_1.1 (by clear h1 g1_1; first | exact d_1 | omega | exact Classical.not_not.mp d_1)
      exact gf_vw.of_sc g1_1_0.2
  · skip
    have g1_0 := h1.1 (by clear h1; first | exact d | omega | exact Classical.not_not.mp d)
    exact gf_vw.of_eq g1_0.2
set_option maxHeartbeats 1000000 in
theorem st_swaps {μ μ1 μ2 : gf_M} {i q1 q2 : Int} (hI : gf_I μ) (h1 : (¬ (0 ≤ i ∧ i < μ 0 3) → q1 = -1 ∧ μ1 = μ) ∧ (0 ≤ i ∧ i < μ 0 3 → (pf_unX μ 1 i.toNat = [] → q1 = -9 ∧ gf_sc μ1 μ) ∧ (pf_unX μ 1 i.toNat ≠ [] → q1 = ((pf_unX μ 1 i.toNat).length : Int) ∧ gf_sc μ1 (gf_tl μ ((pf_unX μ 1 i.toNat).head?.getD (-9)))))) (h2 : (¬ (0 ≤ i ∧ i < μ1 71 0) → q2 = -1 ∧ μ2 = μ1) ∧ (0 ≤ i ∧ i < μ1 71 0 → (gm_uX μ1 1 i = [] → q2 = -9 ∧ gm_sc μ2 μ1) ∧ (gm_uX μ1 1 i ≠ [] → q2 = ((gm_uX μ1 1 i).length : Int) ∧ gm_sc μ2 (gm_tl μ1 ((gm_uX μ1 1 i).head?.getD (-9)))))) : q1 = q2 ∧ gf_I μ2 := by
  have v := vw_swaps hI h1
  have hc := hI.c
  have hn := hI.n
  have hdn := hI.dn
  have hs := hI.s
  have hd := hI.d
  have hc7 := hI.c7
  have k65 := v.k (a := 65) (by decide)
  have k66 := v.k (a := 66) (by decide)
  have k67 := v.k (a := 67) (by decide)
  have k68 := v.k (a := 68) (by decide)
  have k69 := v.k (a := 69) (by decide)
  have k70 := v.k (a := 70) (by decide)
  have k71 := v.k (a := 71) (by decide)
  have k74 := v.k (a := 74) (by decide)
  have k75 := v.k (a := 75) (by decide)
  try simp only [k65, k66, k67, k68, k69, k70, k71, k74, k75, v.x, v.rk, v.uS, v.uX, v.ua, v.og, v.cvd, v.row, v.U, v.W, v.leaf, v.fw, v.ff, v.cn, v.dg] at h2
  clear k65 k66 k67 k68 k69 k70 k74 k75
  by_cases d : 0 ≤ i ∧ i < μ 71 0
  · have g1_1 := h1.2 (by clear h1 h2; first | exact d | omega | exact Classical.not_not.mp d)
    have g2_1 := h2.2 d
    have hi : 0 ≤ i ∧ i < μ 0 3 := by clear h1 h2 g1_1 g2_1; omega
    rw [hI.uX hi (by decide)] at g1_1
    by_cases d_1 : gm_uX μ 1 i ≠ []
    · have g1_1_1 := g1_1.2 (by clear h1 h2 g1_1 g2_1; first | exact d_1 | omega | exact Classical.not_not.mp d_1)
      have g2_1_1 := g2_1.2 d_1
      clear h1 h2 g1_1 g2_1
      exact ⟨g1_1_1.1.trans g2_1_1.1.symm, lf_tl hI g1_1_1.2 g2_1_1.2 (rfl)⟩
    · skip
      have g1_1_0 := g1_1.1 (by clear h1 h2 g1_1 g2_1; first | exact d_1 | omega | exact Classical.not_not.mp d_1)
      have g2_1_0 := g2_1.1 (by clear h1 h2 g1_1 g2_1; first | exact d_1 | omega | exact Classical.not_not.mp d_1)
      clear h1 h2 g1_1 g2_1
      exact ⟨g1_1_0.1.trans g2_1_0.1.symm, lf_sc hI g1_1_0.2 g2_1_0.2⟩
  · skip
    have g1_0 := h1.1 (by clear h1 h2; first | exact d | omega | exact Classical.not_not.mp d)
    have g2_0 := h2.1 (by clear h1 h2; first | exact d | omega | exact Classical.not_not.mp d)
    clear h1 h2
    exact ⟨g1_0.1.trans g2_0.1.symm, lf_same hI g1_0.2 g2_0.2⟩
theorem vw_jumps {μ μ1 : gf_M} {i q1 : Int} (hI : gf_I μ) (h1 : (¬ (0 ≤ i ∧ i < μ 0 3) → q1 = -1 ∧ μ1 = μ) ∧ (0 ≤ i ∧ i < μ 0 3 → (pf_unX μ 2 i.toNat = [] → q1 = -9 ∧ gf_sc μ1 μ) ∧ (pf_unX μ 2 i.toNat ≠ [] → q1 = ((pf_unX μ 2 i.toNat).length : Int) ∧ gf_sc μ1 (gf_tl μ ((pf_unX μ 2 i.toNat).head?.getD (-9)))))) : gf_vw μ1 μ := by
  have hs := hI.s
  have hd := hI.d
  have hc7 := hI.c7
  by_cases d : 0 ≤ i ∧ i < μ 0 3
  · have g1_1 := h1.2 d
    by_cases d_1 : pf_unX μ 2 i.toNat ≠ []
    · have g1_1_1 := g1_1.2 d_1
      exact gf_vw.of_sctl g1_1_1.2
    · skip
      have g1_1_0 := g1_1.1 (by clear h1 g1_1; first | exact d_1 | omega | exact Classical.not_not.mp d_1)
      exact gf_vw.of_sc g1_1_0.2
  · skip
    have g1_0 := h1.1 (by clear h1; first | exact d | omega | exact Classical.not_not.mp d)
    exact gf_vw.of_eq g1_0.2
set_option maxHeartbeats 1000000 in
theorem st_jumps {μ μ1 μ2 : gf_M} {i q1 q2 : Int} (hI : gf_I μ) (h1 : (¬ (0 ≤ i ∧ i < μ 0 3) → q1 = -1 ∧ μ1 = μ) ∧ (0 ≤ i ∧ i < μ 0 3 → (pf_unX μ 2 i.toNat = [] → q1 = -9 ∧ gf_sc μ1 μ) ∧ (pf_unX μ 2 i.toNat ≠ [] → q1 = ((pf_unX μ 2 i.toNat).length : Int) ∧ gf_sc μ1 (gf_tl μ ((pf_unX μ 2 i.toNat).head?.getD (-9)))))) (h2 : (¬ (0 ≤ i ∧ i < μ1 71 0) → q2 = -1 ∧ μ2 = μ1) ∧ (0 ≤ i ∧ i < μ1 71 0 → (gm_uX μ1 2 i = [] → q2 = -9 ∧ gm_sc μ2 μ1) ∧ (gm_uX μ1 2 i ≠ [] → q2 = ((gm_uX μ1 2 i).length : Int) ∧ gm_sc μ2 (gm_tl μ1 ((gm_uX μ1 2 i).head?.getD (-9)))))) : q1 = q2 ∧ gf_I μ2 := by
  have v := vw_jumps hI h1
  have hc := hI.c
  have hn := hI.n
  have hdn := hI.dn
  have hs := hI.s
  have hd := hI.d
  have hc7 := hI.c7
  have k65 := v.k (a := 65) (by decide)
  have k66 := v.k (a := 66) (by decide)
  have k67 := v.k (a := 67) (by decide)
  have k68 := v.k (a := 68) (by decide)
  have k69 := v.k (a := 69) (by decide)
  have k70 := v.k (a := 70) (by decide)
  have k71 := v.k (a := 71) (by decide)
  have k74 := v.k (a := 74) (by decide)
  have k75 := v.k (a := 75) (by decide)
  try simp only [k65, k66, k67, k68, k69, k70, k71, k74, k75, v.x, v.rk, v.uS, v.uX, v.ua, v.og, v.cvd, v.row, v.U, v.W, v.leaf, v.fw, v.ff, v.cn, v.dg] at h2
  clear k65 k66 k67 k68 k69 k70 k74 k75
  by_cases d : 0 ≤ i ∧ i < μ 71 0
  · have g1_1 := h1.2 (by clear h1 h2; first | exact d | omega | exact Classical.not_not.mp d)
    have g2_1 := h2.2 d
    have hi : 0 ≤ i ∧ i < μ 0 3 := by clear h1 h2 g1_1 g2_1; omega
    rw [hI.uX hi (by decide)] at g1_1
    by_cases d_1 : gm_uX μ 2 i ≠ []
    · have g1_1_1 := g1_1.2 (by clear h1 h2 g1_1 g2_1; first | exact d_1 | omega | exact Classical.not_not.mp d_1)
      have g2_1_1 := g2_1.2 d_1
      clear h1 h2 g1_1 g2_1
      exact ⟨g1_1_1.1.trans g2_1_1.1.symm, lf_tl hI g1_1_1.2 g2_1_1.2 (rfl)⟩
    · skip
      have g1_1_0 := g1_1.1 (by clear h1 h2 g1_1 g2_1; first | exact d_1 | omega | exact Classical.not_not.mp d_1)
      have g2_1_0 := g2_1.1 (by clear h1 h2 g1_1 g2_1; first | exact d_1 | omega | exact Classical.not_not.mp d_1)
      clear h1 h2 g1_1 g2_1
      exact ⟨g1_1_0.1.trans g2_1_0.1.symm, lf_sc hI g1_1_0.2 g2_1_0.2⟩
  · skip
    have g1_0 := h1.1 (by clear h1 h2; first | exact d | omega | exact Classical.not_not.mp d)
    have g2_0 := h2.1 (by clear h1 h2; first | exact d | omega | exact Classical.not_not.mp d)
    clear h1 h2
    exact ⟨g1_0.1.trans g2_0.1.symm, lf_same hI g1_0.2 g2_0.2⟩
theorem vw_best {μ μ1 : gf_M} {q1 : Int} (hI : gf_I μ) (h1 : (μ 0 3 = 0 → q1 = -4 ∧ μ1 = μ) ∧ (μ 0 3 ≠ 0 → q1 = (pf_fst (pf_ua μ) (μ 0 3 - 1).toNat).1 ∧ gf_sc μ1 (gf_tl μ (pf_fst (pf_ua μ) (μ 0 3 - 1).toNat).2))) : gf_vw μ1 μ := by
  have hs := hI.s
  have hd := hI.d
  have hc7 := hI.c7
  by_cases d : μ 0 3 ≠ 0
  · have g1_1 := h1.2 d
    exact gf_vw.of_sctl g1_1.2
  · skip
    have g1_0 := h1.1 (by clear h1; first | exact d | omega | exact Classical.not_not.mp d)
    exact gf_vw.of_eq g1_0.2
set_option maxHeartbeats 1000000 in
theorem st_best {μ μ1 μ2 : gf_M} {q1 q2 : Int} (hI : gf_I μ) (h1 : (μ 0 3 = 0 → q1 = -4 ∧ μ1 = μ) ∧ (μ 0 3 ≠ 0 → q1 = (pf_fst (pf_ua μ) (μ 0 3 - 1).toNat).1 ∧ gf_sc μ1 (gf_tl μ (pf_fst (pf_ua μ) (μ 0 3 - 1).toNat).2))) (h2 : (μ1 71 0 = 0 → q2 = -4 ∧ μ2 = μ1) ∧ (μ1 71 0 ≠ 0 → q2 = (pf_fst (gm_ua μ1) (μ1 71 0 - 1).toNat).1 ∧ gm_sc μ2 (gm_tl μ1 (pf_fst (gm_ua μ1) (μ1 71 0 - 1).toNat).2))) : q1 = q2 ∧ gf_I μ2 := by
  have v := vw_best hI h1
  have hc := hI.c
  have hn := hI.n
  have hdn := hI.dn
  have hs := hI.s
  have hd := hI.d
  have hc7 := hI.c7
  have k65 := v.k (a := 65) (by decide)
  have k66 := v.k (a := 66) (by decide)
  have k67 := v.k (a := 67) (by decide)
  have k68 := v.k (a := 68) (by decide)
  have k69 := v.k (a := 69) (by decide)
  have k70 := v.k (a := 70) (by decide)
  have k71 := v.k (a := 71) (by decide)
  have k74 := v.k (a := 74) (by decide)
  have k75 := v.k (a := 75) (by decide)
  try simp only [k65, k66, k67, k68, k69, k70, k71, k74, k75, v.x, v.rk, v.uS, v.uX, v.ua, v.og, v.cvd, v.row, v.U, v.W, v.leaf, v.fw, v.ff, v.cn, v.dg] at h2
  clear k65 k66 k67 k68 k69 k70 k74 k75
  by_cases d : μ 71 0 ≠ 0
  · have g1_1 := h1.2 (by clear h1 h2; first | exact d | omega | exact Classical.not_not.mp d)
    have g2_1 := h2.2 d
    have ef : pf_fst (pf_ua μ) (μ 0 3 - 1).toNat = pf_fst (gm_ua μ) (μ 71 0 - 1).toNat := by
      rw [hc]
      exact pf_fst_congr _ (fun j a b => hI.ua (by clear h1 h2 g1_1 g2_1; omega))
    rw [ef] at g1_1
    clear h1 h2
    exact ⟨g1_1.1.trans g2_1.1.symm, lf_tl hI g1_1.2 g2_1.2 (rfl)⟩
  · skip
    have g1_0 := h1.1 (by clear h1 h2; first | exact d | omega | exact Classical.not_not.mp d)
    have g2_0 := h2.1 (by clear h1 h2; first | exact d | omega | exact Classical.not_not.mp d)
    clear h1 h2
    exact ⟨g1_0.1.trans g2_0.1.symm, lf_same hI g1_0.2 g2_0.2⟩
theorem vw_cover {μ μ1 : gf_M} {q1 : Int} (hI : gf_I μ) (h1 : (μ 0 3 = 0 → q1 = -4 ∧ μ1 = μ) ∧ (μ 0 3 ≠ 0 → q1 = pf_cov (pf_cvd μ) (gf_shl 1 (μ 0 3)).toNat ∧ (q1 = -9 → gf_sc μ1 μ) ∧ (q1 ≠ -9 → gf_sc μ1 (gf_tl μ ((pf_T (μ 42) (μ 41 1)).length : Int))))) : gf_vw μ1 μ := by
  have hs := hI.s
  have hd := hI.d
  have hc7 := hI.c7
  by_cases d : μ 0 3 ≠ 0
  · have g1_1 := h1.2 d
    by_cases dq : q1 = -9
    · exact gf_vw.of_sc (g1_1.2.1 dq)
    · exact gf_vw.of_sctl (g1_1.2.2 dq)
  · skip
    have g1_0 := h1.1 (by clear h1; first | exact d | omega | exact Classical.not_not.mp d)
    exact gf_vw.of_eq g1_0.2
set_option maxHeartbeats 1000000 in
theorem st_cover {μ μ1 μ2 : gf_M} {q1 q2 : Int} (hI : gf_I μ) (h1 : (μ 0 3 = 0 → q1 = -4 ∧ μ1 = μ) ∧ (μ 0 3 ≠ 0 → q1 = pf_cov (pf_cvd μ) (gf_shl 1 (μ 0 3)).toNat ∧ (q1 = -9 → gf_sc μ1 μ) ∧ (q1 ≠ -9 → gf_sc μ1 (gf_tl μ ((pf_T (μ 42) (μ 41 1)).length : Int))))) (h2 : (μ1 71 0 = 0 → q2 = -4 ∧ μ2 = μ1) ∧ (μ1 71 0 ≠ 0 → q2 = pf_cov (gm_cvd μ1) (gf_shl 1 (μ1 71 0)).toNat ∧ (q2 = -9 → gm_sc μ2 μ1) ∧ (q2 ≠ -9 → gm_sc μ2 (gm_tl μ1 ((pf_T (gm_x μ1) (μ1 71 1)).length : Int))))) : q1 = q2 ∧ gf_I μ2 := by
  have v := vw_cover hI h1
  have hc := hI.c
  have hn := hI.n
  have hdn := hI.dn
  have hs := hI.s
  have hd := hI.d
  have hc7 := hI.c7
  have k65 := v.k (a := 65) (by decide)
  have k66 := v.k (a := 66) (by decide)
  have k67 := v.k (a := 67) (by decide)
  have k68 := v.k (a := 68) (by decide)
  have k69 := v.k (a := 69) (by decide)
  have k70 := v.k (a := 70) (by decide)
  have k71 := v.k (a := 71) (by decide)
  have k74 := v.k (a := 74) (by decide)
  have k75 := v.k (a := 75) (by decide)
  try simp only [k65, k66, k67, k68, k69, k70, k71, k74, k75, v.x, v.rk, v.uS, v.uX, v.ua, v.og, v.cvd, v.row, v.U, v.W, v.leaf, v.fw, v.ff, v.cn, v.dg] at h2
  clear k65 k66 k67 k68 k69 k70 k74 k75
  by_cases d : μ 71 0 ≠ 0
  · have g1_1 := h1.2 (by clear h1 h2; first | exact d | omega | exact Classical.not_not.mp d)
    have g2_1 := h2.2 d
    clear h1 h2
    have eq : q1 = q2 := by rw [g1_1.1, g2_1.1, hI.cvd, hc]
    by_cases dq : q1 = -9
    · exact ⟨eq, lf_sc hI (g1_1.2.1 dq) (g2_1.2.1 (eq ▸ dq))⟩
    · exact ⟨eq, lf_tl hI (g1_1.2.2 dq) (g2_1.2.2 (eq ▸ dq)) (by rw [hI.Tn])⟩
  · skip
    have g1_0 := h1.1 (by clear h1 h2; first | exact d | omega | exact Classical.not_not.mp d)
    have g2_0 := h2.1 (by clear h1 h2; first | exact d | omega | exact Classical.not_not.mp d)
    clear h1 h2
    exact ⟨g1_0.1.trans g2_0.1.symm, lf_same hI g1_0.2 g2_0.2⟩
theorem vw_next {μ μ1 : gf_M} {i c q1 : Int} (hI : gf_I μ) (h1 : (¬ (0 ≤ i ∧ i < μ 0 3 ∧ 0 ≤ c ∧ c ≤ 10) → q1 = -1 ∧ μ1 = μ) ∧ (0 ≤ i ∧ i < μ 0 3 ∧ 0 ≤ c ∧ c ≤ 10 → (μ 41 1 = 8 → q1 = -4 ∧ μ1 = μ) ∧ (μ 41 1 < 8 → q1 = pf_set (fun f => decide (pf_reck (μ (24 + i) 0) (μ (24 + i) 1) (μ (24 + i) 2) (pf_apd (μ 42) (μ 41 1) f) (μ 41 1 + 1) = c)) 10 ∧ gf_sc μ1 μ))) : gf_vw μ1 μ := by
  have hs := hI.s
  have hd := hI.d
  have hc7 := hI.c7
  by_cases d : 0 ≤ i ∧ i < μ 0 3 ∧ 0 ≤ c ∧ c ≤ 10
  · have g1_1 := h1.2 d
    by_cases d_1 : μ 41 1 < 8
    · have g1_1_1 := g1_1.2 d_1
      exact gf_vw.of_sc g1_1_1.2
    · skip
      have g1_1_0 := g1_1.1 (by clear h1 g1_1; first | exact d_1 | omega | exact Classical.not_not.mp d_1)
      exact gf_vw.of_eq g1_1_0.2
  · skip
    have g1_0 := h1.1 (by clear h1; first | exact d | omega | exact Classical.not_not.mp d)
    exact gf_vw.of_eq g1_0.2
set_option maxHeartbeats 1000000 in
theorem st_next {μ μ1 μ2 : gf_M} {i c q1 q2 : Int} (hI : gf_I μ) (h1 : (¬ (0 ≤ i ∧ i < μ 0 3 ∧ 0 ≤ c ∧ c ≤ 10) → q1 = -1 ∧ μ1 = μ) ∧ (0 ≤ i ∧ i < μ 0 3 ∧ 0 ≤ c ∧ c ≤ 10 → (μ 41 1 = 8 → q1 = -4 ∧ μ1 = μ) ∧ (μ 41 1 < 8 → q1 = pf_set (fun f => decide (pf_reck (μ (24 + i) 0) (μ (24 + i) 1) (μ (24 + i) 2) (pf_apd (μ 42) (μ 41 1) f) (μ 41 1 + 1) = c)) 10 ∧ gf_sc μ1 μ))) (h2 : (¬ (0 ≤ i ∧ i < μ1 71 0 ∧ 0 ≤ c ∧ c ≤ 10) → q2 = -1 ∧ μ2 = μ1) ∧ (0 ≤ i ∧ i < μ1 71 0 ∧ 0 ≤ c ∧ c ≤ 10 → (μ1 71 1 = 8 → q2 = -4 ∧ μ2 = μ1) ∧ (μ1 71 1 < 8 → q2 = pf_set (fun f => decide (gm_rk μ1 i (pf_apd (gm_x μ1) (μ1 71 1) f) (μ1 71 1 + 1) = c)) 10 ∧ gm_sc μ2 μ1))) : q1 = q2 ∧ gf_I μ2 := by
  have v := vw_next hI h1
  have hc := hI.c
  have hn := hI.n
  have hdn := hI.dn
  have hs := hI.s
  have hd := hI.d
  have hc7 := hI.c7
  have k65 := v.k (a := 65) (by decide)
  have k66 := v.k (a := 66) (by decide)
  have k67 := v.k (a := 67) (by decide)
  have k68 := v.k (a := 68) (by decide)
  have k69 := v.k (a := 69) (by decide)
  have k70 := v.k (a := 70) (by decide)
  have k71 := v.k (a := 71) (by decide)
  have k74 := v.k (a := 74) (by decide)
  have k75 := v.k (a := 75) (by decide)
  try simp only [k65, k66, k67, k68, k69, k70, k71, k74, k75, v.x, v.rk, v.uS, v.uX, v.ua, v.og, v.cvd, v.row, v.U, v.W, v.leaf, v.fw, v.ff, v.cn, v.dg] at h2
  clear k65 k66 k67 k68 k69 k70 k74 k75
  by_cases d : 0 ≤ i ∧ i < μ 71 0 ∧ 0 ≤ c ∧ c ≤ 10
  · have g1_1 := h1.2 (by clear h1 h2; first | exact d | omega | exact Classical.not_not.mp d)
    have g2_1 := h2.2 d
    have hi : 0 ≤ i ∧ i < μ 0 3 := by clear h1 h2 g1_1 g2_1; omega
    by_cases d_1 : μ 71 1 < 8
    · have g1_1_1 := g1_1.2 (by clear h1 h2 g1_1 g2_1; first | exact d_1 | omega | exact Classical.not_not.mp d_1)
      have g2_1_1 := g2_1.2 d_1
      clear h1 h2 g1_1 g2_1
      exact ⟨g1_1_1.1.trans (Eq.trans (pf_set_congr 10 (fun f _ _ => by show decide _ = decide _; rw [hI.apd hi f])) g2_1_1.1.symm), lf_sc hI g1_1_1.2 g2_1_1.2⟩
    · skip
      have g1_1_0 := g1_1.1 (by clear h1 h2 g1_1 g2_1; first | exact d_1 | omega | exact Classical.not_not.mp d_1)
      have g2_1_0 := g2_1.1 (by clear h1 h2 g1_1 g2_1; first | exact d_1 | omega | exact Classical.not_not.mp d_1)
      clear h1 h2 g1_1 g2_1
      exact ⟨g1_1_0.1.trans g2_1_0.1.symm, lf_same hI g1_1_0.2 g2_1_0.2⟩
  · skip
    have g1_0 := h1.1 (by clear h1 h2; first | exact d | omega | exact Classical.not_not.mp d)
    have g2_0 := h2.1 (by clear h1 h2; first | exact d | omega | exact Classical.not_not.mp d)
    clear h1 h2
    exact ⟨g1_0.1.trans g2_0.1.symm, lf_same hI g1_0.2 g2_0.2⟩
theorem vw_near {μ μ1 : gf_M} {i c q1 : Int} (hI : gf_I μ) (h1 : (¬ (0 ≤ i ∧ i < μ 0 3 ∧ 0 ≤ c ∧ c ≤ 10) → q1 = -1 ∧ μ1 = μ) ∧ (0 ≤ i ∧ i < μ 0 3 ∧ 0 ≤ c ∧ c ≤ 10 → (2 < pf_VN (μ (24 + i) 0) (μ (24 + i) 1) (μ (24 + i) 2) (μ 41 1) c (μ 42) (μ 41 1).toNat 0 → q1 = -9 ∧ gf_sc μ1 μ) ∧ (pf_VN (μ (24 + i) 0) (μ (24 + i) 1) (μ (24 + i) 2) (μ 41 1) c (μ 42) (μ 41 1).toNat 0 ≤ 2 → q1 = pf_VN (μ (24 + i) 0) (μ (24 + i) 1) (μ (24 + i) 2) (μ 41 1) c (μ 42) (μ 41 1).toNat 0 ∧ gf_sc μ1 (gf_tl μ (pf_run (μ (24 + i) 0) (μ (24 + i) 1) (μ (24 + i) 2) (μ 41 1) (pf_pkN (μ (24 + i) 0) (μ (24 + i) 1) (μ (24 + i) 2) (μ 41 1) c (μ 42)) (μ 41 1).toNat).2)))) : gf_vw μ1 μ := by
  have hs := hI.s
  have hd := hI.d
  have hc7 := hI.c7
  by_cases d : 0 ≤ i ∧ i < μ 0 3 ∧ 0 ≤ c ∧ c ≤ 10
  · have g1_1 := h1.2 d
    by_cases d_1 : pf_VN (μ (24 + i) 0) (μ (24 + i) 1) (μ (24 + i) 2) (μ 41 1) c (μ 42) (μ 41 1).toNat 0 ≤ 2
    · have g1_1_1 := g1_1.2 d_1
      exact gf_vw.of_sctl g1_1_1.2
    · skip
      have g1_1_0 := g1_1.1 (by clear h1 g1_1; first | exact d_1 | omega | exact Classical.not_not.mp d_1)
      exact gf_vw.of_sc g1_1_0.2
  · skip
    have g1_0 := h1.1 (by clear h1; first | exact d | omega | exact Classical.not_not.mp d)
    exact gf_vw.of_eq g1_0.2
set_option maxHeartbeats 1000000 in
theorem st_near {μ μ1 μ2 : gf_M} {i c q1 q2 : Int} (hI : gf_I μ) (h1 : (¬ (0 ≤ i ∧ i < μ 0 3 ∧ 0 ≤ c ∧ c ≤ 10) → q1 = -1 ∧ μ1 = μ) ∧ (0 ≤ i ∧ i < μ 0 3 ∧ 0 ≤ c ∧ c ≤ 10 → (2 < pf_VN (μ (24 + i) 0) (μ (24 + i) 1) (μ (24 + i) 2) (μ 41 1) c (μ 42) (μ 41 1).toNat 0 → q1 = -9 ∧ gf_sc μ1 μ) ∧ (pf_VN (μ (24 + i) 0) (μ (24 + i) 1) (μ (24 + i) 2) (μ 41 1) c (μ 42) (μ 41 1).toNat 0 ≤ 2 → q1 = pf_VN (μ (24 + i) 0) (μ (24 + i) 1) (μ (24 + i) 2) (μ 41 1) c (μ 42) (μ 41 1).toNat 0 ∧ gf_sc μ1 (gf_tl μ (pf_run (μ (24 + i) 0) (μ (24 + i) 1) (μ (24 + i) 2) (μ 41 1) (pf_pkN (μ (24 + i) 0) (μ (24 + i) 1) (μ (24 + i) 2) (μ 41 1) c (μ 42)) (μ 41 1).toNat).2)))) (h2 : (¬ (0 ≤ i ∧ i < μ1 71 0 ∧ 0 ≤ c ∧ c ≤ 10) → q2 = -1 ∧ μ2 = μ1) ∧ (0 ≤ i ∧ i < μ1 71 0 ∧ 0 ≤ c ∧ c ≤ 10 → gm_near μ1 i c q2 μ2)) : q1 = q2 ∧ gf_I μ2 := by
  have v := vw_near hI h1
  have hc := hI.c
  have hn := hI.n
  have hdn := hI.dn
  have hs := hI.s
  have hd := hI.d
  have hc7 := hI.c7
  have k65 := v.k (a := 65) (by decide)
  have k66 := v.k (a := 66) (by decide)
  have k67 := v.k (a := 67) (by decide)
  have k68 := v.k (a := 68) (by decide)
  have k69 := v.k (a := 69) (by decide)
  have k70 := v.k (a := 70) (by decide)
  have k71 := v.k (a := 71) (by decide)
  have k74 := v.k (a := 74) (by decide)
  have k75 := v.k (a := 75) (by decide)
  try simp only [k65, k66, k67, k68, k69, k70, k71, k74, k75, v.x, v.rk, v.uS, v.uX, v.ua, v.og, v.cvd, v.row, v.U, v.W, v.leaf, v.fw, v.ff, v.cn, v.dg] at h2
  clear k65 k66 k67 k68 k69 k70 k74 k75
  by_cases d : 0 ≤ i ∧ i < μ 71 0 ∧ 0 ≤ c ∧ c ≤ 10
  · have g1_1 := h1.2 (by clear h1 h2; first | exact d | omega | exact Classical.not_not.mp d)
    have g2_1 := h2.2 d
    have hi : 0 ≤ i ∧ i < μ 0 3 := by clear h1 h2 g1_1 g2_1; omega
    have hN := gm_near_V (x := μ 42) (by rw [k71]; clear h1 h2 g1_1 g2_1; omega) (by rw [v.x, k71]; exact hI.x) (by rw [k71, hn]; exact hI.F) g2_1
    rw [k71] at hN
    rw [hI.k0 hi, hI.k1 hi, hI.k2 hi, ← hn] at g1_1
    by_cases dv : 2 < pf_VN (μ 71 (3 + i)) (μ 71 (10 + i)) (μ 71 (17 + i)) (μ 71 1) c (μ 42) (μ 71 1).toNat 0
    · have a := g1_1.1 dv
      have b := hN.1 dv
      exact ⟨a.1.trans b.1.symm, lf_sc hI a.2 b.2⟩
    · have a := g1_1.2 (Int.not_lt.mp dv)
      have b := hN.2 (Int.not_lt.mp dv)
      exact ⟨a.1.trans b.1.symm, lf_tl hI a.2 b.2 rfl⟩
  · skip
    have g1_0 := h1.1 (by clear h1 h2; first | exact d | omega | exact Classical.not_not.mp d)
    have g2_0 := h2.1 (by clear h1 h2; first | exact d | omega | exact Classical.not_not.mp d)
    clear h1 h2
    exact ⟨g1_0.1.trans g2_0.1.symm, lf_same hI g1_0.2 g2_0.2⟩
theorem vw_fills {μ μ1 : gf_M} {i c r q1 : Int} (hI : gf_I μ) (h1 : (¬ (0 ≤ i ∧ i < μ 0 3 ∧ 0 ≤ c ∧ c ≤ 10 ∧ 0 ≤ r ∧ r < 6) → q1 = -1 ∧ μ1 = μ) ∧ (0 ≤ i ∧ i < μ 0 3 ∧ 0 ≤ c ∧ c ≤ 10 ∧ 0 ≤ r ∧ r < 6 → (μ (2 + 2 * r) 1 = -1 → q1 = -3 ∧ μ1 = gf_fd μ 1) ∧ (μ (2 + 2 * r) 1 ≠ -1 → (¬ (1 ≤ μ (2 + 2 * r) 1 ∧ μ (2 + 2 * r) 1 ≤ 8) → q1 = -3 ∧ μ1 = gf_fd μ 5) ∧ (1 ≤ μ (2 + 2 * r) 1 ∧ μ (2 + 2 * r) 1 ≤ 8 → (¬ ((∀ j : Int, 0 ≤ j → j < μ (2 + 2 * r) 1 → -1 ≤ μ (3 + 2 * r) j ∧ μ (3 + 2 * r) j ≤ 9) ∧ pf_cnt (fun j => decide (μ (3 + 2 * r) j = -1)) (μ (2 + 2 * r) 1).toNat ≤ 3) → q1 = -3 ∧ μ1 = gf_fd μ 3) ∧ ((∀ j : Int, 0 ≤ j → j < μ (2 + 2 * r) 1 → -1 ≤ μ (3 + 2 * r) j ∧ μ (3 + 2 * r) j ≤ 9) ∧ pf_cnt (fun j => decide (μ (3 + 2 * r) j = -1)) (μ (2 + 2 * r) 1).toNat ≤ 3 → (pf_VW (μ (24 + i) 0) (μ (24 + i) 1) (μ (24 + i) 2) (μ (2 + 2 * r) 1) c (μ (3 + 2 * r)) (μ (2 + 2 * r) 1).toNat 0 = 0 → q1 = -9 ∧ gf_sc μ1 μ) ∧ (pf_VW (μ (24 + i) 0) (μ (24 + i) 1) (μ (24 + i) 2) (μ (2 + 2 * r) 1) c (μ (3 + 2 * r)) (μ (2 + 2 * r) 1).toNat 0 ≠ 0 → q1 = pf_VW (μ (24 + i) 0) (μ (24 + i) 1) (μ (24 + i) 2) (μ (2 + 2 * r) 1) c (μ (3 + 2 * r)) (μ (2 + 2 * r) 1).toNat 0 ∧ gf_sc μ1 (gf_tl μ (pf_run (μ (24 + i) 0) (μ (24 + i) 1) (μ (24 + i) 2) (μ (2 + 2 * r) 1) (pf_pkW (μ (24 + i) 0) (μ (24 + i) 1) (μ (24 + i) 2) (μ (2 + 2 * r) 1) c (μ (3 + 2 * r))) (μ (2 + 2 * r) 1).toNat).2))))))) : gf_vw μ1 μ := by
  have hs := hI.s
  have hd := hI.d
  have hc7 := hI.c7
  by_cases d : 0 ≤ i ∧ i < μ 0 3 ∧ 0 ≤ c ∧ c ≤ 10 ∧ 0 ≤ r ∧ r < 6
  · have g1_1 := h1.2 d
    by_cases d_1 : μ (2 + 2 * r) 1 ≠ -1
    · have g1_1_1 := g1_1.2 d_1
      by_cases d_1_1 : 1 ≤ μ (2 + 2 * r) 1 ∧ μ (2 + 2 * r) 1 ≤ 8
      · have g1_1_1_1 := g1_1_1.2 d_1_1
        by_cases d_1_1_1 : (∀ j : Int, 0 ≤ j → j < μ (2 + 2 * r) 1 → -1 ≤ μ (3 + 2 * r) j ∧ μ (3 + 2 * r) j ≤ 9) ∧ pf_cnt (fun j => decide (μ (3 + 2 * r) j = -1)) (μ (2 + 2 * r) 1).toNat ≤ 3
        · have g1_1_1_1_1 := g1_1_1_1.2 d_1_1_1
          by_cases d_1_1_1_1 : pf_VW (μ (24 + i) 0) (μ (24 + i) 1) (μ (24 + i) 2) (μ (2 + 2 * r) 1) c (μ (3 + 2 * r)) (μ (2 + 2 * r) 1).toNat 0 ≠ 0
          · have g1_1_1_1_1_1 := g1_1_1_1_1.2 d_1_1_1_1
            exact gf_vw.of_sctl g1_1_1_1_1_1.2
          · skip
            have g1_1_1_1_1_0 := g1_1_1_1_1.1 (by clear h1 g1_1 g1_1_1 g1_1_1_1 g1_1_1_1_1; first | exact d_1_1_1_1 | omega | exact Classical.not_not.mp d_1_1_1_1)
            exact gf_vw.of_sc g1_1_1_1_1_0.2
        · skip
          have g1_1_1_1_0 := g1_1_1_1.1 (by clear h1 g1_1 g1_1_1 g1_1_1_1; first | exact d_1_1_1 | omega | exact Classical.not_not.mp d_1_1_1)
          exact gf_vw.of_fd g1_1_1_1_0.2
      · skip
        have g1_1_1_0 := g1_1_1.1 (by clear h1 g1_1 g1_1_1; first | exact d_1_1 | omega | exact Classical.not_not.mp d_1_1)
        exact gf_vw.of_fd g1_1_1_0.2
    · skip
      have g1_1_0 := g1_1.1 (by clear h1 g1_1; first | exact d_1 | omega | exact Classical.not_not.mp d_1)
      exact gf_vw.of_fd g1_1_0.2
  · skip
    have g1_0 := h1.1 (by clear h1; first | exact d | omega | exact Classical.not_not.mp d)
    exact gf_vw.of_eq g1_0.2
set_option maxHeartbeats 1000000 in
theorem st_fills {μ μ1 μ2 : gf_M} {i c r q1 q2 : Int} (hI : gf_I μ) (h1 : (¬ (0 ≤ i ∧ i < μ 0 3 ∧ 0 ≤ c ∧ c ≤ 10 ∧ 0 ≤ r ∧ r < 6) → q1 = -1 ∧ μ1 = μ) ∧ (0 ≤ i ∧ i < μ 0 3 ∧ 0 ≤ c ∧ c ≤ 10 ∧ 0 ≤ r ∧ r < 6 → (μ (2 + 2 * r) 1 = -1 → q1 = -3 ∧ μ1 = gf_fd μ 1) ∧ (μ (2 + 2 * r) 1 ≠ -1 → (¬ (1 ≤ μ (2 + 2 * r) 1 ∧ μ (2 + 2 * r) 1 ≤ 8) → q1 = -3 ∧ μ1 = gf_fd μ 5) ∧ (1 ≤ μ (2 + 2 * r) 1 ∧ μ (2 + 2 * r) 1 ≤ 8 → (¬ ((∀ j : Int, 0 ≤ j → j < μ (2 + 2 * r) 1 → -1 ≤ μ (3 + 2 * r) j ∧ μ (3 + 2 * r) j ≤ 9) ∧ pf_cnt (fun j => decide (μ (3 + 2 * r) j = -1)) (μ (2 + 2 * r) 1).toNat ≤ 3) → q1 = -3 ∧ μ1 = gf_fd μ 3) ∧ ((∀ j : Int, 0 ≤ j → j < μ (2 + 2 * r) 1 → -1 ≤ μ (3 + 2 * r) j ∧ μ (3 + 2 * r) j ≤ 9) ∧ pf_cnt (fun j => decide (μ (3 + 2 * r) j = -1)) (μ (2 + 2 * r) 1).toNat ≤ 3 → (pf_VW (μ (24 + i) 0) (μ (24 + i) 1) (μ (24 + i) 2) (μ (2 + 2 * r) 1) c (μ (3 + 2 * r)) (μ (2 + 2 * r) 1).toNat 0 = 0 → q1 = -9 ∧ gf_sc μ1 μ) ∧ (pf_VW (μ (24 + i) 0) (μ (24 + i) 1) (μ (24 + i) 2) (μ (2 + 2 * r) 1) c (μ (3 + 2 * r)) (μ (2 + 2 * r) 1).toNat 0 ≠ 0 → q1 = pf_VW (μ (24 + i) 0) (μ (24 + i) 1) (μ (24 + i) 2) (μ (2 + 2 * r) 1) c (μ (3 + 2 * r)) (μ (2 + 2 * r) 1).toNat 0 ∧ gf_sc μ1 (gf_tl μ (pf_run (μ (24 + i) 0) (μ (24 + i) 1) (μ (24 + i) 2) (μ (2 + 2 * r) 1) (pf_pkW (μ (24 + i) 0) (μ (24 + i) 1) (μ (24 + i) 2) (μ (2 + 2 * r) 1) c (μ (3 + 2 * r))) (μ (2 + 2 * r) 1).toNat).2))))))) (h2 : (¬ (0 ≤ i ∧ i < μ1 71 0 ∧ 0 ≤ c ∧ c ≤ 10 ∧ 0 ≤ r ∧ r < 6) → q2 = -1 ∧ μ2 = μ1) ∧ (0 ≤ i ∧ i < μ1 71 0 ∧ 0 ≤ c ∧ c ≤ 10 ∧ 0 ≤ r ∧ r < 6 → (μ1 66 r = -1 → q2 = -3 ∧ μ2 = gm_fd μ1 1) ∧ (μ1 66 r ≠ -1 → (¬ (1 ≤ μ1 66 r ∧ μ1 66 r ≤ 8) → q2 = -3 ∧ μ2 = gm_fd μ1 5) ∧ (1 ≤ μ1 66 r ∧ μ1 66 r ≤ 8 → (¬ ((∀ j : Int, 0 ≤ j → j < μ1 66 r → -1 ≤ (gm_row μ1 r) j ∧ (gm_row μ1 r) j ≤ 9) ∧ pf_cnt (fun j => decide ((gm_row μ1 r) j = -1)) (μ1 66 r).toNat ≤ 3) → q2 = -3 ∧ gm_sc μ2 (gm_fd μ1 3)) ∧ (((∀ j : Int, 0 ≤ j → j < μ1 66 r → -1 ≤ (gm_row μ1 r) j ∧ (gm_row μ1 r) j ≤ 9) ∧ pf_cnt (fun j => decide ((gm_row μ1 r) j = -1)) (μ1 66 r).toNat ≤ 3) → (pf_cnt (gm_fw μ1 i c (gm_row μ1 r) (μ1 66 r) (gm_hc (gm_row μ1 r) (μ1 66 r))) (10 ^ (gm_hc (gm_row μ1 r) (μ1 66 r)).toNat) = 0 → q2 = -9 ∧ gm_sc μ2 μ1) ∧ (pf_cnt (gm_fw μ1 i c (gm_row μ1 r) (μ1 66 r) (gm_hc (gm_row μ1 r) (μ1 66 r))) (10 ^ (gm_hc (gm_row μ1 r) (μ1 66 r)).toNat) ≠ 0 → q2 = pf_cnt (gm_fw μ1 i c (gm_row μ1 r) (μ1 66 r) (gm_hc (gm_row μ1 r) (μ1 66 r))) (10 ^ (gm_hc (gm_row μ1 r) (μ1 66 r)).toNat) ∧ gm_sc μ2 (gm_tl μ1 (gm_ff μ1 i c (gm_row μ1 r) (μ1 66 r) (gm_hc (gm_row μ1 r) (μ1 66 r)) (10 ^ (gm_hc (gm_row μ1 r) (μ1 66 r)).toNat))))))))) : q1 = q2 ∧ gf_I μ2 := by
  have v := vw_fills hI h1
  have hc := hI.c
  have hn := hI.n
  have hdn := hI.dn
  have hs := hI.s
  have hd := hI.d
  have hc7 := hI.c7
  have k65 := v.k (a := 65) (by decide)
  have k66 := v.k (a := 66) (by decide)
  have k67 := v.k (a := 67) (by decide)
  have k68 := v.k (a := 68) (by decide)
  have k69 := v.k (a := 69) (by decide)
  have k70 := v.k (a := 70) (by decide)
  have k71 := v.k (a := 71) (by decide)
  have k74 := v.k (a := 74) (by decide)
  have k75 := v.k (a := 75) (by decide)
  try simp only [k65, k66, k67, k68, k69, k70, k71, k74, k75, v.x, v.rk, v.uS, v.uX, v.ua, v.og, v.cvd, v.row, v.U, v.W, v.leaf, v.fw, v.ff, v.cn, v.dg] at h2
  clear k65 k66 k67 k68 k69 k70 k74 k75
  by_cases d : 0 ≤ i ∧ i < μ 71 0 ∧ 0 ≤ c ∧ c ≤ 10 ∧ 0 ≤ r ∧ r < 6
  · have g1_1 := h1.2 (by clear h1 h2; first | exact d | omega | exact Classical.not_not.mp d)
    have g2_1 := h2.2 d
    have hi : 0 ≤ i ∧ i < μ 0 3 := by clear h1 h2 g1_1 g2_1; omega
    have er := hI.rsz (r := r) (by clear h1 h2 g1_1 g2_1; omega)
    have eR := hI.rs gf_vw.rf r (by clear h1 h2 g1_1 g2_1; omega) (by clear h1 h2 g1_1 g2_1; omega)
    by_cases d_1 : μ 66 r ≠ -1
    · have g1_1_1 := g1_1.2 (by clear h1 h2 g1_1 g2_1; first | exact d_1 | omega | exact Classical.not_not.mp d_1)
      have g2_1_1 := g2_1.2 d_1
      by_cases d_1_1 : 1 ≤ μ 66 r ∧ μ 66 r ≤ 8
      · have g1_1_1_1 := g1_1_1.2 (by clear h1 h2 g1_1 g2_1 g1_1_1 g2_1_1; first | exact d_1_1 | omega | exact Classical.not_not.mp d_1_1)
        have g2_1_1_1 := g2_1_1.2 d_1_1
        by_cases d_1_1_1 : ((∀ j : Int, 0 ≤ j → j < μ 66 r → -1 ≤ (gm_row μ r) j ∧ (gm_row μ r) j ≤ 9) ∧ pf_cnt (fun j => decide ((gm_row μ r) j = -1)) (μ 66 r).toNat ≤ 3)
        · have g1_1_1_1_1 := g1_1_1_1.2 ((hI.sm (r := r) (by omega)).mpr d_1_1_1)
          have g2_1_1_1_1 := g2_1_1_1.2 d_1_1_1
          obtain ⟨eV, eY⟩ := gm_fills_V (μ := μ) (i := i) (c := c) (n := μ 66 r) (x := μ (3 + 2 * r)) (y := gm_row μ r) (by clear h1 h2 g1_1 g2_1 g1_1_1 g2_1_1 g1_1_1_1 g2_1_1_1 g1_1_1_1_1 g2_1_1_1_1; omega) (hI.row (by clear h1 h2 g1_1 g2_1 g1_1_1 g2_1_1 g1_1_1_1 g2_1_1_1 g1_1_1_1_1 g2_1_1_1_1; omega)) d_1_1_1.1
          rw [hI.k0 hi, hI.k1 hi, hI.k2 hi, er, eV] at g1_1_1_1_1
          by_cases d_1_1_1_1 : pf_cnt (gm_fw μ i c (gm_row μ r) (μ 66 r) (gm_hc (gm_row μ r) (μ 66 r))) (10 ^ (gm_hc (gm_row μ r) (μ 66 r)).toNat) ≠ 0
          · have g1_1_1_1_1_1 := g1_1_1_1_1.2 (by clear h1 h2 g1_1 g2_1 g1_1_1 g2_1_1 g1_1_1_1 g2_1_1_1 g1_1_1_1_1 g2_1_1_1_1; first | exact d_1_1_1_1 | omega | exact Classical.not_not.mp d_1_1_1_1)
            have g2_1_1_1_1_1 := g2_1_1_1_1.2 d_1_1_1_1
            clear h1 h2 g1_1 g2_1 g1_1_1 g2_1_1 g1_1_1_1 g2_1_1_1 g1_1_1_1_1 g2_1_1_1_1
            exact ⟨g1_1_1_1_1_1.1.trans g2_1_1_1_1_1.1.symm, lf_tl hI g1_1_1_1_1_1.2 g2_1_1_1_1_1.2 (eY d_1_1_1_1)⟩
          · skip
            have g1_1_1_1_1_0 := g1_1_1_1_1.1 (by clear h1 h2 g1_1 g2_1 g1_1_1 g2_1_1 g1_1_1_1 g2_1_1_1 g1_1_1_1_1 g2_1_1_1_1; first | exact d_1_1_1_1 | omega | exact Classical.not_not.mp d_1_1_1_1)
            have g2_1_1_1_1_0 := g2_1_1_1_1.1 (by clear h1 h2 g1_1 g2_1 g1_1_1 g2_1_1 g1_1_1_1 g2_1_1_1 g1_1_1_1_1 g2_1_1_1_1; first | exact d_1_1_1_1 | omega | exact Classical.not_not.mp d_1_1_1_1)
            clear h1 h2 g1_1 g2_1 g1_1_1 g2_1_1 g1_1_1_1 g2_1_1_1 g1_1_1_1_1 g2_1_1_1_1
            exact ⟨g1_1_1_1_1_0.1.trans g2_1_1_1_1_0.1.symm, lf_sc hI g1_1_1_1_1_0.2 g2_1_1_1_1_0.2⟩
        · skip
          have g1_1_1_1_0 := g1_1_1_1.1 (fun z => d_1_1_1 ((hI.sm (r := r) (by omega)).mp z))
          have g2_1_1_1_0 := g2_1_1_1.1 (by clear h1 h2 g1_1 g2_1 g1_1_1 g2_1_1 g1_1_1_1 g2_1_1_1; first | exact d_1_1_1 | omega | exact Classical.not_not.mp d_1_1_1)
          clear h1 h2 g1_1 g2_1 g1_1_1 g2_1_1 g1_1_1_1 g2_1_1_1
          exact ⟨g1_1_1_1_0.1.trans g2_1_1_1_0.1.symm, lf_fds hI (by decide) g1_1_1_1_0.2 g2_1_1_1_0.2⟩
      · skip
        have g1_1_1_0 := g1_1_1.1 (by clear h1 h2 g1_1 g2_1 g1_1_1 g2_1_1; first | exact d_1_1 | omega | exact Classical.not_not.mp d_1_1)
        have g2_1_1_0 := g2_1_1.1 (by clear h1 h2 g1_1 g2_1 g1_1_1 g2_1_1; first | exact d_1_1 | omega | exact Classical.not_not.mp d_1_1)
        clear h1 h2 g1_1 g2_1 g1_1_1 g2_1_1
        exact ⟨g1_1_1_0.1.trans g2_1_1_0.1.symm, lf_fd hI (by decide) g1_1_1_0.2 g2_1_1_0.2⟩
    · skip
      have g1_1_0 := g1_1.1 (by clear h1 h2 g1_1 g2_1; first | exact d_1 | omega | exact Classical.not_not.mp d_1)
      have g2_1_0 := g2_1.1 (by clear h1 h2 g1_1 g2_1; first | exact d_1 | omega | exact Classical.not_not.mp d_1)
      clear h1 h2 g1_1 g2_1
      exact ⟨g1_1_0.1.trans g2_1_0.1.symm, lf_fd hI (by decide) g1_1_0.2 g2_1_0.2⟩
  · skip
    have g1_0 := h1.1 (by clear h1 h2; first | exact d | omega | exact Classical.not_not.mp d)
    have g2_0 := h2.1 (by clear h1 h2; first | exact d | omega | exact Classical.not_not.mp d)
    clear h1 h2
    exact ⟨g1_0.1.trans g2_0.1.symm, lf_same hI g1_0.2 g2_0.2⟩
theorem vw_kinds {μ μ1 : gf_M} {i r q1 : Int} (hI : gf_I μ) (h1 : (¬ (0 ≤ i ∧ i < μ 0 3 ∧ 0 ≤ r ∧ r < 6) → q1 = -1 ∧ μ1 = μ) ∧ (0 ≤ i ∧ i < μ 0 3 ∧ 0 ≤ r ∧ r < 6 → (μ (2 + 2 * r) 1 = -1 → q1 = -3 ∧ μ1 = gf_fd μ 1) ∧ (μ (2 + 2 * r) 1 ≠ -1 → (¬ (2 ≤ μ (2 + 2 * r) 1 ∧ μ (2 + 2 * r) 1 ≤ 9) → q1 = -3 ∧ μ1 = gf_fd μ 5) ∧ (2 ≤ μ (2 + 2 * r) 1 ∧ μ (2 + 2 * r) 1 ≤ 9 → (¬ pf_eok (μ (3 + 2 * r)) (μ (2 + 2 * r) 1) → q1 = -3 ∧ μ1 = gf_fd μ 3) ∧ (pf_eok (μ (3 + 2 * r)) (μ (2 + 2 * r) 1) → q1 = pf_ksB (μ (24 + i) 1) (μ (24 + i) 2) (μ (3 + 2 * r)) (μ (2 + 2 * r) 1) ∧ gf_sc μ1 μ))))) : gf_vw μ1 μ := by
  have hs := hI.s
  have hd := hI.d
  have hc7 := hI.c7
  by_cases d : 0 ≤ i ∧ i < μ 0 3 ∧ 0 ≤ r ∧ r < 6
  · have g1_1 := h1.2 d
    by_cases d_1 : μ (2 + 2 * r) 1 ≠ -1
    · have g1_1_1 := g1_1.2 d_1
      by_cases d_1_1 : 2 ≤ μ (2 + 2 * r) 1 ∧ μ (2 + 2 * r) 1 ≤ 9
      · have g1_1_1_1 := g1_1_1.2 d_1_1
        by_cases d_1_1_1 : pf_eok (μ (3 + 2 * r)) (μ (2 + 2 * r) 1)
        · have g1_1_1_1_1 := g1_1_1_1.2 d_1_1_1
          exact gf_vw.of_sc g1_1_1_1_1.2
        · skip
          have g1_1_1_1_0 := g1_1_1_1.1 (by clear h1 g1_1 g1_1_1 g1_1_1_1; first | exact d_1_1_1 | omega | exact Classical.not_not.mp d_1_1_1)
          exact gf_vw.of_fd g1_1_1_1_0.2
      · skip
        have g1_1_1_0 := g1_1_1.1 (by clear h1 g1_1 g1_1_1; first | exact d_1_1 | omega | exact Classical.not_not.mp d_1_1)
        exact gf_vw.of_fd g1_1_1_0.2
    · skip
      have g1_1_0 := g1_1.1 (by clear h1 g1_1; first | exact d_1 | omega | exact Classical.not_not.mp d_1)
      exact gf_vw.of_fd g1_1_0.2
  · skip
    have g1_0 := h1.1 (by clear h1; first | exact d | omega | exact Classical.not_not.mp d)
    exact gf_vw.of_eq g1_0.2
set_option maxHeartbeats 1000000 in
theorem st_kinds {μ μ1 μ2 : gf_M} {i r q1 q2 : Int} (hI : gf_I μ) (h1 : (¬ (0 ≤ i ∧ i < μ 0 3 ∧ 0 ≤ r ∧ r < 6) → q1 = -1 ∧ μ1 = μ) ∧ (0 ≤ i ∧ i < μ 0 3 ∧ 0 ≤ r ∧ r < 6 → (μ (2 + 2 * r) 1 = -1 → q1 = -3 ∧ μ1 = gf_fd μ 1) ∧ (μ (2 + 2 * r) 1 ≠ -1 → (¬ (2 ≤ μ (2 + 2 * r) 1 ∧ μ (2 + 2 * r) 1 ≤ 9) → q1 = -3 ∧ μ1 = gf_fd μ 5) ∧ (2 ≤ μ (2 + 2 * r) 1 ∧ μ (2 + 2 * r) 1 ≤ 9 → (¬ pf_eok (μ (3 + 2 * r)) (μ (2 + 2 * r) 1) → q1 = -3 ∧ μ1 = gf_fd μ 3) ∧ (pf_eok (μ (3 + 2 * r)) (μ (2 + 2 * r) 1) → q1 = pf_ksB (μ (24 + i) 1) (μ (24 + i) 2) (μ (3 + 2 * r)) (μ (2 + 2 * r) 1) ∧ gf_sc μ1 μ))))) (h2 : (¬ (0 ≤ i ∧ i < μ1 71 0 ∧ 0 ≤ r ∧ r < 6) → q2 = -1 ∧ μ2 = μ1) ∧ (0 ≤ i ∧ i < μ1 71 0 ∧ 0 ≤ r ∧ r < 6 → (μ1 66 r = -1 → q2 = -3 ∧ μ2 = gm_fd μ1 1) ∧ (μ1 66 r ≠ -1 → (¬ (2 ≤ μ1 66 r ∧ μ1 66 r ≤ 9) → q2 = -3 ∧ μ2 = gm_fd μ1 5) ∧ (2 ≤ μ1 66 r ∧ μ1 66 r ≤ 9 → (¬ pf_eok (gm_row μ1 r) (μ1 66 r) → q2 = -3 ∧ gm_sc μ2 (gm_fd μ1 3)) ∧ (pf_eok (gm_row μ1 r) (μ1 66 r) → q2 = pf_ksB (μ1 71 (10 + i)) (μ1 71 (17 + i)) (gm_row μ1 r) (μ1 66 r) ∧ gm_sc μ2 μ1))))) : q1 = q2 ∧ gf_I μ2 := by
  have v := vw_kinds hI h1
  have hc := hI.c
  have hn := hI.n
  have hdn := hI.dn
  have hs := hI.s
  have hd := hI.d
  have hc7 := hI.c7
  have k65 := v.k (a := 65) (by decide)
  have k66 := v.k (a := 66) (by decide)
  have k67 := v.k (a := 67) (by decide)
  have k68 := v.k (a := 68) (by decide)
  have k69 := v.k (a := 69) (by decide)
  have k70 := v.k (a := 70) (by decide)
  have k71 := v.k (a := 71) (by decide)
  have k74 := v.k (a := 74) (by decide)
  have k75 := v.k (a := 75) (by decide)
  try simp only [k65, k66, k67, k68, k69, k70, k71, k74, k75, v.x, v.rk, v.uS, v.uX, v.ua, v.og, v.cvd, v.row, v.U, v.W, v.leaf, v.fw, v.ff, v.cn, v.dg] at h2
  clear k65 k66 k67 k68 k69 k70 k74 k75
  by_cases d : 0 ≤ i ∧ i < μ 71 0 ∧ 0 ≤ r ∧ r < 6
  · have g1_1 := h1.2 (by clear h1 h2; first | exact d | omega | exact Classical.not_not.mp d)
    have g2_1 := h2.2 d
    have hi : 0 ≤ i ∧ i < μ 0 3 := by clear h1 h2 g1_1 g2_1; omega
    have er := hI.rsz (r := r) (by clear h1 h2 g1_1 g2_1; omega)
    have eR := hI.rs gf_vw.rf r (by clear h1 h2 g1_1 g2_1; omega) (by clear h1 h2 g1_1 g2_1; omega)
    by_cases d_1 : μ 66 r ≠ -1
    · have g1_1_1 := g1_1.2 (by clear h1 h2 g1_1 g2_1; first | exact d_1 | omega | exact Classical.not_not.mp d_1)
      have g2_1_1 := g2_1.2 d_1
      by_cases d_1_1 : 2 ≤ μ 66 r ∧ μ 66 r ≤ 9
      · have g1_1_1_1 := g1_1_1.2 (by clear h1 h2 g1_1 g2_1 g1_1_1 g2_1_1; first | exact d_1_1 | omega | exact Classical.not_not.mp d_1_1)
        have g2_1_1_1 := g2_1_1.2 d_1_1
        by_cases d_1_1_1 : pf_eok (gm_row μ r) (μ 66 r)
        · have g1_1_1_1_1 := g1_1_1_1.2 ((hI.eok (r := r) (by omega) (by omega)).mpr d_1_1_1)
          have g2_1_1_1_1 := g2_1_1_1.2 d_1_1_1
          clear h1 h2 g1_1 g2_1 g1_1_1 g2_1_1 g1_1_1_1 g2_1_1_1
          exact ⟨g1_1_1_1_1.1.trans (Eq.trans (by rw [hI.k1 hi, hI.k2 hi, er]; exact pf_ksB_congr (by omega) (hI.row (by omega))) g2_1_1_1_1.1.symm), lf_sc hI g1_1_1_1_1.2 g2_1_1_1_1.2⟩
        · skip
          have g1_1_1_1_0 := g1_1_1_1.1 (fun z => d_1_1_1 ((hI.eok (r := r) (by omega) (by omega)).mp z))
          have g2_1_1_1_0 := g2_1_1_1.1 (by clear h1 h2 g1_1 g2_1 g1_1_1 g2_1_1 g1_1_1_1 g2_1_1_1; first | exact d_1_1_1 | omega | exact Classical.not_not.mp d_1_1_1)
          clear h1 h2 g1_1 g2_1 g1_1_1 g2_1_1 g1_1_1_1 g2_1_1_1
          exact ⟨g1_1_1_1_0.1.trans g2_1_1_1_0.1.symm, lf_fds hI (by decide) g1_1_1_1_0.2 g2_1_1_1_0.2⟩
      · skip
        have g1_1_1_0 := g1_1_1.1 (by clear h1 h2 g1_1 g2_1 g1_1_1 g2_1_1; first | exact d_1_1 | omega | exact Classical.not_not.mp d_1_1)
        have g2_1_1_0 := g2_1_1.1 (by clear h1 h2 g1_1 g2_1 g1_1_1 g2_1_1; first | exact d_1_1 | omega | exact Classical.not_not.mp d_1_1)
        clear h1 h2 g1_1 g2_1 g1_1_1 g2_1_1
        exact ⟨g1_1_1_0.1.trans g2_1_1_0.1.symm, lf_fd hI (by decide) g1_1_1_0.2 g2_1_1_0.2⟩
    · skip
      have g1_1_0 := g1_1.1 (by clear h1 h2 g1_1 g2_1; first | exact d_1 | omega | exact Classical.not_not.mp d_1)
      have g2_1_0 := g2_1.1 (by clear h1 h2 g1_1 g2_1; first | exact d_1 | omega | exact Classical.not_not.mp d_1)
      clear h1 h2 g1_1 g2_1
      exact ⟨g1_1_0.1.trans g2_1_0.1.symm, lf_fd hI (by decide) g1_1_0.2 g2_1_0.2⟩
  · skip
    have g1_0 := h1.1 (by clear h1 h2; first | exact d | omega | exact Classical.not_not.mp d)
    have g2_0 := h2.1 (by clear h1 h2; first | exact d | omega | exact Classical.not_not.mp d)
    clear h1 h2
    exact ⟨g1_0.1.trans g2_0.1.symm, lf_same hI g1_0.2 g2_0.2⟩
theorem vw_firsts {μ μ1 : gf_M} {i r q1 : Int} (hI : gf_I μ) (h1 : (¬ (0 ≤ i ∧ i < μ 0 3 ∧ 0 ≤ r ∧ r < 6) → q1 = -1 ∧ μ1 = μ) ∧ (0 ≤ i ∧ i < μ 0 3 ∧ 0 ≤ r ∧ r < 6 → (μ (2 + 2 * r) 1 = -1 → q1 = -3 ∧ μ1 = gf_fd μ 1) ∧ (μ (2 + 2 * r) 1 ≠ -1 → (¬ (2 ≤ μ (2 + 2 * r) 1 ∧ μ (2 + 2 * r) 1 ≤ 9) → q1 = -3 ∧ μ1 = gf_fd μ 5) ∧ (2 ≤ μ (2 + 2 * r) 1 ∧ μ (2 + 2 * r) 1 ≤ 9 → (¬ pf_eok (μ (3 + 2 * r)) (μ (2 + 2 * r) 1) → q1 = -3 ∧ μ1 = gf_fd μ 3) ∧ (pf_eok (μ (3 + 2 * r)) (μ (2 + 2 * r) 1) → q1 = pf_set (fun f => decide (pf_reck (μ (24 + i) 0) f (μ (24 + i) 2) (μ (3 + 2 * r)) (μ (2 + 2 * r) 1 - 1) = μ (3 + 2 * r) (μ (2 + 2 * r) 1 - 1))) 10 ∧ gf_sc μ1 μ))))) : gf_vw μ1 μ := by
  have hs := hI.s
  have hd := hI.d
  have hc7 := hI.c7
  by_cases d : 0 ≤ i ∧ i < μ 0 3 ∧ 0 ≤ r ∧ r < 6
  · have g1_1 := h1.2 d
    by_cases d_1 : μ (2 + 2 * r) 1 ≠ -1
    · have g1_1_1 := g1_1.2 d_1
      by_cases d_1_1 : 2 ≤ μ (2 + 2 * r) 1 ∧ μ (2 + 2 * r) 1 ≤ 9
      · have g1_1_1_1 := g1_1_1.2 d_1_1
        by_cases d_1_1_1 : pf_eok (μ (3 + 2 * r)) (μ (2 + 2 * r) 1)
        · have g1_1_1_1_1 := g1_1_1_1.2 d_1_1_1
          exact gf_vw.of_sc g1_1_1_1_1.2
        · skip
          have g1_1_1_1_0 := g1_1_1_1.1 (by clear h1 g1_1 g1_1_1 g1_1_1_1; first | exact d_1_1_1 | omega | exact Classical.not_not.mp d_1_1_1)
          exact gf_vw.of_fd g1_1_1_1_0.2
      · skip
        have g1_1_1_0 := g1_1_1.1 (by clear h1 g1_1 g1_1_1; first | exact d_1_1 | omega | exact Classical.not_not.mp d_1_1)
        exact gf_vw.of_fd g1_1_1_0.2
    · skip
      have g1_1_0 := g1_1.1 (by clear h1 g1_1; first | exact d_1 | omega | exact Classical.not_not.mp d_1)
      exact gf_vw.of_fd g1_1_0.2
  · skip
    have g1_0 := h1.1 (by clear h1; first | exact d | omega | exact Classical.not_not.mp d)
    exact gf_vw.of_eq g1_0.2
set_option maxHeartbeats 1000000 in
theorem st_firsts {μ μ1 μ2 : gf_M} {i r q1 q2 : Int} (hI : gf_I μ) (h1 : (¬ (0 ≤ i ∧ i < μ 0 3 ∧ 0 ≤ r ∧ r < 6) → q1 = -1 ∧ μ1 = μ) ∧ (0 ≤ i ∧ i < μ 0 3 ∧ 0 ≤ r ∧ r < 6 → (μ (2 + 2 * r) 1 = -1 → q1 = -3 ∧ μ1 = gf_fd μ 1) ∧ (μ (2 + 2 * r) 1 ≠ -1 → (¬ (2 ≤ μ (2 + 2 * r) 1 ∧ μ (2 + 2 * r) 1 ≤ 9) → q1 = -3 ∧ μ1 = gf_fd μ 5) ∧ (2 ≤ μ (2 + 2 * r) 1 ∧ μ (2 + 2 * r) 1 ≤ 9 → (¬ pf_eok (μ (3 + 2 * r)) (μ (2 + 2 * r) 1) → q1 = -3 ∧ μ1 = gf_fd μ 3) ∧ (pf_eok (μ (3 + 2 * r)) (μ (2 + 2 * r) 1) → q1 = pf_set (fun f => decide (pf_reck (μ (24 + i) 0) f (μ (24 + i) 2) (μ (3 + 2 * r)) (μ (2 + 2 * r) 1 - 1) = μ (3 + 2 * r) (μ (2 + 2 * r) 1 - 1))) 10 ∧ gf_sc μ1 μ))))) (h2 : (¬ (0 ≤ i ∧ i < μ1 71 0 ∧ 0 ≤ r ∧ r < 6) → q2 = -1 ∧ μ2 = μ1) ∧ (0 ≤ i ∧ i < μ1 71 0 ∧ 0 ≤ r ∧ r < 6 → (μ1 66 r = -1 → q2 = -3 ∧ μ2 = gm_fd μ1 1) ∧ (μ1 66 r ≠ -1 → (¬ (2 ≤ μ1 66 r ∧ μ1 66 r ≤ 9) → q2 = -3 ∧ μ2 = gm_fd μ1 5) ∧ (2 ≤ μ1 66 r ∧ μ1 66 r ≤ 9 → (¬ pf_eok (gm_row μ1 r) (μ1 66 r) → q2 = -3 ∧ gm_sc μ2 (gm_fd μ1 3)) ∧ (pf_eok (gm_row μ1 r) (μ1 66 r) → q2 = pf_set (fun f => decide (pf_reck (μ1 71 (3 + i)) f (μ1 71 (17 + i)) (gm_row μ1 r) (μ1 66 r - 1) = gm_row μ1 r (μ1 66 r - 1))) 10 ∧ gm_sc μ2 μ1))))) : q1 = q2 ∧ gf_I μ2 := by
  have v := vw_firsts hI h1
  have hc := hI.c
  have hn := hI.n
  have hdn := hI.dn
  have hs := hI.s
  have hd := hI.d
  have hc7 := hI.c7
  have k65 := v.k (a := 65) (by decide)
  have k66 := v.k (a := 66) (by decide)
  have k67 := v.k (a := 67) (by decide)
  have k68 := v.k (a := 68) (by decide)
  have k69 := v.k (a := 69) (by decide)
  have k70 := v.k (a := 70) (by decide)
  have k71 := v.k (a := 71) (by decide)
  have k74 := v.k (a := 74) (by decide)
  have k75 := v.k (a := 75) (by decide)
  try simp only [k65, k66, k67, k68, k69, k70, k71, k74, k75, v.x, v.rk, v.uS, v.uX, v.ua, v.og, v.cvd, v.row, v.U, v.W, v.leaf, v.fw, v.ff, v.cn, v.dg] at h2
  clear k65 k66 k67 k68 k69 k70 k74 k75
  by_cases d : 0 ≤ i ∧ i < μ 71 0 ∧ 0 ≤ r ∧ r < 6
  · have g1_1 := h1.2 (by clear h1 h2; first | exact d | omega | exact Classical.not_not.mp d)
    have g2_1 := h2.2 d
    have hi : 0 ≤ i ∧ i < μ 0 3 := by clear h1 h2 g1_1 g2_1; omega
    have er := hI.rsz (r := r) (by clear h1 h2 g1_1 g2_1; omega)
    have eR := hI.rs gf_vw.rf r (by clear h1 h2 g1_1 g2_1; omega) (by clear h1 h2 g1_1 g2_1; omega)
    by_cases d_1 : μ 66 r ≠ -1
    · have g1_1_1 := g1_1.2 (by clear h1 h2 g1_1 g2_1; first | exact d_1 | omega | exact Classical.not_not.mp d_1)
      have g2_1_1 := g2_1.2 d_1
      by_cases d_1_1 : 2 ≤ μ 66 r ∧ μ 66 r ≤ 9
      · have g1_1_1_1 := g1_1_1.2 (by clear h1 h2 g1_1 g2_1 g1_1_1 g2_1_1; first | exact d_1_1 | omega | exact Classical.not_not.mp d_1_1)
        have g2_1_1_1 := g2_1_1.2 d_1_1
        by_cases d_1_1_1 : pf_eok (gm_row μ r) (μ 66 r)
        · have g1_1_1_1_1 := g1_1_1_1.2 ((hI.eok (r := r) (by omega) (by omega)).mpr d_1_1_1)
          have g2_1_1_1_1 := g2_1_1_1.2 d_1_1_1
          clear h1 h2 g1_1 g2_1 g1_1_1 g2_1_1 g1_1_1_1 g2_1_1_1
          exact ⟨g1_1_1_1_1.1.trans (Eq.trans (by
              rw [hI.k0 hi, hI.k2 hi, er]
              refine pf_set_congr 10 (fun f _ _ => ?_)
              show decide _ = decide _
              rw [pf_reck_congr (f := μ (3 + 2 * r)) (g := gm_row μ r) (size := μ 66 r - 1) (fun j a b => hI.row (r := r) (by omega) j a (by omega)), hI.row (r := r) (by omega) (μ 66 r - 1) (by omega) (by omega)]) g2_1_1_1_1.1.symm), lf_sc hI g1_1_1_1_1.2 g2_1_1_1_1.2⟩
        · skip
          have g1_1_1_1_0 := g1_1_1_1.1 (fun z => d_1_1_1 ((hI.eok (r := r) (by omega) (by omega)).mp z))
          have g2_1_1_1_0 := g2_1_1_1.1 (by clear h1 h2 g1_1 g2_1 g1_1_1 g2_1_1 g1_1_1_1 g2_1_1_1; first | exact d_1_1_1 | omega | exact Classical.not_not.mp d_1_1_1)
          clear h1 h2 g1_1 g2_1 g1_1_1 g2_1_1 g1_1_1_1 g2_1_1_1
          exact ⟨g1_1_1_1_0.1.trans g2_1_1_1_0.1.symm, lf_fds hI (by decide) g1_1_1_1_0.2 g2_1_1_1_0.2⟩
      · skip
        have g1_1_1_0 := g1_1_1.1 (by clear h1 h2 g1_1 g2_1 g1_1_1 g2_1_1; first | exact d_1_1 | omega | exact Classical.not_not.mp d_1_1)
        have g2_1_1_0 := g2_1_1.1 (by clear h1 h2 g1_1 g2_1 g1_1_1 g2_1_1; first | exact d_1_1 | omega | exact Classical.not_not.mp d_1_1)
        clear h1 h2 g1_1 g2_1 g1_1_1 g2_1_1
        exact ⟨g1_1_1_0.1.trans g2_1_1_0.1.symm, lf_fd hI (by decide) g1_1_1_0.2 g2_1_1_0.2⟩
    · skip
      have g1_1_0 := g1_1.1 (by clear h1 h2 g1_1 g2_1; first | exact d_1 | omega | exact Classical.not_not.mp d_1)
      have g2_1_0 := g2_1.1 (by clear h1 h2 g1_1 g2_1; first | exact d_1 | omega | exact Classical.not_not.mp d_1)
      clear h1 h2 g1_1 g2_1
      exact ⟨g1_1_0.1.trans g2_1_0.1.symm, lf_fd hI (by decide) g1_1_0.2 g2_1_0.2⟩
  · skip
    have g1_0 := h1.1 (by clear h1 h2; first | exact d | omega | exact Classical.not_not.mp d)
    have g2_0 := h2.1 (by clear h1 h2; first | exact d | omega | exact Classical.not_not.mp d)
    clear h1 h2
    exact ⟨g1_0.1.trans g2_0.1.symm, lf_same hI g1_0.2 g2_0.2⟩
theorem vw_test {μ μ1 : gf_M} {i r q1 : Int} (hI : gf_I μ) (h1 : (¬ (0 ≤ i ∧ i < μ 0 3 ∧ 0 ≤ r ∧ r < 6) → q1 = -1 ∧ μ1 = μ) ∧ (0 ≤ i ∧ i < μ 0 3 ∧ 0 ≤ r ∧ r < 6 → (μ 41 1 = 8 → q1 = -4 ∧ μ1 = μ) ∧ (μ 41 1 < 8 → (μ (2 + 2 * r) 1 = -1 → q1 = -3 ∧ μ1 = gf_fd μ 1) ∧ (μ (2 + 2 * r) 1 ≠ -1 → (¬ (2 ≤ μ (2 + 2 * r) 1 ∧ μ (2 + 2 * r) 1 ≤ 9) → q1 = -3 ∧ μ1 = gf_fd μ 5) ∧ (2 ≤ μ (2 + 2 * r) 1 ∧ μ (2 + 2 * r) 1 ≤ 9 → (¬ pf_eok (μ (3 + 2 * r)) (μ (2 + 2 * r) 1) → q1 = -3 ∧ μ1 = gf_fd μ 3) ∧ (pf_eok (μ (3 + 2 * r)) (μ (2 + 2 * r) 1) → (pf_ksB (μ (24 + i) 1) (μ (24 + i) 2) (μ (3 + 2 * r)) (μ (2 + 2 * r) 1) = 0 → q1 = -9 ∧ gf_sc μ1 μ) ∧ (pf_ksB (μ (24 + i) 1) (μ (24 + i) 2) (μ (3 + 2 * r)) (μ (2 + 2 * r) 1) ≠ 0 → q1 = (pf_fst (fun f => pf_maxp (pf_ksB (μ (24 + i) 1) (μ (24 + i) 2) (μ (3 + 2 * r)) (μ (2 + 2 * r) 1)) (fun kd => pf_reck kd (μ (24 + i) 1) (μ (24 + i) 2) (pf_apd (μ 42) (μ 41 1) f) (μ 41 1 + 1)) 6) 9).1 ∧ gf_sc μ1 (gf_tl μ (pf_fst (fun f => pf_maxp (pf_ksB (μ (24 + i) 1) (μ (24 + i) 2) (μ (3 + 2 * r)) (μ (2 + 2 * r) 1)) (fun kd => pf_reck kd (μ (24 + i) 1) (μ (24 + i) 2) (pf_apd (μ 42) (μ 41 1) f) (μ 41 1 + 1)) 6) 9).2)))))))) : gf_vw μ1 μ := by
  have hs := hI.s
  have hd := hI.d
  have hc7 := hI.c7
  by_cases d : 0 ≤ i ∧ i < μ 0 3 ∧ 0 ≤ r ∧ r < 6
  · have g1_1 := h1.2 d
    by_cases d_1 : μ 41 1 < 8
    · have g1_1_1 := g1_1.2 d_1
      by_cases d_1_1 : μ (2 + 2 * r) 1 ≠ -1
      · have g1_1_1_1 := g1_1_1.2 d_1_1
        by_cases d_1_1_1 : 2 ≤ μ (2 + 2 * r) 1 ∧ μ (2 + 2 * r) 1 ≤ 9
        · have g1_1_1_1_1 := g1_1_1_1.2 d_1_1_1
          by_cases d_1_1_1_1 : pf_eok (μ (3 + 2 * r)) (μ (2 + 2 * r) 1)
          · have g1_1_1_1_1_1 := g1_1_1_1_1.2 d_1_1_1_1
            by_cases d_1_1_1_1_1 : pf_ksB (μ (24 + i) 1) (μ (24 + i) 2) (μ (3 + 2 * r)) (μ (2 + 2 * r) 1) ≠ 0
            · have g1_1_1_1_1_1_1 := g1_1_1_1_1_1.2 d_1_1_1_1_1
              exact gf_vw.of_sctl g1_1_1_1_1_1_1.2
            · skip
              have g1_1_1_1_1_1_0 := g1_1_1_1_1_1.1 (by clear h1 g1_1 g1_1_1 g1_1_1_1 g1_1_1_1_1 g1_1_1_1_1_1; first | exact d_1_1_1_1_1 | omega | exact Classical.not_not.mp d_1_1_1_1_1)
              exact gf_vw.of_sc g1_1_1_1_1_1_0.2
          · skip
            have g1_1_1_1_1_0 := g1_1_1_1_1.1 (by clear h1 g1_1 g1_1_1 g1_1_1_1 g1_1_1_1_1; first | exact d_1_1_1_1 | omega | exact Classical.not_not.mp d_1_1_1_1)
            exact gf_vw.of_fd g1_1_1_1_1_0.2
        · skip
          have g1_1_1_1_0 := g1_1_1_1.1 (by clear h1 g1_1 g1_1_1 g1_1_1_1; first | exact d_1_1_1 | omega | exact Classical.not_not.mp d_1_1_1)
          exact gf_vw.of_fd g1_1_1_1_0.2
      · skip
        have g1_1_1_0 := g1_1_1.1 (by clear h1 g1_1 g1_1_1; first | exact d_1_1 | omega | exact Classical.not_not.mp d_1_1)
        exact gf_vw.of_fd g1_1_1_0.2
    · skip
      have g1_1_0 := g1_1.1 (by clear h1 g1_1; first | exact d_1 | omega | exact Classical.not_not.mp d_1)
      exact gf_vw.of_eq g1_1_0.2
  · skip
    have g1_0 := h1.1 (by clear h1; first | exact d | omega | exact Classical.not_not.mp d)
    exact gf_vw.of_eq g1_0.2
set_option maxHeartbeats 1000000 in
theorem st_test {μ μ1 μ2 : gf_M} {i r q1 q2 : Int} (hI : gf_I μ) (h1 : (¬ (0 ≤ i ∧ i < μ 0 3 ∧ 0 ≤ r ∧ r < 6) → q1 = -1 ∧ μ1 = μ) ∧ (0 ≤ i ∧ i < μ 0 3 ∧ 0 ≤ r ∧ r < 6 → (μ 41 1 = 8 → q1 = -4 ∧ μ1 = μ) ∧ (μ 41 1 < 8 → (μ (2 + 2 * r) 1 = -1 → q1 = -3 ∧ μ1 = gf_fd μ 1) ∧ (μ (2 + 2 * r) 1 ≠ -1 → (¬ (2 ≤ μ (2 + 2 * r) 1 ∧ μ (2 + 2 * r) 1 ≤ 9) → q1 = -3 ∧ μ1 = gf_fd μ 5) ∧ (2 ≤ μ (2 + 2 * r) 1 ∧ μ (2 + 2 * r) 1 ≤ 9 → (¬ pf_eok (μ (3 + 2 * r)) (μ (2 + 2 * r) 1) → q1 = -3 ∧ μ1 = gf_fd μ 3) ∧ (pf_eok (μ (3 + 2 * r)) (μ (2 + 2 * r) 1) → (pf_ksB (μ (24 + i) 1) (μ (24 + i) 2) (μ (3 + 2 * r)) (μ (2 + 2 * r) 1) = 0 → q1 = -9 ∧ gf_sc μ1 μ) ∧ (pf_ksB (μ (24 + i) 1) (μ (24 + i) 2) (μ (3 + 2 * r)) (μ (2 + 2 * r) 1) ≠ 0 → q1 = (pf_fst (fun f => pf_maxp (pf_ksB (μ (24 + i) 1) (μ (24 + i) 2) (μ (3 + 2 * r)) (μ (2 + 2 * r) 1)) (fun kd => pf_reck kd (μ (24 + i) 1) (μ (24 + i) 2) (pf_apd (μ 42) (μ 41 1) f) (μ 41 1 + 1)) 6) 9).1 ∧ gf_sc μ1 (gf_tl μ (pf_fst (fun f => pf_maxp (pf_ksB (μ (24 + i) 1) (μ (24 + i) 2) (μ (3 + 2 * r)) (μ (2 + 2 * r) 1)) (fun kd => pf_reck kd (μ (24 + i) 1) (μ (24 + i) 2) (pf_apd (μ 42) (μ 41 1) f) (μ 41 1 + 1)) 6) 9).2)))))))) (h2 : (¬ (0 ≤ i ∧ i < μ1 71 0 ∧ 0 ≤ r ∧ r < 6) → q2 = -1 ∧ μ2 = μ1) ∧ (0 ≤ i ∧ i < μ1 71 0 ∧ 0 ≤ r ∧ r < 6 → (μ1 71 1 = 8 → q2 = -4 ∧ μ2 = μ1) ∧ (μ1 71 1 < 8 → (μ1 66 r = -1 → q2 = -3 ∧ μ2 = gm_fd μ1 1) ∧ (μ1 66 r ≠ -1 → (¬ (2 ≤ μ1 66 r ∧ μ1 66 r ≤ 9) → q2 = -3 ∧ μ2 = gm_fd μ1 5) ∧ (2 ≤ μ1 66 r ∧ μ1 66 r ≤ 9 → (¬ pf_eok (gm_row μ1 r) (μ1 66 r) → q2 = -3 ∧ gm_sc μ2 (gm_fd μ1 3)) ∧ (pf_eok (gm_row μ1 r) (μ1 66 r) → (pf_ksB (μ1 71 (10 + i)) (μ1 71 (17 + i)) (gm_row μ1 r) (μ1 66 r) = 0 → q2 = -9 ∧ gm_sc μ2 μ1) ∧ (pf_ksB (μ1 71 (10 + i)) (μ1 71 (17 + i)) (gm_row μ1 r) (μ1 66 r) ≠ 0 → q2 = (pf_fst (gm_U μ1 i (pf_ksB (μ1 71 (10 + i)) (μ1 71 (17 + i)) (gm_row μ1 r) (μ1 66 r))) 9).1 ∧ gm_sc μ2 (gm_tl μ1 (pf_fst (gm_U μ1 i (pf_ksB (μ1 71 (10 + i)) (μ1 71 (17 + i)) (gm_row μ1 r) (μ1 66 r))) 9).2)))))))) : q1 = q2 ∧ gf_I μ2 := by
  have v := vw_test hI h1
  have hc := hI.c
  have hn := hI.n
  have hdn := hI.dn
  have hs := hI.s
  have hd := hI.d
  have hc7 := hI.c7
  have k65 := v.k (a := 65) (by decide)
  have k66 := v.k (a := 66) (by decide)
  have k67 := v.k (a := 67) (by decide)
  have k68 := v.k (a := 68) (by decide)
  have k69 := v.k (a := 69) (by decide)
  have k70 := v.k (a := 70) (by decide)
  have k71 := v.k (a := 71) (by decide)
  have k74 := v.k (a := 74) (by decide)
  have k75 := v.k (a := 75) (by decide)
  try simp only [k65, k66, k67, k68, k69, k70, k71, k74, k75, v.x, v.rk, v.uS, v.uX, v.ua, v.og, v.cvd, v.row, v.U, v.W, v.leaf, v.fw, v.ff, v.cn, v.dg] at h2
  clear k65 k66 k67 k68 k69 k70 k74 k75
  by_cases d : 0 ≤ i ∧ i < μ 71 0 ∧ 0 ≤ r ∧ r < 6
  · have g1_1 := h1.2 (by clear h1 h2; first | exact d | omega | exact Classical.not_not.mp d)
    have g2_1 := h2.2 d
    have hi : 0 ≤ i ∧ i < μ 0 3 := by clear h1 h2 g1_1 g2_1; omega
    by_cases d_1 : μ 71 1 < 8
    · have g1_1_1 := g1_1.2 (by clear h1 h2 g1_1 g2_1; first | exact d_1 | omega | exact Classical.not_not.mp d_1)
      have g2_1_1 := g2_1.2 d_1
      have er := hI.rsz (r := r) (by clear h1 h2 g1_1 g2_1 g1_1_1 g2_1_1; omega)
      have eR := hI.rs gf_vw.rf r (by clear h1 h2 g1_1 g2_1 g1_1_1 g2_1_1; omega) (by clear h1 h2 g1_1 g2_1 g1_1_1 g2_1_1; omega)
      by_cases d_1_1 : μ 66 r ≠ -1
      · have g1_1_1_1 := g1_1_1.2 (by clear h1 h2 g1_1 g2_1 g1_1_1 g2_1_1; first | exact d_1_1 | omega | exact Classical.not_not.mp d_1_1)
        have g2_1_1_1 := g2_1_1.2 d_1_1
        by_cases d_1_1_1 : 2 ≤ μ 66 r ∧ μ 66 r ≤ 9
        · have g1_1_1_1_1 := g1_1_1_1.2 (by clear h1 h2 g1_1 g2_1 g1_1_1 g2_1_1 g1_1_1_1 g2_1_1_1; first | exact d_1_1_1 | omega | exact Classical.not_not.mp d_1_1_1)
          have g2_1_1_1_1 := g2_1_1_1.2 d_1_1_1
          by_cases d_1_1_1_1 : pf_eok (gm_row μ r) (μ 66 r)
          · have g1_1_1_1_1_1 := g1_1_1_1_1.2 ((hI.eok (r := r) (by omega) (by omega)).mpr d_1_1_1_1)
            have g2_1_1_1_1_1 := g2_1_1_1_1.2 d_1_1_1_1
            have eK : pf_ksB (μ (24 + i) 1) (μ (24 + i) 2) (μ (3 + 2 * r)) (μ (2 + 2 * r) 1) = pf_ksB (μ 71 (10 + i)) (μ 71 (17 + i)) (gm_row μ r) (μ 66 r) := by
              rw [hI.k1 hi, hI.k2 hi, er]
              exact pf_ksB_congr (by clear h1 h2 g1_1 g2_1 g1_1_1 g2_1_1 g1_1_1_1 g2_1_1_1 g1_1_1_1_1 g2_1_1_1_1 g1_1_1_1_1_1 g2_1_1_1_1_1; omega) (hI.row (by clear h1 h2 g1_1 g2_1 g1_1_1 g2_1_1 g1_1_1_1 g2_1_1_1 g1_1_1_1_1 g2_1_1_1_1 g1_1_1_1_1_1 g2_1_1_1_1_1; omega))
            rw [eK] at g1_1_1_1_1_1
            by_cases d_1_1_1_1_1 : pf_ksB (μ 71 (10 + i)) (μ 71 (17 + i)) (gm_row μ r) (μ 66 r) ≠ 0
            · have g1_1_1_1_1_1_1 := g1_1_1_1_1_1.2 (by clear h1 h2 g1_1 g2_1 g1_1_1 g2_1_1 g1_1_1_1 g2_1_1_1 g1_1_1_1_1 g2_1_1_1_1 g1_1_1_1_1_1 g2_1_1_1_1_1; first | exact d_1_1_1_1_1 | omega | exact Classical.not_not.mp d_1_1_1_1_1)
              have g2_1_1_1_1_1_1 := g2_1_1_1_1_1.2 d_1_1_1_1_1
              clear h1 h2 g1_1 g2_1 g1_1_1 g2_1_1 g1_1_1_1 g2_1_1_1 g1_1_1_1_1 g2_1_1_1_1 g1_1_1_1_1_1 g2_1_1_1_1_1
              have eF := hI.tst hi (pf_ksB (μ 71 (10 + i)) (μ 71 (17 + i)) (gm_row μ r) (μ 66 r))
              rw [eF] at g1_1_1_1_1_1_1
              exact ⟨g1_1_1_1_1_1_1.1.trans g2_1_1_1_1_1_1.1.symm, lf_tl hI g1_1_1_1_1_1_1.2 g2_1_1_1_1_1_1.2 rfl⟩
            · skip
              have g1_1_1_1_1_1_0 := g1_1_1_1_1_1.1 (by clear h1 h2 g1_1 g2_1 g1_1_1 g2_1_1 g1_1_1_1 g2_1_1_1 g1_1_1_1_1 g2_1_1_1_1 g1_1_1_1_1_1 g2_1_1_1_1_1; first | exact d_1_1_1_1_1 | omega | exact Classical.not_not.mp d_1_1_1_1_1)
              have g2_1_1_1_1_1_0 := g2_1_1_1_1_1.1 (by clear h1 h2 g1_1 g2_1 g1_1_1 g2_1_1 g1_1_1_1 g2_1_1_1 g1_1_1_1_1 g2_1_1_1_1 g1_1_1_1_1_1 g2_1_1_1_1_1; first | exact d_1_1_1_1_1 | omega | exact Classical.not_not.mp d_1_1_1_1_1)
              clear h1 h2 g1_1 g2_1 g1_1_1 g2_1_1 g1_1_1_1 g2_1_1_1 g1_1_1_1_1 g2_1_1_1_1 g1_1_1_1_1_1 g2_1_1_1_1_1
              exact ⟨g1_1_1_1_1_1_0.1.trans g2_1_1_1_1_1_0.1.symm, lf_sc hI g1_1_1_1_1_1_0.2 g2_1_1_1_1_1_0.2⟩
          · skip
            have g1_1_1_1_1_0 := g1_1_1_1_1.1 (fun z => d_1_1_1_1 ((hI.eok (r := r) (by omega) (by omega)).mp z))
            have g2_1_1_1_1_0 := g2_1_1_1_1.1 (by clear h1 h2 g1_1 g2_1 g1_1_1 g2_1_1 g1_1_1_1 g2_1_1_1 g1_1_1_1_1 g2_1_1_1_1; first | exact d_1_1_1_1 | omega | exact Classical.not_not.mp d_1_1_1_1)
            clear h1 h2 g1_1 g2_1 g1_1_1 g2_1_1 g1_1_1_1 g2_1_1_1 g1_1_1_1_1 g2_1_1_1_1
            exact ⟨g1_1_1_1_1_0.1.trans g2_1_1_1_1_0.1.symm, lf_fds hI (by decide) g1_1_1_1_1_0.2 g2_1_1_1_1_0.2⟩
        · skip
          have g1_1_1_1_0 := g1_1_1_1.1 (by clear h1 h2 g1_1 g2_1 g1_1_1 g2_1_1 g1_1_1_1 g2_1_1_1; first | exact d_1_1_1 | omega | exact Classical.not_not.mp d_1_1_1)
          have g2_1_1_1_0 := g2_1_1_1.1 (by clear h1 h2 g1_1 g2_1 g1_1_1 g2_1_1 g1_1_1_1 g2_1_1_1; first | exact d_1_1_1 | omega | exact Classical.not_not.mp d_1_1_1)
          clear h1 h2 g1_1 g2_1 g1_1_1 g2_1_1 g1_1_1_1 g2_1_1_1
          exact ⟨g1_1_1_1_0.1.trans g2_1_1_1_0.1.symm, lf_fd hI (by decide) g1_1_1_1_0.2 g2_1_1_1_0.2⟩
      · skip
        have g1_1_1_0 := g1_1_1.1 (by clear h1 h2 g1_1 g2_1 g1_1_1 g2_1_1; first | exact d_1_1 | omega | exact Classical.not_not.mp d_1_1)
        have g2_1_1_0 := g2_1_1.1 (by clear h1 h2 g1_1 g2_1 g1_1_1 g2_1_1; first | exact d_1_1 | omega | exact Classical.not_not.mp d_1_1)
        clear h1 h2 g1_1 g2_1 g1_1_1 g2_1_1
        exact ⟨g1_1_1_0.1.trans g2_1_1_0.1.symm, lf_fd hI (by decide) g1_1_1_0.2 g2_1_1_0.2⟩
    · skip
      have g1_1_0 := g1_1.1 (by clear h1 h2 g1_1 g2_1; first | exact d_1 | omega | exact Classical.not_not.mp d_1)
      have g2_1_0 := g2_1.1 (by clear h1 h2 g1_1 g2_1; first | exact d_1 | omega | exact Classical.not_not.mp d_1)
      clear h1 h2 g1_1 g2_1
      exact ⟨g1_1_0.1.trans g2_1_0.1.symm, lf_same hI g1_1_0.2 g2_1_0.2⟩
  · skip
    have g1_0 := h1.1 (by clear h1 h2; first | exact d | omega | exact Classical.not_not.mp d)
    have g2_0 := h2.1 (by clear h1 h2; first | exact d | omega | exact Classical.not_not.mp d)
    clear h1 h2
    exact ⟨g1_0.1.trans g2_0.1.symm, lf_same hI g1_0.2 g2_0.2⟩
theorem vw_duel {μ μ1 : gf_M} {i n q1 : Int} (hI : gf_I μ) (h1 : (¬ (0 ≤ i ∧ i < μ 0 3 ∧ 0 ≤ n ∧ n ≤ 4) → q1 = -1 ∧ μ1 = μ) ∧ (0 ≤ i ∧ i < μ 0 3 ∧ 0 ≤ n ∧ n ≤ 4 → q1 = pf_VT (μ (24 + i) 0) (μ (24 + i) 1) (μ (24 + i) 2) (μ 41 1 + gf_min n (8 - μ 41 1)) (μ 41 1) (gf_min n (8 - μ 41 1)).toNat (pf_rec (μ (24 + i) 0) (μ (24 + i) 1) (μ (24 + i) 2) (μ 42) (μ 41 1 + gf_min n (8 - μ 41 1)) (μ 41 1).toNat) ∧ gf_sc μ1 μ)) : gf_vw μ1 μ := by
  have hs := hI.s
  have hd := hI.d
  have hc7 := hI.c7
  by_cases d : 0 ≤ i ∧ i < μ 0 3 ∧ 0 ≤ n ∧ n ≤ 4
  · have g1_1 := h1.2 d
    exact gf_vw.of_sc g1_1.2
  · skip
    have g1_0 := h1.1 (by clear h1; first | exact d | omega | exact Classical.not_not.mp d)
    exact gf_vw.of_eq g1_0.2
set_option maxHeartbeats 1000000 in
theorem st_duel {μ μ1 μ2 : gf_M} {i n q1 q2 : Int} (hI : gf_I μ) (h1 : (¬ (0 ≤ i ∧ i < μ 0 3 ∧ 0 ≤ n ∧ n ≤ 4) → q1 = -1 ∧ μ1 = μ) ∧ (0 ≤ i ∧ i < μ 0 3 ∧ 0 ≤ n ∧ n ≤ 4 → q1 = pf_VT (μ (24 + i) 0) (μ (24 + i) 1) (μ (24 + i) 2) (μ 41 1 + gf_min n (8 - μ 41 1)) (μ 41 1) (gf_min n (8 - μ 41 1)).toNat (pf_rec (μ (24 + i) 0) (μ (24 + i) 1) (μ (24 + i) 2) (μ 42) (μ 41 1 + gf_min n (8 - μ 41 1)) (μ 41 1).toNat) ∧ gf_sc μ1 μ)) (h2 : (¬ (0 ≤ i ∧ i < μ1 71 0 ∧ 0 ≤ n ∧ n ≤ 4) → q2 = -1 ∧ μ2 = μ1) ∧ (0 ≤ i ∧ i < μ1 71 0 ∧ 0 ≤ n ∧ n ≤ 4 → q2 = gm_fld (gm_leaf μ1 i (gf_min n (8 - μ1 71 1))) (gf_min n (8 - μ1 71 1)) (gf_min n (8 - μ1 71 1)).toNat 0 ∧ gm_sc μ2 μ1)) : q1 = q2 ∧ gf_I μ2 := by
  have v := vw_duel hI h1
  have hc := hI.c
  have hn := hI.n
  have hdn := hI.dn
  have hs := hI.s
  have hd := hI.d
  have hc7 := hI.c7
  have k65 := v.k (a := 65) (by decide)
  have k66 := v.k (a := 66) (by decide)
  have k67 := v.k (a := 67) (by decide)
  have k68 := v.k (a := 68) (by decide)
  have k69 := v.k (a := 69) (by decide)
  have k70 := v.k (a := 70) (by decide)
  have k71 := v.k (a := 71) (by decide)
  have k74 := v.k (a := 74) (by decide)
  have k75 := v.k (a := 75) (by decide)
  try simp only [k65, k66, k67, k68, k69, k70, k71, k74, k75, v.x, v.rk, v.uS, v.uX, v.ua, v.og, v.cvd, v.row, v.U, v.W, v.leaf, v.fw, v.ff, v.cn, v.dg] at h2
  clear k65 k66 k67 k68 k69 k70 k74 k75
  by_cases d : 0 ≤ i ∧ i < μ 71 0 ∧ 0 ≤ n ∧ n ≤ 4
  · have g1_1 := h1.2 (by clear h1 h2; first | exact d | omega | exact Classical.not_not.mp d)
    have g2_1 := h2.2 d
    have hi : 0 ≤ i ∧ i < μ 0 3 := by clear h1 h2 g1_1 g2_1; omega
    clear h1 h2
    exact ⟨g1_1.1.trans (Eq.trans (by rw [hI.k0 hi, hI.k1 hi, hI.k2 hi, ← hn]; exact gm_duel_V (x := μ 42) (by omega) (by unfold gf_min; split <;> omega) hI.x) g2_1.1.symm), lf_sc hI g1_1.2 g2_1.2⟩
  · skip
    have g1_0 := h1.1 (by clear h1 h2; first | exact d | omega | exact Classical.not_not.mp d)
    have g2_0 := h2.1 (by clear h1 h2; first | exact d | omega | exact Classical.not_not.mp d)
    clear h1 h2
    exact ⟨g1_0.1.trans g2_0.1.symm, lf_same hI g1_0.2 g2_0.2⟩
theorem vw_odds {μ μ1 : gf_M} {i p q1 : Int} (hI : gf_I μ) (h1 : (¬ (0 ≤ i ∧ i < μ 0 3 ∧ 0 ≤ p ∧ p ≤ 12) → q1 = -1 ∧ μ1 = μ) ∧ (0 ≤ i ∧ i < μ 0 3 ∧ 0 ≤ p ∧ p ≤ 12 → q1 = 1 ∧ gf_sc μ1 (gf_sh2 μ (pf_VO (μ (24 + i) 0) (μ (24 + i) 1) (μ (24 + i) 2) (μ 41 1) p (μ 42) (pf_eC (μ (24 + i) 0) (μ 41 1) (pf_reck (μ (24 + i) 0) (μ (24 + i) 1) (μ (24 + i) 2) (μ 42) (μ 41 1)) 1 0) (μ 41 1).toNat 0 - (12 - p) ^ (μ 41 1).toNat)))) : gf_vw μ1 μ := by
  have hs := hI.s
  have hd := hI.d
  have hc7 := hI.c7
  by_cases d : 0 ≤ i ∧ i < μ 0 3 ∧ 0 ≤ p ∧ p ≤ 12
  · have g1_1 := h1.2 d
    exact gf_vw.of_scsh g1_1.2
  · skip
    have g1_0 := h1.1 (by clear h1; first | exact d | omega | exact Classical.not_not.mp d)
    exact gf_vw.of_eq g1_0.2
set_option maxHeartbeats 1000000 in
theorem st_odds {μ μ1 μ2 : gf_M} {i p q1 q2 : Int} (hI : gf_I μ) (h1 : (¬ (0 ≤ i ∧ i < μ 0 3 ∧ 0 ≤ p ∧ p ≤ 12) → q1 = -1 ∧ μ1 = μ) ∧ (0 ≤ i ∧ i < μ 0 3 ∧ 0 ≤ p ∧ p ≤ 12 → q1 = 1 ∧ gf_sc μ1 (gf_sh2 μ (pf_VO (μ (24 + i) 0) (μ (24 + i) 1) (μ (24 + i) 2) (μ 41 1) p (μ 42) (pf_eC (μ (24 + i) 0) (μ 41 1) (pf_reck (μ (24 + i) 0) (μ (24 + i) 1) (μ (24 + i) 2) (μ 42) (μ 41 1)) 1 0) (μ 41 1).toNat 0 - (12 - p) ^ (μ 41 1).toNat)))) (h2 : (¬ (0 ≤ i ∧ i < μ1 71 0 ∧ 0 ≤ p ∧ p ≤ 12) → q2 = -1 ∧ μ2 = μ1) ∧ (0 ≤ i ∧ i < μ1 71 0 ∧ 0 ≤ p ∧ p ≤ 12 → q2 = 1 ∧ gm_sc μ2 (gm_sh2 μ1 (pf_sumf (gm_W μ1 i p 0) (2 ^ (μ1 71 1).toNat))))) : q1 = q2 ∧ gf_I μ2 := by
  have v := vw_odds hI h1
  have hc := hI.c
  have hn := hI.n
  have hdn := hI.dn
  have hs := hI.s
  have hd := hI.d
  have hc7 := hI.c7
  have k65 := v.k (a := 65) (by decide)
  have k66 := v.k (a := 66) (by decide)
  have k67 := v.k (a := 67) (by decide)
  have k68 := v.k (a := 68) (by decide)
  have k69 := v.k (a := 69) (by decide)
  have k70 := v.k (a := 70) (by decide)
  have k71 := v.k (a := 71) (by decide)
  have k74 := v.k (a := 74) (by decide)
  have k75 := v.k (a := 75) (by decide)
  try simp only [k65, k66, k67, k68, k69, k70, k71, k74, k75, v.x, v.rk, v.uS, v.uX, v.ua, v.og, v.cvd, v.row, v.U, v.W, v.leaf, v.fw, v.ff, v.cn, v.dg] at h2
  clear k65 k66 k67 k68 k69 k70 k74 k75
  by_cases d : 0 ≤ i ∧ i < μ 71 0 ∧ 0 ≤ p ∧ p ≤ 12
  · have g1_1 := h1.2 (by clear h1 h2; first | exact d | omega | exact Classical.not_not.mp d)
    have g2_1 := h2.2 d
    have hi : 0 ≤ i ∧ i < μ 0 3 := by clear h1 h2 g1_1 g2_1; omega
    clear h1 h2
    exact ⟨g1_1.1.trans g2_1.1.symm, lf_sh2 hI g1_1.2 g2_1.2 (by rw [hI.k0 hi, hI.k1 hi, hI.k2 hi, ← hn]; exact gm_odds_V (by omega) hI.x (fun j a b => hI.F j a (by omega)))⟩
  · skip
    have g1_0 := h1.1 (by clear h1 h2; first | exact d | omega | exact Classical.not_not.mp d)
    have g2_0 := h2.1 (by clear h1 h2; first | exact d | omega | exact Classical.not_not.mp d)
    clear h1 h2
    exact ⟨g1_0.1.trans g2_0.1.symm, lf_same hI g1_0.2 g2_0.2⟩
theorem vw_mid {μ μ1 : gf_M} {i p q1 : Int} (hI : gf_I μ) (h1 : (¬ (0 ≤ i ∧ i < μ 0 3 ∧ 0 ≤ p ∧ p ≤ 12) → q1 = -1 ∧ μ1 = μ) ∧ (0 ≤ i ∧ i < μ 0 3 ∧ 0 ≤ p ∧ p ≤ 12 → q1 = 1 ∧ gf_sc μ1 (gf_sh2 μ (pf_VO (μ (24 + i) 0) (μ (24 + i) 1) (μ (24 + i) 2) (μ 41 1) p (μ 42) (fun s => pf_fin (μ (24 + i) 0) s (μ 41 1)) (μ 41 1).toNat 0)))) : gf_vw μ1 μ := by
  have hs := hI.s
  have hd := hI.d
  have hc7 := hI.c7
  by_cases d : 0 ≤ i ∧ i < μ 0 3 ∧ 0 ≤ p ∧ p ≤ 12
  · have g1_1 := h1.2 d
    exact gf_vw.of_scsh g1_1.2
  · skip
    have g1_0 := h1.1 (by clear h1; first | exact d | omega | exact Classical.not_not.mp d)
    exact gf_vw.of_eq g1_0.2
set_option maxHeartbeats 1000000 in
theorem st_mid {μ μ1 μ2 : gf_M} {i p q1 q2 : Int} (hI : gf_I μ) (h1 : (¬ (0 ≤ i ∧ i < μ 0 3 ∧ 0 ≤ p ∧ p ≤ 12) → q1 = -1 ∧ μ1 = μ) ∧ (0 ≤ i ∧ i < μ 0 3 ∧ 0 ≤ p ∧ p ≤ 12 → q1 = 1 ∧ gf_sc μ1 (gf_sh2 μ (pf_VO (μ (24 + i) 0) (μ (24 + i) 1) (μ (24 + i) 2) (μ 41 1) p (μ 42) (fun s => pf_fin (μ (24 + i) 0) s (μ 41 1)) (μ 41 1).toNat 0)))) (h2 : (¬ (0 ≤ i ∧ i < μ1 71 0 ∧ 0 ≤ p ∧ p ≤ 12) → q2 = -1 ∧ μ2 = μ1) ∧ (0 ≤ i ∧ i < μ1 71 0 ∧ 0 ≤ p ∧ p ≤ 12 → q2 = 1 ∧ gm_sc μ2 (gm_sh2 μ1 (pf_sumf (gm_W μ1 i p 1) (2 ^ (μ1 71 1).toNat))))) : q1 = q2 ∧ gf_I μ2 := by
  have v := vw_mid hI h1
  have hc := hI.c
  have hn := hI.n
  have hdn := hI.dn
  have hs := hI.s
  have hd := hI.d
  have hc7 := hI.c7
  have k65 := v.k (a := 65) (by decide)
  have k66 := v.k (a := 66) (by decide)
  have k67 := v.k (a := 67) (by decide)
  have k68 := v.k (a := 68) (by decide)
  have k69 := v.k (a := 69) (by decide)
  have k70 := v.k (a := 70) (by decide)
  have k71 := v.k (a := 71) (by decide)
  have k74 := v.k (a := 74) (by decide)
  have k75 := v.k (a := 75) (by decide)
  try simp only [k65, k66, k67, k68, k69, k70, k71, k74, k75, v.x, v.rk, v.uS, v.uX, v.ua, v.og, v.cvd, v.row, v.U, v.W, v.leaf, v.fw, v.ff, v.cn, v.dg] at h2
  clear k65 k66 k67 k68 k69 k70 k74 k75
  by_cases d : 0 ≤ i ∧ i < μ 71 0 ∧ 0 ≤ p ∧ p ≤ 12
  · have g1_1 := h1.2 (by clear h1 h2; first | exact d | omega | exact Classical.not_not.mp d)
    have g2_1 := h2.2 d
    have hi : 0 ≤ i ∧ i < μ 0 3 := by clear h1 h2 g1_1 g2_1; omega
    clear h1 h2
    exact ⟨g1_1.1.trans g2_1.1.symm, lf_sh2 hI g1_1.2 g2_1.2 (by rw [hI.k0 hi, hI.k1 hi, hI.k2 hi, ← hn]; exact gm_mid_V (by omega) hI.x (fun j a b => hI.F j a (by omega)))⟩
  · skip
    have g1_0 := h1.1 (by clear h1 h2; first | exact d | omega | exact Classical.not_not.mp d)
    have g2_0 := h2.1 (by clear h1 h2; first | exact d | omega | exact Classical.not_not.mp d)
    clear h1 h2
    exact ⟨g1_0.1.trans g2_0.1.symm, lf_same hI g1_0.2 g2_0.2⟩
theorem vw_lots {μ μ1 : gf_M} {n s q1 : Int} (hI : gf_I μ) (h1 : (¬ (1 ≤ n ∧ n ≤ 20 ∧ 1 ≤ s ∧ s ≤ 2147483646) → q1 = -1 ∧ μ1 = μ) ∧ (1 ≤ n ∧ n ≤ 20 ∧ 1 ≤ s ∧ s ≤ 2147483646 → (μ 0 3 = 0 → q1 = -4 ∧ μ1 = μ) ∧ (μ 0 3 ≠ 0 → (40 < μ 41 2 + n → q1 = -2 ∧ μ1 = μ) ∧ (μ 41 2 + n ≤ 40 → q1 = pf_lots μ s n.toNat 41 1 ∧ μ1 = pf_lots μ s n.toNat)))) : gf_vw μ1 μ := by
  have hs := hI.s
  have hd := hI.d
  have hc7 := hI.c7
  by_cases d : 1 ≤ n ∧ n ≤ 20 ∧ 1 ≤ s ∧ s ≤ 2147483646
  · have g1_1 := h1.2 d
    by_cases d_1 : μ 0 3 ≠ 0
    · have g1_1_1 := g1_1.2 d_1
      by_cases d_1_1 : μ 41 2 + n ≤ 40
      · have g1_1_1_1 := g1_1_1.2 d_1_1
        exact vs_lots g1_1_1_1.2
      · skip
        have g1_1_1_0 := g1_1_1.1 (by clear h1 g1_1 g1_1_1; first | exact d_1_1 | omega | exact Classical.not_not.mp d_1_1)
        exact gf_vw.of_eq g1_1_1_0.2
    · skip
      have g1_1_0 := g1_1.1 (by clear h1 g1_1; first | exact d_1 | omega | exact Classical.not_not.mp d_1)
      exact gf_vw.of_eq g1_1_0.2
  · skip
    have g1_0 := h1.1 (by clear h1; first | exact d | omega | exact Classical.not_not.mp d)
    exact gf_vw.of_eq g1_0.2
set_option maxHeartbeats 1000000 in
theorem st_lots {μ μ1 μ2 : gf_M} {n s q1 q2 : Int} (hI : gf_I μ) (h1 : (¬ (1 ≤ n ∧ n ≤ 20 ∧ 1 ≤ s ∧ s ≤ 2147483646) → q1 = -1 ∧ μ1 = μ) ∧ (1 ≤ n ∧ n ≤ 20 ∧ 1 ≤ s ∧ s ≤ 2147483646 → (μ 0 3 = 0 → q1 = -4 ∧ μ1 = μ) ∧ (μ 0 3 ≠ 0 → (40 < μ 41 2 + n → q1 = -2 ∧ μ1 = μ) ∧ (μ 41 2 + n ≤ 40 → q1 = pf_lots μ s n.toNat 41 1 ∧ μ1 = pf_lots μ s n.toNat)))) (h2 : (¬ (1 ≤ n ∧ n ≤ 20 ∧ 1 ≤ s ∧ s ≤ 2147483646) → q2 = -1 ∧ μ2 = μ1) ∧ (1 ≤ n ∧ n ≤ 20 ∧ 1 ≤ s ∧ s ≤ 2147483646 → (μ1 71 0 = 0 → q2 = -4 ∧ μ2 = μ1) ∧ (μ1 71 0 ≠ 0 → (40 < μ1 71 2 + n → q2 = -2 ∧ μ2 = μ1) ∧ (μ1 71 2 + n ≤ 40 → q2 = gm_lots μ1 s n.toNat 71 1 ∧ μ2 = gm_lots μ1 s n.toNat)))) : q1 = q2 ∧ gf_I μ2 := by
  have v := vw_lots hI h1
  have hc := hI.c
  have hn := hI.n
  have hdn := hI.dn
  have hs := hI.s
  have hd := hI.d
  have hc7 := hI.c7
  have k65 := v.k (a := 65) (by decide)
  have k66 := v.k (a := 66) (by decide)
  have k67 := v.k (a := 67) (by decide)
  have k68 := v.k (a := 68) (by decide)
  have k69 := v.k (a := 69) (by decide)
  have k70 := v.k (a := 70) (by decide)
  have k71 := v.k (a := 71) (by decide)
  have k74 := v.k (a := 74) (by decide)
  have k75 := v.k (a := 75) (by decide)
  try simp only [k65, k66, k67, k68, k69, k70, k71, k74, k75, v.x, v.rk, v.uS, v.uX, v.ua, v.og, v.cvd, v.row, v.U, v.W, v.leaf, v.fw, v.ff, v.cn, v.dg] at h2
  clear k65 k66 k67 k68 k69 k70 k74 k75
  by_cases d : 1 ≤ n ∧ n ≤ 20 ∧ 1 ≤ s ∧ s ≤ 2147483646
  · have g1_1 := h1.2 (by clear h1 h2; first | exact d | omega | exact Classical.not_not.mp d)
    have g2_1 := h2.2 d
    by_cases d_1 : μ 71 0 ≠ 0
    · have g1_1_1 := g1_1.2 (by clear h1 h2 g1_1 g2_1; first | exact d_1 | omega | exact Classical.not_not.mp d_1)
      have g2_1_1 := g2_1.2 d_1
      by_cases d_1_1 : μ 71 2 + n ≤ 40
      · have g1_1_1_1 := g1_1_1.2 (by clear h1 h2 g1_1 g2_1 g1_1_1 g2_1_1; first | exact d_1_1 | omega | exact Classical.not_not.mp d_1_1)
        have g2_1_1_1 := g2_1_1.2 d_1_1
        clear h1 h2 g1_1 g2_1 g1_1_1 g2_1_1
        have hl := lf_lots hI (s := s) (n := n.toNat) (by omega) (by omega) g1_1_1_1.2 g2_1_1_1.2
        have e1 : μ1 41 1 = pf_lots μ s n.toNat 41 1 := by rw [g1_1_1_1.2]
        have e2 : μ2 71 1 = gm_lots μ1 s n.toNat 71 1 := by rw [g2_1_1_1.2]
        exact ⟨g1_1_1_1.1.trans (e1.symm.trans (hl.2.symm.trans (e2.trans g2_1_1_1.1.symm))), hl.1⟩
      · skip
        have g1_1_1_0 := g1_1_1.1 (by clear h1 h2 g1_1 g2_1 g1_1_1 g2_1_1; first | exact d_1_1 | omega | exact Classical.not_not.mp d_1_1)
        have g2_1_1_0 := g2_1_1.1 (by clear h1 h2 g1_1 g2_1 g1_1_1 g2_1_1; first | exact d_1_1 | omega | exact Classical.not_not.mp d_1_1)
        clear h1 h2 g1_1 g2_1 g1_1_1 g2_1_1
        exact ⟨g1_1_1_0.1.trans g2_1_1_0.1.symm, lf_same hI g1_1_1_0.2 g2_1_1_0.2⟩
    · skip
      have g1_1_0 := g1_1.1 (by clear h1 h2 g1_1 g2_1; first | exact d_1 | omega | exact Classical.not_not.mp d_1)
      have g2_1_0 := g2_1.1 (by clear h1 h2 g1_1 g2_1; first | exact d_1 | omega | exact Classical.not_not.mp d_1)
      clear h1 h2 g1_1 g2_1
      exact ⟨g1_1_0.1.trans g2_1_0.1.symm, lf_same hI g1_1_0.2 g2_1_0.2⟩
  · skip
    have g1_0 := h1.1 (by clear h1 h2; first | exact d | omega | exact Classical.not_not.mp d)
    have g2_0 := h2.1 (by clear h1 h2; first | exact d | omega | exact Classical.not_not.mp d)
    clear h1 h2
    exact ⟨g1_0.1.trans g2_0.1.symm, lf_same hI g1_0.2 g2_0.2⟩
theorem vw_asked {μ μ1 : gf_M} {q1 : Int} (hI : gf_I μ) (h1 : q1 = μ 0 12 ∧ μ1 = μ) : gf_vw μ1 μ := by
  have hs := hI.s
  have hd := hI.d
  have hc7 := hI.c7
  exact gf_vw.of_eq h1.2
set_option maxHeartbeats 1000000 in
theorem st_asked {μ μ1 μ2 : gf_M} {q1 q2 : Int} (hI : gf_I μ) (h1 : q1 = μ 0 12 ∧ μ1 = μ) (h2 : q2 = μ1 65 4 ∧ μ2 = μ1) : q1 = q2 ∧ gf_I μ2 := by
  have v := vw_asked hI h1
  have hc := hI.c
  have hn := hI.n
  have hdn := hI.dn
  have hs := hI.s
  have hd := hI.d
  have hc7 := hI.c7
  have k65 := v.k (a := 65) (by decide)
  have k66 := v.k (a := 66) (by decide)
  have k67 := v.k (a := 67) (by decide)
  have k68 := v.k (a := 68) (by decide)
  have k69 := v.k (a := 69) (by decide)
  have k70 := v.k (a := 70) (by decide)
  have k71 := v.k (a := 71) (by decide)
  have k74 := v.k (a := 74) (by decide)
  have k75 := v.k (a := 75) (by decide)
  try simp only [k65, k66, k67, k68, k69, k70, k71, k74, k75, v.x, v.rk, v.uS, v.uX, v.ua, v.og, v.cvd, v.row, v.U, v.W, v.leaf, v.fw, v.ff, v.cn, v.dg] at h2
  clear k65 k66 k67 k68 k69 k70 k74 k75
  exact ⟨h1.1.trans (Eq.trans (hI.2.2.2.2.2.1.1.symm) h2.1.symm), lf_same hI h1.2 h2.2⟩
theorem vw_upper {μ μ1 : gf_M} {q1 : Int} (hI : gf_I μ) (h1 : q1 = μ 0 13 ∧ μ1 = μ) : gf_vw μ1 μ := by
  have hs := hI.s
  have hd := hI.d
  have hc7 := hI.c7
  exact gf_vw.of_eq h1.2
set_option maxHeartbeats 1000000 in
theorem st_upper {μ μ1 μ2 : gf_M} {q1 q2 : Int} (hI : gf_I μ) (h1 : q1 = μ 0 13 ∧ μ1 = μ) (h2 : q2 = μ1 65 5 ∧ μ2 = μ1) : q1 = q2 ∧ gf_I μ2 := by
  have v := vw_upper hI h1
  have hc := hI.c
  have hn := hI.n
  have hdn := hI.dn
  have hs := hI.s
  have hd := hI.d
  have hc7 := hI.c7
  have k65 := v.k (a := 65) (by decide)
  have k66 := v.k (a := 66) (by decide)
  have k67 := v.k (a := 67) (by decide)
  have k68 := v.k (a := 68) (by decide)
  have k69 := v.k (a := 69) (by decide)
  have k70 := v.k (a := 70) (by decide)
  have k71 := v.k (a := 71) (by decide)
  have k74 := v.k (a := 74) (by decide)
  have k75 := v.k (a := 75) (by decide)
  try simp only [k65, k66, k67, k68, k69, k70, k71, k74, k75, v.x, v.rk, v.uS, v.uX, v.ua, v.og, v.cvd, v.row, v.U, v.W, v.leaf, v.fw, v.ff, v.cn, v.dg] at h2
  clear k65 k66 k67 k68 k69 k70 k74 k75
  exact ⟨h1.1.trans (Eq.trans (hI.2.2.2.2.2.1.2.1.symm) h2.1.symm), lf_same hI h1.2 h2.2⟩
theorem vw_lower {μ μ1 : gf_M} {q1 : Int} (hI : gf_I μ) (h1 : q1 = μ 0 14 ∧ μ1 = μ) : gf_vw μ1 μ := by
  have hs := hI.s
  have hd := hI.d
  have hc7 := hI.c7
  exact gf_vw.of_eq h1.2
set_option maxHeartbeats 1000000 in
theorem st_lower {μ μ1 μ2 : gf_M} {q1 q2 : Int} (hI : gf_I μ) (h1 : q1 = μ 0 14 ∧ μ1 = μ) (h2 : q2 = μ1 65 6 ∧ μ2 = μ1) : q1 = q2 ∧ gf_I μ2 := by
  have v := vw_lower hI h1
  have hc := hI.c
  have hn := hI.n
  have hdn := hI.dn
  have hs := hI.s
  have hd := hI.d
  have hc7 := hI.c7
  have k65 := v.k (a := 65) (by decide)
  have k66 := v.k (a := 66) (by decide)
  have k67 := v.k (a := 67) (by decide)
  have k68 := v.k (a := 68) (by decide)
  have k69 := v.k (a := 69) (by decide)
  have k70 := v.k (a := 70) (by decide)
  have k71 := v.k (a := 71) (by decide)
  have k74 := v.k (a := 74) (by decide)
  have k75 := v.k (a := 75) (by decide)
  try simp only [k65, k66, k67, k68, k69, k70, k71, k74, k75, v.x, v.rk, v.uS, v.uX, v.ua, v.og, v.cvd, v.row, v.U, v.W, v.leaf, v.fw, v.ff, v.cn, v.dg] at h2
  clear k65 k66 k67 k68 k69 k70 k74 k75
  exact ⟨h1.1.trans (Eq.trans (hI.2.2.2.2.2.1.2.2.1.symm) h2.1.symm), lf_same hI h1.2 h2.2⟩
theorem vw_count {μ μ1 : gf_M} {w q1 : Int} (hI : gf_I μ) (h1 : (¬ (0 ≤ w ∧ w < 11) → q1 = -1 ∧ μ1 = μ) ∧ (0 ≤ w ∧ w < 11 → q1 = pf_cn μ w ∧ gf_sc μ1 μ)) : gf_vw μ1 μ := by
  have hs := hI.s
  have hd := hI.d
  have hc7 := hI.c7
  by_cases d : 0 ≤ w ∧ w < 11
  · have g1_1 := h1.2 d
    exact gf_vw.of_sc g1_1.2
  · skip
    have g1_0 := h1.1 (by clear h1; first | exact d | omega | exact Classical.not_not.mp d)
    exact gf_vw.of_eq g1_0.2
set_option maxHeartbeats 1000000 in
theorem st_count {μ μ1 μ2 : gf_M} {w q1 q2 : Int} (hI : gf_I μ) (h1 : (¬ (0 ≤ w ∧ w < 11) → q1 = -1 ∧ μ1 = μ) ∧ (0 ≤ w ∧ w < 11 → q1 = pf_cn μ w ∧ gf_sc μ1 μ)) (h2 : (¬ (0 ≤ w ∧ w < 11) → q2 = -1 ∧ μ2 = μ1) ∧ (0 ≤ w ∧ w < 11 → (q2 = gm_cn μ1 w ∧ 0 ≤ q2 ∧ q2 ≤ 100000000) ∧ gm_sc μ2 μ1)) : q1 = q2 ∧ gf_I μ2 := by
  have v := vw_count hI h1
  have hc := hI.c
  have hn := hI.n
  have hdn := hI.dn
  have hs := hI.s
  have hd := hI.d
  have hc7 := hI.c7
  have k65 := v.k (a := 65) (by decide)
  have k66 := v.k (a := 66) (by decide)
  have k67 := v.k (a := 67) (by decide)
  have k68 := v.k (a := 68) (by decide)
  have k69 := v.k (a := 69) (by decide)
  have k70 := v.k (a := 70) (by decide)
  have k71 := v.k (a := 71) (by decide)
  have k74 := v.k (a := 74) (by decide)
  have k75 := v.k (a := 75) (by decide)
  try simp only [k65, k66, k67, k68, k69, k70, k71, k74, k75, v.x, v.rk, v.uS, v.uX, v.ua, v.og, v.cvd, v.row, v.U, v.W, v.leaf, v.fw, v.ff, v.cn, v.dg] at h2
  clear k65 k66 k67 k68 k69 k70 k74 k75
  by_cases d : 0 ≤ w ∧ w < 11
  · have g1_1 := h1.2 (by clear h1 h2; first | exact d | omega | exact Classical.not_not.mp d)
    have g2_1 := h2.2 d
    clear h1 h2
    exact ⟨g1_1.1.trans ((hI.cn d).trans g2_1.1.1.symm), lf_sc hI g1_1.2 g2_1.2⟩
  · skip
    have g1_0 := h1.1 (by clear h1 h2; first | exact d | omega | exact Classical.not_not.mp d)
    have g2_0 := h2.1 (by clear h1 h2; first | exact d | omega | exact Classical.not_not.mp d)
    clear h1 h2
    exact ⟨g1_0.1.trans g2_0.1.symm, lf_same hI g1_0.2 g2_0.2⟩
theorem vw_finding {μ μ1 : gf_M} {q1 : Int} (hI : gf_I μ) (h1 : q1 = μ 0 15 ∧ μ1 = μ) : gf_vw μ1 μ := by
  have hs := hI.s
  have hd := hI.d
  have hc7 := hI.c7
  exact gf_vw.of_eq h1.2
set_option maxHeartbeats 1000000 in
theorem st_finding {μ μ1 μ2 : gf_M} {q1 q2 : Int} (hI : gf_I μ) (h1 : q1 = μ 0 15 ∧ μ1 = μ) (h2 : q2 = μ1 65 7 ∧ μ2 = μ1) : q1 = q2 ∧ gf_I μ2 := by
  have v := vw_finding hI h1
  have hc := hI.c
  have hn := hI.n
  have hdn := hI.dn
  have hs := hI.s
  have hd := hI.d
  have hc7 := hI.c7
  have k65 := v.k (a := 65) (by decide)
  have k66 := v.k (a := 66) (by decide)
  have k67 := v.k (a := 67) (by decide)
  have k68 := v.k (a := 68) (by decide)
  have k69 := v.k (a := 69) (by decide)
  have k70 := v.k (a := 70) (by decide)
  have k71 := v.k (a := 71) (by decide)
  have k74 := v.k (a := 74) (by decide)
  have k75 := v.k (a := 75) (by decide)
  try simp only [k65, k66, k67, k68, k69, k70, k71, k74, k75, v.x, v.rk, v.uS, v.uX, v.ua, v.og, v.cvd, v.row, v.U, v.W, v.leaf, v.fw, v.ff, v.cn, v.dg] at h2
  clear k65 k66 k67 k68 k69 k70 k74 k75
  exact ⟨h1.1.trans (Eq.trans (hI.2.2.2.2.2.1.2.2.2.symm) h2.1.symm), lf_same hI h1.2 h2.2⟩
theorem vw_findings {μ μ1 : gf_M} {f q1 : Int} (hI : gf_I μ) (h1 : ((¬ (1 ≤ f ∧ f ≤ 5) → q1 = -1) ∧ (1 ≤ f ∧ f ≤ 5 → q1 = μ 64 f)) ∧ μ1 = μ) : gf_vw μ1 μ := by
  exact gf_vw.of_eq h1.2
set_option maxHeartbeats 1000000 in
theorem st_findings {μ μ1 μ2 : gf_M} {f q1 q2 : Int} (hI : gf_I μ) (h1 : ((¬ (1 ≤ f ∧ f ≤ 5) → q1 = -1) ∧ (1 ≤ f ∧ f ≤ 5 → q1 = μ 64 f)) ∧ μ1 = μ) (h2 : ((¬ (1 ≤ f ∧ f ≤ 5) → q2 = -1) ∧ (1 ≤ f ∧ f ≤ 5 → q2 = μ1 70 f)) ∧ μ2 = μ1) : q1 = q2 ∧ gf_I μ2 := by
  have v := vw_findings hI h1
  have hc := hI.c
  have hn := hI.n
  have hdn := hI.dn
  have hs := hI.s
  have hd := hI.d
  have hc7 := hI.c7
  have k65 := v.k (a := 65) (by decide)
  have k66 := v.k (a := 66) (by decide)
  have k67 := v.k (a := 67) (by decide)
  have k68 := v.k (a := 68) (by decide)
  have k69 := v.k (a := 69) (by decide)
  have k70 := v.k (a := 70) (by decide)
  have k71 := v.k (a := 71) (by decide)
  have k74 := v.k (a := 74) (by decide)
  have k75 := v.k (a := 75) (by decide)
  try simp only [k65, k66, k67, k68, k69, k70, k71, k74, k75, v.x, v.rk, v.uS, v.uX, v.ua, v.og, v.cvd, v.row, v.U, v.W, v.leaf, v.fw, v.ff, v.cn, v.dg] at h2
  clear k65 k66 k67 k68 k69 k70 k74 k75
  by_cases d : 1 ≤ f ∧ f ≤ 5
  · exact ⟨(h1.1.2 d).trans (((hI.2.2.2.2.2.2 f d.1 d.2).symm).trans (h2.1.2 d).symm), lf_same hI h1.2 h2.2⟩
  · exact ⟨(h1.1.1 d).trans (h2.1.1 d).symm, lf_same hI h1.2 h2.2⟩
theorem vw_digest {μ μ1 : gf_M} {q1 : Int} (hI : gf_I μ) (h1 : gf_l q1 = gf_l (pf_digest μ) ∧ gf_sc μ1 μ) : gf_vw μ1 μ := by
  have hs := hI.s
  have hd := hI.d
  have hc7 := hI.c7
  exact gf_vw.of_sc h1.2
set_option maxHeartbeats 1000000 in
theorem st_digest {μ μ1 μ2 : gf_M} {q1 q2 : Int} (hI : gf_I μ) (h1 : gf_l q1 = gf_l (pf_digest μ) ∧ gf_sc μ1 μ) (h2 : gf_l q2 = gf_l (gm_digest μ1) ∧ gm_sc μ2 μ1) (hR1 : gf_RL q1) (hR2 : gf_RL q2) : q1 = q2 ∧ gf_I μ2 := by
  have v := vw_digest hI h1
  have hc := hI.c
  have hn := hI.n
  have hdn := hI.dn
  have hs := hI.s
  have hd := hI.d
  have hc7 := hI.c7
  have k65 := v.k (a := 65) (by decide)
  have k66 := v.k (a := 66) (by decide)
  have k67 := v.k (a := 67) (by decide)
  have k68 := v.k (a := 68) (by decide)
  have k69 := v.k (a := 69) (by decide)
  have k70 := v.k (a := 70) (by decide)
  have k71 := v.k (a := 71) (by decide)
  have k74 := v.k (a := 74) (by decide)
  have k75 := v.k (a := 75) (by decide)
  try simp only [k65, k66, k67, k68, k69, k70, k71, k74, k75, v.x, v.rk, v.uS, v.uX, v.ua, v.og, v.cvd, v.row, v.U, v.W, v.leaf, v.fw, v.ff, v.cn, v.dg] at h2
  clear k65 k66 k67 k68 k69 k70 k74 k75
  exact ⟨(gf_l_eq hR1 hR2).mp (h1.1.trans (by rw [hI.dg]; exact h2.1.symm)), lf_sc hI h1.2 h2.2⟩
