/-! what the class reckons is what the reference does -/
theorem pf_slr_x {x y : Int} (h : x = y) (k : Int) (v : Nat) : pf_slr x k v = pf_slr y k v := by rw [h]
theorem pf_sl_congr {f g : Int → Int} : ∀ k : Nat, (∀ j : Int, 0 ≤ j → j < k → f j = g j) → pf_sl f k = pf_sl g k
  | 0, _ => rfl
  | k + 1, h => by
    unfold pf_sl
    rw [pf_sl_congr k (fun j a b => h j a (by omega)), h k (by omega) (by omega)]
theorem pf_ex_congr {f g : Int → Int} {off : Int} : ∀ k : Nat, (∀ j : Int, 0 ≤ j → j < k → f j = g j ∧ f (j + off) = g (j + off)) → pf_ex f off k = pf_ex g off k
  | 0, _ => rfl
  | k + 1, h => by
    unfold pf_ex
    rw [pf_ex_congr k (fun j a b => h j a (by omega)), (h k (by omega) (by omega)).1, (h k (by omega) (by omega)).2]
theorem pf_cps_congr {f g : Int → Int} {n m : Int} (h : ∀ j : Int, 0 ≤ j → j < n → f j = g j) : ∀ j : Int, 0 ≤ j → j < n → pf_cps f m j = pf_cps g m j := fun j h0 h1 => by
  unfold pf_cps
  rw [h j h0 h1]
theorem pf_cpx_congr {f g : Int → Int} {n k off : Int} (hk : 0 ≤ k ∧ 0 ≤ off ∧ k + off < n) (h : ∀ j : Int, 0 ≤ j → j < n → f j = g j) : ∀ j : Int, 0 ≤ j → j < n → pf_cpx f k off j = pf_cpx g k off j := fun j h0 h1 => by
  unfold pf_cpx
  rw [h j h0 h1, h k hk.1 (by omega), h (k + off) (by omega) hk.2.2]
theorem pf_filter_congr {α : Type} {p q : α → Bool} : ∀ {l : List α}, (∀ x ∈ l, p x = q x) → l.filter p = l.filter q
  | [], _ => rfl
  | a :: l, h => by
    rw [List.filter_cons, List.filter_cons, h a List.mem_cons_self, pf_filter_congr (fun x hx => h x (List.mem_cons_of_mem _ hx))]
section GC1
variable {μ μ1 : gf_M} {i : Int}
theorem gf_I.x (h : gf_I μ) : ∀ j : Int, 0 ≤ j → j < μ 71 1 → gm_x μ j = μ 42 j := fun j j0 j1 => (h.2.2.2.1.2.2.1 j j0 (by rw [← h.2.2.2.1.1.1]; exact j1)).1
theorem gf_I.n (h : gf_I μ) : μ 71 1 = μ 41 1 := h.2.2.2.1.1.1
theorem gf_I.dn (h : gf_I μ) : μ 71 2 = μ 41 2 := h.2.2.2.1.2.1.1
theorem gf_I.c (h : gf_I μ) : μ 71 0 = μ 0 3 := h.2.2.1.1.1
theorem gf_I.k0 (h : gf_I μ) (hi : 0 ≤ i ∧ i < μ 0 3) : μ (24 + i) 0 = μ 71 (3 + i) := (h.2.2.1.2 i hi.1 hi.2).1.1.symm
theorem gf_I.k1 (h : gf_I μ) (hi : 0 ≤ i ∧ i < μ 0 3) : μ (24 + i) 1 = μ 71 (10 + i) := (h.2.2.1.2 i hi.1 hi.2).1.2.1.symm
theorem gf_I.k2 (h : gf_I μ) (hi : 0 ≤ i ∧ i < μ 0 3) : μ (24 + i) 2 = μ 71 (17 + i) := (h.2.2.1.2 i hi.1 hi.2).1.2.2.symm
theorem gf_I.rk (h : gf_I μ) (hi : 0 ≤ i ∧ i < μ 0 3) {f g : Int → Int} (hfg : ∀ j : Int, 0 ≤ j → j < μ 71 1 → f j = g j) : pf_reck (μ (24 + i) 0) (μ (24 + i) 1) (μ (24 + i) 2) f (μ 41 1) = gm_rk μ i g (μ 71 1) := by
  rw [h.k0 hi, h.k1 hi, h.k2 hi, ← h.n]
  exact pf_reck_congr hfg
theorem gf_I.rkx (h : gf_I μ) (hi : 0 ≤ i ∧ i < μ 0 3) : pf_reck (μ (24 + i) 0) (μ (24 + i) 1) (μ (24 + i) 2) (μ 42) (μ 41 1) = gm_rk μ i (gm_x μ) (μ 71 1) := h.rk hi (fun j a b => (h.x j a b).symm)
theorem gf_I.no (h : gf_I μ) (hi : 0 ≤ i ∧ i < μ 0 3) {f g : Int → Int} (hfg : ∀ j : Int, 0 ≤ j → j < μ 71 1 → f j = g j) : pf_no μ (μ 42) (μ 41 1) f i.toNat = decide (gm_rk μ i g (μ 71 1) ≠ gm_rk μ i (gm_x μ) (μ 71 1)) := by
  unfold pf_no
  rw [show ((i.toNat : Nat) : Int) = i by omega, h.rk hi hfg, h.rkx hi]
theorem gf_I.uS (h : gf_I μ) (hi : 0 ≤ i ∧ i < μ 0 3) : pf_unS μ i.toNat = gm_uS μ i := by
  unfold pf_unS gm_uS
  rw [← h.n, pf_sl_congr (g := gm_x μ) (μ 71 1).toNat (fun j a b => (h.x j a (by omega)).symm)]
  refine pf_filter_congr (fun m _ => ?_)
  rw [h.n, h.no hi (pf_cps_congr (fun j a b => (h.x j a b).symm)), h.n]
theorem gf_I.uX (h : gf_I μ) (hi : 0 ≤ i ∧ i < μ 0 3) {off : Int} (ho : 1 ≤ off ∧ off ≤ 2) : pf_unX μ off i.toNat = gm_uX μ off i := by
  unfold pf_unX gm_uX
  have hn0 := h.s
  rw [← h.n, pf_ex_congr (g := gm_x μ) (μ 71 1 - off).toNat (fun j a b => ⟨(h.x j a (by have := h.n; omega)).symm, (h.x (j + off) (by omega) (by have := h.n; omega)).symm⟩)]
  refine pf_filter_congr (fun k hk => ?_)
  have hm := pf_ex_mem hk
  rw [h.n, h.no hi (pf_cpx_congr (by omega) (fun j a b => (h.x j a b).symm)), h.n]
theorem gf_I.ua (h : gf_I μ) (hi : 0 ≤ i ∧ i < μ 0 3) : pf_ua μ i = gm_ua μ i := by
  unfold pf_ua gm_ua pf_T
  rw [List.filter_append, List.filter_append, pf_unS_S, pf_unX_S, pf_unX_S, h.uS hi, h.uX hi (by decide), h.uX hi (by decide), List.length_append, List.length_append, List.length_map, List.length_map, List.length_map]
  omega
theorem gf_I.og (h : gf_I μ) (hi : 0 ≤ i ∧ i < μ 0 3) (w : Int) : pf_og μ i w = gm_og μ i w := by
  unfold pf_og gm_og
  rw [h.rkx hi, h.uS hi, h.k0 hi, h.k1 hi, h.k2 hi]
theorem pf_nb_congr {P Q : Nat → Bool} {a : Nat} : ∀ c : Nat, (∀ i : Nat, a ≤ i → i < a + c → P i = Q i) → pf_nb P a c = pf_nb Q a c
  | 0, _ => rfl
  | c + 1, h => by
    unfold pf_nb
    rw [pf_nb_congr c (fun i a b => h i a (by omega)), h (a + c) (by omega) (by omega)]
theorem gf_I.mk (h : gf_I μ) {f g : Int → Int} (hfg : ∀ j : Int, 0 ≤ j → j < μ 71 1 → f j = g j) : ((pf_nb (pf_no μ (μ 42) (μ 41 1) f) 0 (μ 0 3).toNat : Nat) : Int) = gm_mk μ g := by
  unfold gm_mk
  rw [pf_set_nb, h.c]
  congr 1
  refine pf_nb_congr _ (fun i _ hi => ?_)
  have := h.no (i := i) (by have := h.c7; omega) hfg
  rw [Int.toNat_natCast] at this
  exact this
theorem gf_I.cvd (h : gf_I μ) : pf_cvd μ = gm_cvd μ := by
  funext s
  have hn0 := h.s
  have hn := h.n
  have hx : ∀ j : Int, 0 ≤ j → j < μ 71 1 → μ 42 j = gm_x μ j := fun j a b => (h.x j a b).symm
  have e1 : pf_sl (μ 42) (μ 41 1).toNat = pf_sl (gm_x μ) (μ 71 1).toNat := by rw [← hn]; exact pf_sl_congr _ (fun j a b => hx j a (by omega))
  have e2 : ∀ off : Int, 1 ≤ off → pf_ex (μ 42) off (μ 41 1 - off).toNat = pf_ex (gm_x μ) off (μ 71 1 - off).toNat := fun off ho => by rw [← hn]; exact pf_ex_congr _ (fun j a b => ⟨hx j a (by omega), hx (j + off) (by omega) (by omega)⟩)
  unfold pf_cvd gm_cvd pf_T
  rw [e1, e2 1 (by decide), e2 2 (by decide)]
  refine propext ⟨fun g => ?_, fun g => ?_⟩
  · rw [List.forall_mem_append, List.forall_mem_append, List.forall_mem_map, List.forall_mem_map, List.forall_mem_map] at g ⊢
    refine ⟨⟨fun m hm => ?_, fun k hk => ?_⟩, fun k hk => ?_⟩
    · have := g.1.1 m hm
      rw [h.mk (pf_cps_congr hx)] at this
      exact this
    · have := g.1.2 k hk
      have hm := pf_ex_mem hk
      rw [h.mk (pf_cpx_congr (by omega) hx)] at this
      exact this
    · have := g.2 k hk
      have hm := pf_ex_mem hk
      rw [h.mk (pf_cpx_congr (by omega) hx)] at this
      exact this
  · rw [List.forall_mem_append, List.forall_mem_append, List.forall_mem_map, List.forall_mem_map, List.forall_mem_map] at g ⊢
    refine ⟨⟨fun m hm => ?_, fun k hk => ?_⟩, fun k hk => ?_⟩
    · rw [h.mk (pf_cps_congr hx)]
      exact g.1.1 m hm
    · have hm := pf_ex_mem hk
      rw [h.mk (pf_cpx_congr (by omega) hx)]
      exact g.1.2 k hk
    · have hm := pf_ex_mem hk
      rw [h.mk (pf_cpx_congr (by omega) hx)]
      exact g.2 k hk
theorem gf_I.Tn (h : gf_I μ) : (pf_T (μ 42) (μ 41 1)).length = (pf_T (gm_x μ) (μ 71 1)).length := by
  have hn := h.n
  have hx : ∀ j : Int, 0 ≤ j → j < μ 71 1 → μ 42 j = gm_x μ j := fun j a b => (h.x j a b).symm
  have hn0 := h.s
  rw [pf_T_len, pf_T_len, ← hn, pf_sl_congr (g := gm_x μ) _ (fun j a b => hx j a (by omega)), pf_ex_congr (g := gm_x μ) (off := 1) _ (fun j a b => ⟨hx j a (by omega), hx (j + 1) (by omega) (by omega)⟩), pf_ex_congr (g := gm_x μ) (off := 2) _ (fun j a b => ⟨hx j a (by omega), hx (j + 2) (by omega) (by omega)⟩)]
theorem gf_I.row (h : gf_I μ) {r : Int} (hr : 0 ≤ r ∧ r < 6) : ∀ j : Int, 0 ≤ j → j < μ 66 r → μ (3 + 2 * r) j = gm_row μ r j := fun j a b => ((h.1 r hr.1 hr.2).2 j a b).symm
theorem gf_I.rsz (h : gf_I μ) {r : Int} (hr : 0 ≤ r ∧ r < 6) : μ (2 + 2 * r) 1 = μ 66 r := (h.1 r hr.1 hr.2).1.1.symm
theorem gf_I.tsz (h : gf_I μ) {t : Int} (ht : 0 ≤ t ∧ t < 4) : μ (15 + 2 * t) 1 = μ 68 t := (h.2.1.1 t ht.1 ht.2).1.1.symm
theorem gf_I.cn (h : gf_I μ) {w : Int} (hw : 0 ≤ w ∧ w < 11) : pf_cn μ w = gm_cn μ w := by
  have hn0 := h.s
  have hc7 := h.c7
  unfold pf_cn gm_cn
  rw [h.c, ← h.n, ← h.dn]
  have e3 : pf_num (μ 42) (μ 71 1).toNat = pf_num (gm_x μ) (μ 71 1).toNat := pf_num_congr _ (fun j a b => (h.x j a (by omega)).symm)
  have e4 : pf_sumf (fun j => pf_reck (μ (24 + j) 0) (μ (24 + j) 1) (μ (24 + j) 2) (μ 42) (μ 71 1)) (μ 0 3).toNat = pf_sumf (fun j => gm_rk μ j (gm_x μ) (μ 71 1)) (μ 0 3).toNat := pf_sumf_congr _ (fun j a b => by have := h.rkx (i := j) ⟨a, by omega⟩; rw [← h.n] at this; exact this)
  have e5 : pf_set (fun j => (pf_unS μ j.toNat).isEmpty) (μ 0 3).toNat = pf_set (fun j => (gm_uS μ j).isEmpty) (μ 0 3).toNat := pf_set_congr _ (fun j a b => by rw [h.uS (i := j) ⟨a, by omega⟩])
  have e6 : pf_cnt (fun j => decide (μ (2 + 2 * j) 1 ≠ -1)) 6 = pf_cnt (fun j => decide (0 ≤ μ 66 j)) 6 := pf_cnt_congr _ (fun j a b => by
    have := (h.1 j a b).1
    exact decide_eq_decide.mpr (by omega))
  have e7 : pf_cnt (fun j => decide (μ (15 + 2 * j) 1 ≠ -1)) 4 = pf_cnt (fun j => decide (0 ≤ μ 68 j)) 4 := pf_cnt_congr _ (fun j a b => by
    have := (h.2.1.1 j a b).1
    exact decide_eq_decide.mpr (by omega))
  have e8 : pf_cnt (fun j => decide (μ (32 + 3 * j) 4 ≠ 0)) 3 = pf_cnt (fun j => decide (0 ≤ μ 74 j)) 3 := pf_cnt_congr _ (fun j a b => by
    refine decide_eq_decide.mpr ?_
    rcases h.2.2.2.2.1 j a b with g | ⟨g1, g2, g3, -⟩
    · omega
    · have := g3.2.1.2
      omega)
  have e9 : ∀ w : Int, pf_cnt (fun j => @decide (pf_is (μ (24 + j) 0) w) (Classical.propDecidable _)) (μ 0 3).toNat = pf_cnt (fun j => @decide (pf_is (μ 71 (3 + j)) w) (Classical.propDecidable _)) (μ 0 3).toNat := fun w => pf_cnt_congr _ (fun j a b => by rw [h.k0 (i := j) ⟨a, by omega⟩])
  rw [e3, e4, e5, e6, e7, e8, e9, e9]
theorem gf_I.kd (h : gf_I μ) : ∀ j : Int, 0 ≤ j → j < 3 → pf_kd μ j = μ 74 j := fun j a b => by
  unfold pf_kd
  rcases h.2.2.2.2.1 j a b with g | ⟨g1, g2, g3, -⟩
  · rw [if_pos g.1, g.2]
  · rw [if_neg g1, g2]
theorem gf_I.dg (h : gf_I μ) : pf_digest μ = gm_digest μ := by
  have h1 : pf_H1 μ = gm_H1 μ := pf_dig_congr 11 (fun j a b => h.cn ⟨a, b⟩)
  have hc7 := h.c7
  have h2 : ∀ (x : Int) (k : Nat), (k : Int) ≤ μ 0 3 → pf_dgG μ x k = gm_dgG μ x k := by
    intro x k
    induction k with
    | zero => intro _; rfl
    | succ k ih =>
      intro hk
      unfold pf_dgG gm_dgG
      rw [ih (by omega)]
      exact pf_dig_congr 5 (fun j _ _ => h.og (by omega) j)
  have h2' : pf_H2 μ = gm_H2 μ := by
    unfold pf_H2 gm_H2
    rw [h1, h.c]
    exact h2 _ _ (by omega)
  have h3 : pf_H3 μ = gm_H3 μ := by
    unfold pf_H3 gm_H3
    rw [h2']
    exact pf_dig_congr 3 h.kd
  have h4 : ∀ (x : Int) (k : Nat), (k : Int) ≤ 6 → pf_dgR μ 2 x k = gm_dgR μ 66 67 40 x k := by
    intro x k
    induction k with
    | zero => intro _; rfl
    | succ k ih =>
      intro hk
      obtain ⟨g1, g2⟩ := h.1 k (by omega) (by omega)
      unfold pf_dgR gm_dgR
      rw [ih (by omega), ← g1.1]
      exact pf_dig_congr _ (fun j a b => by rw [show 2 + 2 * (k : Int) + 1 = 3 + 2 * k by omega]; exact (g2 j a (by omega)).symm)
  have h5 : ∀ (x : Int) (k : Nat), (k : Int) ≤ 4 → pf_dgR μ 15 x k = gm_dgR μ 68 69 60 x k := by
    intro x k
    induction k with
    | zero => intro _; rfl
    | succ k ih =>
      intro hk
      obtain ⟨g1, g2⟩ := h.2.1.1 k (by omega) (by omega)
      unfold pf_dgR gm_dgR
      rw [ih (by omega), ← g1.1]
      exact pf_dig_congr _ (fun j a b => by rw [show 15 + 2 * (k : Int) + 1 = 16 + 2 * k by omega]; exact (g2 j a (by omega)).symm)
  unfold pf_digest gm_digest pf_H4 gm_H4
  rw [h3, h4 _ _ (by decide), h5 _ _ (by decide)]
/-! the reference's words do not see the class's cells -/
variable (v : gf_vw μ1 μ)
theorem gf_vw.x (v : gf_vw μ1 μ) : gm_x μ1 = gm_x μ := by unfold gm_x; rw [v.k (a := 71) (by decide)]
theorem gf_vw.rk (v : gf_vw μ1 μ) : gm_rk μ1 = gm_rk μ := by funext i f n; unfold gm_rk; rw [v.k (a := 71) (by decide)]
theorem gf_vw.uS (v : gf_vw μ1 μ) : gm_uS μ1 = gm_uS μ := by funext i; unfold gm_uS; rw [v.rk, v.x, v.k (a := 71) (by decide)]
theorem gf_vw.uX (v : gf_vw μ1 μ) : gm_uX μ1 = gm_uX μ := by funext o i; unfold gm_uX; rw [v.rk, v.x, v.k (a := 71) (by decide)]
theorem gf_vw.ua (v : gf_vw μ1 μ) : gm_ua μ1 = gm_ua μ := by funext i; unfold gm_ua; rw [v.uS, v.uX]
theorem gf_vw.og (v : gf_vw μ1 μ) : gm_og μ1 = gm_og μ := by funext i w; unfold gm_og; rw [v.uS, v.rk, v.x, v.k (a := 71) (by decide)]
theorem gf_vw.mk (v : gf_vw μ1 μ) : gm_mk μ1 = gm_mk μ := by funext c; unfold gm_mk; rw [v.rk, v.x, v.k (a := 71) (by decide)]
theorem gf_vw.cvd (v : gf_vw μ1 μ) : gm_cvd μ1 = gm_cvd μ := by funext s; unfold gm_cvd; rw [v.mk, v.x, v.k (a := 71) (by decide)]
theorem gf_vw.row (v : gf_vw μ1 μ) : gm_row μ1 = gm_row μ := by funext r j; unfold gm_row; rw [v.k (a := 67) (by decide)]
theorem gf_vw.U (v : gf_vw μ1 μ) : gm_U μ1 = gm_U μ := by funext i s f; unfold gm_U; rw [v.x, v.k (a := 71) (by decide)]
theorem gf_vw.W (v : gf_vw μ1 μ) : gm_W μ1 = gm_W μ := by funext i p me z; unfold gm_W; rw [v.rk, v.x, v.k (a := 71) (by decide)]
theorem gf_vw.leaf (v : gf_vw μ1 μ) : gm_leaf μ1 = gm_leaf μ := by funext i u r; unfold gm_leaf; rw [v.rk, v.x, v.k (a := 71) (by decide)]
theorem gf_vw.fw (v : gf_vw μ1 μ) : gm_fw μ1 = gm_fw μ := by funext i c y n h z; unfold gm_fw; rw [v.rk]
theorem gf_vw.ff (v : gf_vw μ1 μ) : gm_ff μ1 = gm_ff μ := by
  funext i c y n h k
  induction k with
  | zero => rfl
  | succ k ih => unfold gm_ff; rw [ih, v.fw]
theorem gf_vw.cn (v : gf_vw μ1 μ) : gm_cn μ1 = gm_cn μ := by
  funext w
  unfold gm_cn
  rw [v.rk, v.x, v.uS, v.k (a := 71) (by decide), v.k (a := 66) (by decide), v.k (a := 68) (by decide), v.k (a := 74) (by decide)]
theorem gf_vw.dgR (v : gf_vw μ1 μ) {s p : Int} (hs : 65 ≤ s) (hp : 65 ≤ p) (w h : Int) : ∀ k : Nat, gm_dgR μ1 s p w h k = gm_dgR μ s p w h k := by
  intro k
  induction k with
  | zero => rfl
  | succ k ih => unfold gm_dgR; rw [ih, v.k hs, v.k hp]
theorem gf_vw.dgG (v : gf_vw μ1 μ) (h : Int) : ∀ k : Nat, gm_dgG μ1 h k = gm_dgG μ h k := by
  intro k
  induction k with
  | zero => rfl
  | succ k ih => unfold gm_dgG; rw [ih, v.og]
theorem gf_vw.dg (v : gf_vw μ1 μ) : gm_digest μ1 = gm_digest μ := by
  unfold gm_digest gm_H4 gm_H3 gm_H2 gm_H1
  rw [v.dgR (by decide) (by decide), v.dgR (by decide) (by decide), v.dgG, v.cn, v.k (a := 71) (by decide), v.k (a := 74) (by decide)]
end GC1
