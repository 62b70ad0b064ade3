/-! pure: what a table over places says of all numbers; the least number -/
/-- the state behind the last r places, from state s on -/
def pf_tr (K F S n : Int) (y : Int → Int) : Nat → Int → Int
  | 0, s => s
  | r + 1, s => pf_tr K F S n y r (pf_fol K F S s (n - 1 - r) (y (n - 1 - r)) n)
theorem pf_tr_rec {K F S n : Int} {y : Int → Int} : ∀ (r k : Nat), n = ((k + r : Nat) : Int) → pf_tr K F S n y r (pf_rec K F S y n k) = pf_rec K F S y n (k + r)
  | 0, _, _ => rfl
  | r + 1, k, h => by
    have e := pf_tr_rec (K := K) (F := F) (S := S) (n := n) (y := y) r (k + 1) (by omega)
    rw [show k + (r + 1) = k + 1 + r by omega, ← e]
    show pf_tr K F S n y r (pf_fol K F S (pf_rec K F S y n k) (n - 1 - r) (y (n - 1 - r)) n) = _
    rw [show n - 1 - (r : Int) = k by omega]
    rfl
theorem pf_tr_congr {K F S n : Int} {y z : Int → Int} : ∀ (r : Nat) (s : Int), (∀ j : Int, n - r ≤ j → j < n → y j = z j) → pf_tr K F S n y r s = pf_tr K F S n z r s
  | 0, _, _ => rfl
  | r + 1, s, h => by
    unfold pf_tr
    rw [h (n - 1 - r) (by omega) (by omega)]
    exact pf_tr_congr r _ (fun j h0 h1 => h j (by omega) h1)
theorem pf_tr_all {K F S n : Int} {y : Int → Int} (hn : 0 ≤ n) : pf_fin K (pf_tr K F S n y n.toNat 0) n = pf_reck K F S y n := by
  have e := pf_tr_rec (K := K) (F := F) (S := S) (n := n) (y := y) n.toNat 0 (by omega)
  rw [Nat.zero_add] at e
  unfold pf_reck
  rw [← e]
  rfl
theorem pf_tr_from {K F S n : Int} {y : Int → Int} {k : Nat} (hk : (k : Int) ≤ n) : pf_fin K (pf_tr K F S n y (n - k).toNat (pf_rec K F S y n k)) n = pf_reck K F S y n := by
  have e := pf_tr_rec (K := K) (F := F) (S := S) (n := n) (y := y) (n - k).toNat k (by omega)
  rw [e]
  unfold pf_reck
  rw [show k + (n - k).toNat = n.toNat by omega]
theorem pf_minf_le {g : Int → Int} : ∀ (m : Nat) (f : Int), 0 ≤ f → f < m → pf_minf g m ≤ g f
  | 0, f, h0, h1 => by omega
  | m + 1, f, h0, h1 => by
    unfold pf_minf gf_min
    by_cases h : f = m
    · rw [h]; split <;> omega
    · have := pf_minf_le (g := g) m f h0 (by omega)
      split <;> omega
theorem pf_minf_at {g : Int → Int} : ∀ m : Nat, pf_minf g m < 100 → ∃ f : Int, 0 ≤ f ∧ f < m ∧ g f = pf_minf g m
  | 0, h => by unfold pf_minf at h; omega
  | m + 1, h => by
    unfold pf_minf gf_min at h ⊢
    by_cases hl : g m < pf_minf g m
    · rw [if_pos hl]
      exact ⟨m, by omega, by omega, rfl⟩
    · rw [if_neg hl] at h ⊢
      obtain ⟨f, a, b, c⟩ := pf_minf_at m h
      exact ⟨f, a, by omega, c⟩
theorem pf_pick_at {p : Int → Bool} : ∀ (b : Nat) (a f : Int), a ≤ f → f ≤ a + b → p f = true → p (pf_pick p b a) = true ∧ pf_pick p b a ≤ f
  | 0, a, f, h0, h1, h => by
    have e : f = a := by omega
    rw [e] at h ⊢
    exact ⟨h, Int.le_refl _⟩
  | b + 1, a, f, h0, h1, h => by
    unfold pf_pick
    by_cases hp : p a = true
    · rw [if_pos hp]; exact ⟨hp, h0⟩
    · rw [if_neg hp]
      have hne : f ≠ a := fun e => hp (e ▸ h)
      exact pf_pick_at b (a + 1) f (by omega) (by omega) h
/-- the figures that are picked -/
def pf_ys (K F S n : Int) (pk : Int → Int → Int) : Int → Int := fun j => pk j (pf_run K F S n pk j.toNat).1
theorem pf_run_ys {K F S n : Int} {pk : Int → Int → Int} : ∀ k : Nat, pf_run K F S n pk k = (pf_rec K F S (pf_ys K F S n pk) n k, pf_num (pf_ys K F S n pk) k)
  | 0 => rfl
  | k + 1 => by
    have e := pf_run_ys (K := K) (F := F) (S := S) (n := n) (pk := pk) k
    have ey : pf_ys K F S n pk k = pk k (pf_run K F S n pk k).1 := by unfold pf_ys; rw [Int.toNat_natCast]
    unfold pf_run pf_rec pf_num
    rw [← ey, e]
/-- what is picked least at each place is the least number -/
theorem pf_lex {N : Nat} {a y : Int → Int} (ha : ∀ j : Int, 0 ≤ j → j < N → 0 ≤ a j ∧ a j ≤ 9) (hy : ∀ j : Int, 0 ≤ j → j < N → 0 ≤ y j ∧ y j ≤ 9) (h : ∀ k : Nat, k < N → (∀ j : Int, 0 ≤ j → j < k → y j = a j) → a k ≤ y k) : ∀ k : Nat, k ≤ N → pf_num a k < pf_num y k ∨ (pf_num a k = pf_num y k ∧ ∀ j : Int, 0 ≤ j → j < k → y j = a j)
  | 0, _ => Or.inr ⟨rfl, fun j h0 h1 => by omega⟩
  | k + 1, hk => by
    have h1 := ha k (by omega) (by omega)
    have h2 := hy k (by omega) (by omega)
    unfold pf_num
    rcases pf_lex ha hy h k (by omega) with hl | ⟨he, hq⟩
    · left; omega
    · have h3 := h k (by omega) hq
      by_cases h4 : a k = y k
      · right
        refine ⟨by omega, fun j h0 h1 => ?_⟩
        by_cases hj : j = k
        · rw [hj, h4]
        · exact hq j h0 (by omega)
      · left; omega
theorem pf_lex_le {N : Nat} {a y : Int → Int} (ha : ∀ j : Int, 0 ≤ j → j < N → 0 ≤ a j ∧ a j ≤ 9) (hy : ∀ j : Int, 0 ≤ j → j < N → 0 ≤ y j ∧ y j ≤ 9) (h : ∀ k : Nat, k < N → (∀ j : Int, 0 ≤ j → j < k → y j = a j) → a k ≤ y k) : pf_num a N ≤ pf_num y N := by
  rcases pf_lex ha hy h N (Nat.le_refl _) with h1 | h1 <;> omega
/-! how many figures are others -/
def pf_td (x y : Int → Int) (n : Int) : Nat → Int
  | 0 => 0
  | r + 1 => (if y (n - 1 - r) = x (n - 1 - r) then 0 else 1) + pf_td x y n r
def pf_pd (x y : Int → Int) : Nat → Int
  | 0 => 0
  | k + 1 => pf_pd x y k + (if y k = x k then 0 else 1)
theorem pf_pd_td {x y : Int → Int} {n : Int} : ∀ (r k : Nat), n = ((k + r : Nat) : Int) → pf_pd x y k + pf_td x y n r = pf_pd x y (k + r)
  | 0, k, _ => by unfold pf_td; rw [Nat.add_zero]; omega
  | r + 1, k, h => by
    have e := pf_pd_td (x := x) (y := y) (n := n) r (k + 1) (by omega)
    rw [show k + (r + 1) = k + 1 + r by omega, ← e]
    show pf_pd x y k + ((if y (n - 1 - r) = x (n - 1 - r) then 0 else 1) + pf_td x y n r) = (pf_pd x y k + (if y k = x k then 0 else 1)) + pf_td x y n r
    rw [show n - 1 - (r : Int) = k by omega]
    omega
theorem pf_pd_congr {x y z : Int → Int} : ∀ k : Nat, (∀ j : Int, 0 ≤ j → j < k → y j = z j) → pf_pd x y k = pf_pd x z k
  | 0, _ => rfl
  | k + 1, h => by
    unfold pf_pd
    rw [pf_pd_congr k (fun j h0 h1 => h j h0 (by omega)), h k (by omega) (by omega)]
theorem pf_VN_s {K F S n c : Int} {x : Int → Int} (r : Nat) (s : Int) : pf_VN K F S n c x (r + 1) s = pf_minf (fun f => pf_oth K F S n x (n - 1 - r) s f (pf_VN K F S n c x r)) 10 := by
  unfold pf_VN
  rw [pf_dp]
  unfold pf_stN
  rfl
theorem pf_VN_le {K F S n c : Int} {x y : Int → Int} : ∀ (r : Nat) (s : Int), (∀ j : Int, n - r ≤ j → j < n → 0 ≤ y j ∧ y j ≤ 9) → pf_fin K (pf_tr K F S n y r s) n = c → pf_VN K F S n c x r s ≤ pf_td x y n r
  | 0, s, _, h => by
    show pf_eC K n c 0 100 s ≤ 0
    unfold pf_eC
    rw [if_pos (show pf_fin K s n = c from h)]
    omega
  | r + 1, s, hy, h => by
    have h1 := pf_VN_le (x := x) r (pf_fol K F S s (n - 1 - r) (y (n - 1 - r)) n) (fun j a b => hy j (by omega) b) h
    have hf := hy (n - 1 - r) (by omega) (by omega)
    have h2 : pf_VN K F S n c x (r + 1) s ≤ pf_oth K F S n x (n - 1 - r) s (y (n - 1 - r)) (pf_VN K F S n c x r) := by
      rw [pf_VN_s]
      exact pf_minf_le (g := fun f => pf_oth K F S n x (n - 1 - r) s f (pf_VN K F S n c x r)) 10 (y (n - 1 - r)) hf.1 (by omega)
    unfold pf_oth at h2
    unfold pf_td
    omega
/-- what is picked at a place for the fewest others: it attains the table's number, and it is the least that does -/
theorem pf_pkN_at {K F S n c : Int} {x : Int → Int} {k : Nat} {s : Int} (hk : (k : Int) < n) (hV : pf_VN K F S n c x (n - k).toNat s < 100) :
    pf_oth K F S n x k s (pf_pkN K F S n c x k s) (pf_VN K F S n c x (n - 1 - k).toNat) = pf_VN K F S n c x (n - k).toNat s ∧ ∀ f : Int, 0 ≤ f → f ≤ 9 → pf_oth K F S n x k s f (pf_VN K F S n c x (n - 1 - k).toNat) = pf_VN K F S n c x (n - k).toNat s → pf_pkN K F S n c x k s ≤ f := by
  have e : (n - k).toNat = (n - 1 - k).toNat + 1 := by omega
  have hs : pf_VN K F S n c x (n - k).toNat s = pf_minf (fun f => pf_oth K F S n x k s f (pf_VN K F S n c x (n - 1 - k).toNat)) 10 := by
    rw [e, pf_VN_s, show n - 1 - (((n - 1 - k).toNat : Nat) : Int) = k by omega]
  refine ⟨?_, fun f h0 h1 h => ?_⟩
  · obtain ⟨f, a, b, hf⟩ := pf_minf_at 10 (hs ▸ hV)
    have := (pf_pick_at (p := fun f => decide (pf_oth K F S n x k s f (pf_VN K F S n c x (n - 1 - k).toNat) = pf_VN K F S n c x (n - k).toNat s)) 9 0 f a (by omega) (decide_eq_true (by rw [hs]; exact hf))).1
    exact of_decide_eq_true this
  · exact (pf_pick_at (p := fun f => decide (pf_oth K F S n x k s f (pf_VN K F S n c x (n - 1 - k).toNat) = pf_VN K F S n c x (n - k).toNat s)) 9 0 f h0 (by omega) (decide_eq_true h)).2
section GP1
variable {K F S n c : Int} {x : Int → Int}
def pf_yN (K F S n c : Int) (x : Int → Int) : Int → Int := pf_ys K F S n (pf_pkN K F S n c x)
theorem pf_yN_R (j : Int) : 0 ≤ pf_yN K F S n c x j ∧ pf_yN K F S n c x j ≤ 9 := pf_pkN_R _ _ _ _ _ _ _ _
theorem pf_yN_at (k : Nat) : pf_yN K F S n c x k = pf_pkN K F S n c x k (pf_rec K F S (pf_yN K F S n c x) n k) := by
  show pf_pkN K F S n c x k (pf_run K F S n (pf_pkN K F S n c x) (k : Int).toNat).1 = _
  rw [Int.toNat_natCast, pf_run_ys]
  rfl
theorem pf_yN_V (hn : 0 ≤ n) (hV : pf_VN K F S n c x n.toNat 0 < 100) : ∀ k : Nat, (k : Int) ≤ n → pf_pd x (pf_yN K F S n c x) k + pf_VN K F S n c x (n - k).toNat (pf_rec K F S (pf_yN K F S n c x) n k) = pf_VN K F S n c x n.toNat 0 ∧ 0 ≤ pf_pd x (pf_yN K F S n c x) k
  | 0, _ => by
    unfold pf_pd pf_rec
    rw [show (n - ((0 : Nat) : Int)).toNat = n.toNat by omega]
    omega
  | k + 1, hk => by
    obtain ⟨h1, h2⟩ := pf_yN_V hn hV k (by omega)
    have h3 := (pf_pkN_at (K := K) (F := F) (S := S) (n := n) (c := c) (x := x) (k := k) (s := pf_rec K F S (pf_yN K F S n c x) n k) (by omega) (by omega)).1
    rw [← pf_yN_at] at h3
    unfold pf_oth at h3
    have e : pf_rec K F S (pf_yN K F S n c x) n (k + 1) = pf_fol K F S (pf_rec K F S (pf_yN K F S n c x) n k) k (pf_yN K F S n c x k) n := rfl
    have e2 : pf_pd x (pf_yN K F S n c x) (k + 1) = pf_pd x (pf_yN K F S n c x) k + (if pf_yN K F S n c x k = x k then 0 else 1) := rfl
    rw [e, e2, show (n - ((k + 1 : Nat) : Int)).toNat = (n - 1 - k).toNat by omega]
    refine ⟨by omega, ?_⟩
    split <;> omega
/-- the number that is told: the guard reckons c over it, so many of its figures are others, and no less one is such -/
theorem pf_yN_ok (hn : 0 ≤ n) (hV : pf_VN K F S n c x n.toNat 0 < 100) : pf_reck K F S (pf_yN K F S n c x) n = c ∧ pf_pd x (pf_yN K F S n c x) n.toNat = pf_VN K F S n c x n.toNat 0 := by
  obtain ⟨h1, h2⟩ := pf_yN_V (x := x) hn hV n.toNat (by omega)
  rw [show (n - ((n.toNat : Nat) : Int)).toNat = 0 by omega] at h1
  have h3 : pf_VN K F S n c x 0 (pf_rec K F S (pf_yN K F S n c x) n n.toNat) = pf_eC K n c 0 100 (pf_rec K F S (pf_yN K F S n c x) n n.toNat) := rfl
  rw [h3] at h1
  unfold pf_eC at h1
  by_cases hc : pf_fin K (pf_rec K F S (pf_yN K F S n c x) n n.toNat) n = c
  · rw [if_pos hc] at h1
    exact ⟨hc, by omega⟩
  · rw [if_neg hc] at h1
    omega
theorem pf_yN_le (hn : 0 ≤ n) (hV : pf_VN K F S n c x n.toNat 0 < 100) {y : Int → Int} (hy : ∀ j : Int, 0 ≤ j → j < n → 0 ≤ y j ∧ y j ≤ 9) (hr : pf_reck K F S y n = c) (hd : pf_pd x y n.toNat = pf_VN K F S n c x n.toNat 0) : pf_num (pf_yN K F S n c x) n.toNat ≤ pf_num y n.toNat := by
  refine pf_lex_le (fun j _ _ => pf_yN_R j) (fun j h0 h1 => hy j h0 (by omega)) (fun k hk heq => ?_)
  have hkn : (k : Int) < n := by omega
  obtain ⟨h1, h2⟩ := pf_yN_V (x := x) hn hV k (by omega)
  have er : pf_rec K F S y n k = pf_rec K F S (pf_yN K F S n c x) n k := pf_rec_congr k heq
  have ed : pf_pd x y k = pf_pd x (pf_yN K F S n c x) k := pf_pd_congr k heq
  have e1 := pf_pd_td (x := x) (y := y) (n := n) (n - k).toNat k (by omega)
  rw [show k + (n - k).toNat = n.toNat by omega, hd, ed] at e1
  have es : (n - k).toNat = (n - 1 - k).toNat + 1 := by omega
  rw [es] at e1
  unfold pf_td at e1
  rw [show n - 1 - (((n - 1 - k).toNat : Nat) : Int) = k by omega] at e1
  have hA := pf_VN_le (K := K) (F := F) (S := S) (n := n) (c := c) (x := x) (y := y) (n - 1 - k).toNat (pf_rec K F S y n (k + 1)) (fun j a b => hy j (by omega) b) (by
    have := pf_tr_from (K := K) (F := F) (S := S) (n := n) (y := y) (k := k + 1) (by omega)
    rw [show (n - ((k + 1 : Nat) : Int)).toNat = (n - 1 - k).toNat by omega] at this
    rw [this, hr])
  have e2 : pf_rec K F S y n (k + 1) = pf_fol K F S (pf_rec K F S y n k) k (y k) n := rfl
  rw [e2, er] at hA
  have hyk := hy k (by omega) hkn
  have hB : pf_VN K F S n c x (n - k).toNat (pf_rec K F S (pf_yN K F S n c x) n k) ≤ pf_oth K F S n x k (pf_rec K F S (pf_yN K F S n c x) n k) (y k) (pf_VN K F S n c x (n - 1 - k).toNat) := by
    rw [es, pf_VN_s, show n - 1 - (((n - 1 - k).toNat : Nat) : Int) = k by omega]
    exact pf_minf_le (g := fun f => pf_oth K F S n x k (pf_rec K F S (pf_yN K F S n c x) n k) f (pf_VN K F S n c x (n - 1 - k).toNat)) 10 (y k) hyk.1 (by omega)
  rw [pf_yN_at]
  refine (pf_pkN_at (K := K) (F := F) (S := S) (n := n) (c := c) (x := x) (k := k) hkn (by omega)).2 (y k) hyk.1 hyk.2 ?_
  unfold pf_oth at hB ⊢
  omega
theorem pf_VN_near (hn : 0 ≤ n) {y : Int → Int} (hy : ∀ j : Int, 0 ≤ j → j < n → 0 ≤ y j ∧ y j ≤ 9) (hr : pf_reck K F S y n = c) : pf_VN K F S n c x n.toNat 0 ≤ pf_pd x y n.toNat := by
  have h := pf_VN_le (K := K) (F := F) (S := S) (n := n) (c := c) (x := x) (y := y) n.toNat 0 (fun j a b => hy j (by omega) b) (by rw [pf_tr_all hn]; exact hr)
  have e := pf_pd_td (x := x) (y := y) (n := n) n.toNat 0 (by omega)
  rw [Nat.zero_add] at e
  have : pf_pd x y 0 = 0 := rfl
  omega
end GP1
