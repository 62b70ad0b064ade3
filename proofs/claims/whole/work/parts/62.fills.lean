/-! pure: smeared figures filled in, as the class counts and as the reference does -/
theorem pf_cnt_add (p : Int → Bool) (m : Nat) : ∀ n : Nat, pf_cnt p (m + n) = pf_cnt p m + pf_cnt (fun w => p (m + w)) n
  | 0 => by show pf_cnt p m = pf_cnt p m + 0; omega
  | n + 1 => by
    have e := pf_cnt_add p m n
    show pf_cnt p (m + n) + (if p ((m + n : Nat) : Int) = true then 1 else 0) = pf_cnt p m + (pf_cnt (fun w => p (m + w)) n + (if p ((m : Int) + (n : Int)) = true then 1 else 0))
    rw [e, Int.natCast_add]
    omega
theorem pf_cnt_mul (p : Int → Bool) (b : Nat) : ∀ a : Nat, pf_cnt p (a * b) = pf_sumf (fun f => pf_cnt (fun w => p (f * b + w)) b) a
  | 0 => by rw [Nat.zero_mul]; rfl
  | a + 1 => by
    rw [Nat.succ_mul, pf_cnt_add, pf_cnt_mul p b a]
    show _ + pf_cnt (fun w => p (((a * b : Nat) : Int) + w)) b = _ + pf_cnt (fun w => p ((a : Int) * b + w)) b
    rw [Int.natCast_mul]
theorem pf_cnt_0 {p : Int → Bool} : ∀ m : Nat, pf_cnt p m = 0 → ∀ j : Int, 0 ≤ j → j < m → p j = false
  | 0, _, j, h0, h1 => by omega
  | m + 1, h, j, h0, h1 => by
    unfold pf_cnt at h
    have hn := (pf_cnt_R p m).1
    by_cases hk : p m = true
    · rw [if_pos hk] at h; omega
    · rw [if_neg hk] at h
      by_cases hj : j = m
      · rw [hj]; simpa using hk
      · exact pf_cnt_0 m (by omega) j h0 (by omega)
theorem pf_sumf_zero {g : Int → Int} : ∀ m : Nat, (∀ f : Int, 0 ≤ f → f < m → g f = 0) → pf_sumf g m = 0
  | 0, _ => rfl
  | m + 1, h => by
    unfold pf_sumf
    rw [pf_sumf_zero m (fun f a b => h f a (by omega)), h m (by omega) (by omega)]
    rfl
theorem pf_sumf_one {g : Int → Int} {a : Int} : ∀ m : Nat, 0 ≤ a → a < m → (∀ f : Int, 0 ≤ f → f < m → f ≠ a → g f = 0) → pf_sumf g m = g a
  | 0, h0, h1, _ => by omega
  | m + 1, h0, h1, h => by
    unfold pf_sumf
    by_cases ha : a = m
    · rw [pf_sumf_zero m (fun f x y => h f x (by omega) (by omega)), ha]; omega
    · rw [pf_sumf_one m h0 (by omega) (fun f x y z => h f x (by omega) z), h m (by omega) (by omega) (by omega)]; omega
theorem pf_sumf_ge {g : Int → Int} {a : Int} : ∀ m : Nat, (∀ f : Int, 0 ≤ f → f < m → 0 ≤ g f) → 0 ≤ a → a < m → g a ≤ pf_sumf g m ∧ 0 ≤ pf_sumf g m
  | 0, _, h0, h1 => by omega
  | m + 1, h, h0, h1 => by
    have hm := h m (by omega) (by omega)
    have hz : 0 ≤ pf_sumf g m := by
      by_cases hm0 : m = 0
      · rw [hm0]; exact Int.le_refl _
      · exact (pf_sumf_ge (a := 0) m (fun f x y => h f x (by omega)) (by omega) (by omega)).2
    unfold pf_sumf
    by_cases ha : a = m
    · rw [ha]; omega
    · have := (pf_sumf_ge (g := g) (a := a) m (fun f x y => h f x (by omega)) h0 (by omega)).1
      omega
theorem pf_sumf_pos {g : Int → Int} : ∀ m : Nat, pf_sumf g m ≠ 0 → ∃ f : Int, 0 ≤ f ∧ f < m ∧ g f ≠ 0
  | 0, h => absurd rfl h
  | m + 1, h => by
    by_cases hm : g m = 0
    · have h2 : pf_sumf g m ≠ 0 := fun z => h (by unfold pf_sumf; rw [z, hm]; rfl)
      obtain ⟨f, a, b, c⟩ := pf_sumf_pos m h2
      exact ⟨f, a, by omega, c⟩
    · exact ⟨m, by omega, by omega, hm⟩
theorem pf_10_pos (e : Nat) : (0 : Int) < 10 ^ e := Int.pow_pos (by decide)
theorem pf_dg1 {f w : Int} {e : Nat} (hw : 0 ≤ w ∧ w < 10 ^ e) (hf : 0 ≤ f ∧ f < 10) : (f * 10 ^ e + w) / 10 ^ e % 10 = f := by
  have hp := pf_10_pos e
  rw [Int.add_comm, Int.add_mul_ediv_right _ _ (by omega), Int.ediv_eq_zero_of_lt hw.1 hw.2]
  omega
theorem pf_dg2 {f w : Int} {e d : Nat} (h : d < e) : (f * 10 ^ e + w) / 10 ^ d % 10 = w / 10 ^ d % 10 := by
  have hp := pf_10_pos d
  have he : (10 : Int) ^ e = 10 ^ (e - d - 1) * 10 * 10 ^ d := by
    rw [← Int.pow_succ, ← Int.pow_add]
    congr 1
    omega
  rw [he, ← Int.mul_assoc, Int.add_comm, Int.add_mul_ediv_right _ _ (by omega), ← Int.mul_assoc, Int.add_mul_emod_self_right]
theorem pf_VW_s {K F S n c : Int} {y : Int → Int} (r : Nat) (s : Int) : pf_VW K F S n c y (r + 1) s = pf_sumf (fun f => pf_way K F S n y (n - 1 - r) s f (pf_VW K F S n c y r)) 10 := by
  unfold pf_VW
  rw [pf_dp]
  unfold pf_stW
  rfl
theorem pf_VW_cnt {K F S n c : Int} {y : Int → Int} (hy : ∀ j : Int, 0 ≤ j → j < n → -1 ≤ y j ∧ y j ≤ 9) : ∀ (r : Nat) (s : Int), (r : Int) ≤ n → pf_VW K F S n c y r s = pf_cnt (fun w => decide (pf_fin K (pf_tr K F S n (gm_fil y (gm_hc y n) w) r s) n = c)) (10 ^ (gm_hc y n - gm_hc y (n - r)).toNat)
  | 0, s, _ => by
    rw [show n - ((0 : Nat) : Int) = n by omega, Int.sub_self]
    show pf_eC K n c 1 0 s = 0 + (if decide (pf_fin K s n = c) = true then 1 else 0)
    unfold pf_eC
    by_cases h : pf_fin K s n = c
    · rw [if_pos h, if_pos (decide_eq_true h)]; rfl
    · rw [if_neg h, if_neg (fun z => h (of_decide_eq_true z))]; rfl
  | r + 1, s, hr => by
    obtain ⟨k, hk⟩ : ∃ k : Int, k = n - 1 - r := ⟨_, rfl⟩
    have hs := gm_hc_s (y := y) (j := k) (by omega)
    have hmo := gm_hc_le (y := y) (j := k + 1) (k := n) (by omega) (by omega)
    rw [pf_VW_s, show n - ((r + 1 : Nat) : Int) = k by omega, ← hk]
    have hkR := hy k (by omega) (by omega)
    have hstep : ∀ v : Int, pf_tr K F S n (gm_fil y (gm_hc y n) v) (r + 1) s = pf_tr K F S n (gm_fil y (gm_hc y n) v) r (pf_fol K F S s k (gm_fil y (gm_hc y n) v k) n) := fun v => by rw [hk]; rfl
    by_cases hh : y k = -1
    · rw [if_pos hh] at hs
      obtain ⟨e, he⟩ : ∃ e : Nat, e = (gm_hc y n - gm_hc y (n - r)).toNat := ⟨_, rfl⟩
      rw [show n - (r : Int) = k + 1 by omega] at he
      rw [show (gm_hc y n - gm_hc y k).toNat = e + 1 by omega, Nat.pow_succ, Nat.mul_comm, pf_cnt_mul]
      refine pf_sumf_congr 10 (fun f f0 f1 => ?_)
      show pf_way K F S n y k s f (pf_VW K F S n c y r) = _
      unfold pf_way
      rw [if_neg (fun z => z.1 hh), pf_VW_cnt hy r _ (by omega), show n - (r : Int) = k + 1 by omega, ← he]
      refine pf_cnt_congr _ (fun w w0 w1 => ?_)
      have w2 : w < 10 ^ e := by rw [Int.natCast_pow] at w1; exact w1
      show decide _ = decide _
      rw [hstep, Int.natCast_pow]
      have e1 : gm_fil y (gm_hc y n) (f * ((10 : Nat) : Int) ^ e + w) k = f := by
        unfold gm_fil
        rw [if_pos hh, show (gm_hc y n - 1 - gm_hc y k).toNat = e by omega]
        exact pf_dg1 ⟨w0, w2⟩ ⟨f0, f1⟩
      rw [e1]
      rw [pf_tr_congr (y := gm_fil y (gm_hc y n) (f * ((10 : Nat) : Int) ^ e + w)) (z := gm_fil y (gm_hc y n) w) r _ (fun j j0 j1 => by
        unfold gm_fil
        by_cases hj : y j = -1
        · rw [if_pos hj, if_pos hj]
          have h1 := gm_hc_le (y := y) (j := k + 1) (k := j) (by omega) (by omega)
          have h2 := gm_hc_lt (y := y) (j := j) (k := n) (by omega) j1 hj
          exact pf_dg2 (by omega)
        · rw [if_neg hj, if_neg hj])]
    · rw [if_neg hh] at hs
      rw [pf_sumf_one (a := y k) 10 (by omega) (by omega) (fun f f0 f1 fn => by unfold pf_way; rw [if_pos ⟨hh, fun z => fn z.symm⟩])]
      unfold pf_way
      rw [if_neg (fun z => z.2 rfl), pf_VW_cnt hy r _ (by omega), show n - (r : Int) = k + 1 by omega, hs, Int.add_zero]
      refine pf_cnt_congr _ (fun w w0 w1 => ?_)
      show decide _ = decide _
      rw [hstep]
      have e1 : gm_fil y (gm_hc y n) w k = y k := by unfold gm_fil; rw [if_neg hh]
      rw [e1]
theorem pf_VW_all {K F S n c : Int} {y : Int → Int} (hn : 0 ≤ n) (hy : ∀ j : Int, 0 ≤ j → j < n → -1 ≤ y j ∧ y j ≤ 9) : pf_VW K F S n c y n.toNat 0 = pf_cnt (fun w => decide (pf_reck K F S (gm_fil y (gm_hc y n) w) n = c)) (10 ^ (gm_hc y n).toNat) := by
  rw [pf_VW_cnt hy n.toNat 0 (by omega), show n - ((n.toNat : Nat) : Int) = 0 by omega]
  have h0 : gm_hc y 0 = 0 := rfl
  rw [h0, Int.sub_zero]
  refine pf_cnt_congr _ (fun w w0 w1 => ?_)
  show decide _ = decide _
  rw [pf_tr_all hn]
/-- a number that fits a smeared one -/
def pf_fit (y z : Int → Int) (a b : Int) : Prop := ∀ j : Int, a ≤ j → j < b → (0 ≤ z j ∧ z j ≤ 9) ∧ (y j ≠ -1 → z j = y j)
theorem pf_VW_pos {K F S n c : Int} {y z : Int → Int} : ∀ (r : Nat) (s : Int), 0 ≤ s ∧ s ≤ 10 → pf_fit y z (n - r) n → pf_fin K (pf_tr K F S n z r s) n = c → 0 < pf_VW K F S n c y r s
  | 0, s, _, _, h => by
    show 0 < pf_eC K n c 1 0 s
    unfold pf_eC
    rw [if_pos (show pf_fin K s n = c from h)]
    omega
  | r + 1, s, hs, hf, h => by
    have hz := hf (n - 1 - r) (by omega) (by omega)
    have h1 := pf_VW_pos (K := K) (F := F) (S := S) (n := n) (c := c) (y := y) (z := z) r (pf_fol K F S s (n - 1 - r) (z (n - 1 - r)) n) (pf_fol_R _ _ _ _ _ _ _) (fun j a b => hf j (by omega) b) h
    rw [pf_VW_s]
    have h2 := (pf_sumf_ge (g := fun f => pf_way K F S n y (n - 1 - r) s f (pf_VW K F S n c y r)) (a := z (n - 1 - r)) 10 (fun f f0 f1 => by
      show 0 ≤ pf_way K F S n y (n - 1 - r) s f (pf_VW K F S n c y r)
      unfold pf_way
      split
      · omega
      · exact (pf_VW_R K F S n c y r _ (pf_fol_R _ _ _ _ _ _ _)).1) hz.1.1 (by omega)).1
    have h3 : pf_way K F S n y (n - 1 - r) s (z (n - 1 - r)) (pf_VW K F S n c y r) = pf_VW K F S n c y r (pf_fol K F S s (n - 1 - r) (z (n - 1 - r)) n) := by
      unfold pf_way
      rw [if_neg (fun q => q.2 (hz.2 q.1).symm)]
    have h4 : pf_way K F S n y (n - 1 - r) s (z (n - 1 - r)) (pf_VW K F S n c y r) ≤ pf_sumf (fun f => pf_way K F S n y (n - 1 - r) s f (pf_VW K F S n c y r)) 10 := h2
    omega
theorem pf_pkW_at {K F S n c : Int} {y : Int → Int} {k : Nat} {s : Int} (hk : (k : Int) < n) (hV : pf_VW K F S n c y (n - k).toNat s ≠ 0) :
    pf_way K F S n y k s (pf_pkW K F S n c y k s) (pf_VW K F S n c y (n - 1 - k).toNat) ≠ 0 := by
  have e : (n - k).toNat = (n - 1 - k).toNat + 1 := by omega
  rw [e, pf_VW_s, show n - 1 - (((n - 1 - k).toNat : Nat) : Int) = k by omega] at hV
  obtain ⟨f, a, b, hf⟩ := pf_sumf_pos 10 hV
  have := (pf_pick_at (p := fun f => decide (pf_way K F S n y k s f (pf_VW K F S n c y (n - 1 - k).toNat) ≠ 0)) 9 0 f a (by omega) (decide_eq_true hf)).1
  exact of_decide_eq_true this
theorem pf_pkW_le {K F S n c : Int} {y : Int → Int} {k : Nat} {s f : Int} (h0 : 0 ≤ f) (h1 : f ≤ 9) (hf : pf_way K F S n y k s f (pf_VW K F S n c y (n - 1 - k).toNat) ≠ 0) : pf_pkW K F S n c y k s ≤ f :=
  (pf_pick_at (p := fun f => decide (pf_way K F S n y k s f (pf_VW K F S n c y (n - 1 - k).toNat) ≠ 0)) 9 0 f h0 (by omega) (decide_eq_true hf)).2
section GP3
variable {K F S n c : Int} {y : Int → Int}
def pf_yW (K F S n c : Int) (y : Int → Int) : Int → Int := pf_ys K F S n (pf_pkW K F S n c y)
theorem pf_yW_R (j : Int) : 0 ≤ pf_yW K F S n c y j ∧ pf_yW K F S n c y j ≤ 9 := pf_pkW_R _ _ _ _ _ _ _ _
theorem pf_yW_at (k : Nat) : pf_yW K F S n c y k = pf_pkW K F S n c y k (pf_rec K F S (pf_yW K F S n c y) n k) := by
  show pf_pkW K F S n c y k (pf_run K F S n (pf_pkW K F S n c y) (k : Int).toNat).1 = _
  rw [Int.toNat_natCast, pf_run_ys]
  rfl
theorem pf_yW_V (hn : 0 ≤ n) (hV : pf_VW K F S n c y n.toNat 0 ≠ 0) : ∀ k : Nat, (k : Int) ≤ n → pf_VW K F S n c y (n - k).toNat (pf_rec K F S (pf_yW K F S n c y) n k) ≠ 0 ∧ pf_fit y (pf_yW K F S n c y) 0 k
  | 0, _ => by
    rw [show (n - ((0 : Nat) : Int)).toNat = n.toNat by omega]
    exact ⟨hV, fun j h0 h1 => by omega⟩
  | k + 1, hk => by
    obtain ⟨h1, h2⟩ := pf_yW_V hn hV k (by omega)
    have h3 := pf_pkW_at (K := K) (F := F) (S := S) (n := n) (c := c) (y := y) (k := k) (by omega) h1
    rw [← pf_yW_at] at h3
    unfold pf_way at h3
    by_cases hm : y k ≠ -1 ∧ y k ≠ pf_yW K F S n c y k
    · rw [if_pos hm] at h3; exact absurd rfl h3
    · rw [if_neg hm] at h3
      refine ⟨?_, fun j j0 j1 => ?_⟩
      · rw [show (n - ((k + 1 : Nat) : Int)).toNat = (n - 1 - k).toNat by omega]
        exact h3
      · by_cases hj : j = k
        · rw [hj]
          refine ⟨pf_yW_R _, fun hne => ?_⟩
          by_cases he : y k = pf_yW K F S n c y k
          · exact he.symm
          · exact absurd ⟨hne, he⟩ hm
        · exact h2 j j0 (by omega)
theorem pf_yW_ok (hn : 0 ≤ n) (hV : pf_VW K F S n c y n.toNat 0 ≠ 0) : pf_reck K F S (pf_yW K F S n c y) n = c ∧ pf_fit y (pf_yW K F S n c y) 0 n := by
  obtain ⟨h1, h2⟩ := pf_yW_V (y := y) hn hV n.toNat (by omega)
  rw [show (n - ((n.toNat : Nat) : Int)).toNat = 0 by omega] at h1
  refine ⟨?_, fun j a b => h2 j a (by omega)⟩
  have h3 : pf_VW K F S n c y 0 (pf_rec K F S (pf_yW K F S n c y) n n.toNat) = pf_eC K n c 1 0 (pf_rec K F S (pf_yW K F S n c y) n n.toNat) := rfl
  rw [h3] at h1
  unfold pf_eC at h1
  by_cases hc : pf_fin K (pf_rec K F S (pf_yW K F S n c y) n n.toNat) n = c
  · exact hc
  · rw [if_neg hc] at h1; exact absurd rfl h1
theorem pf_yW_le (hn : 0 ≤ n) {z : Int → Int} (hz : pf_fit y z 0 n) (hr : pf_reck K F S z n = c) : pf_num (pf_yW K F S n c y) n.toNat ≤ pf_num z n.toNat := by
  refine pf_lex_le (fun j _ _ => pf_yW_R j) (fun j h0 h1 => (hz j h0 (by omega)).1) (fun k hk heq => ?_)
  have hkn : (k : Int) < n := by omega
  have er : pf_rec K F S z n k = pf_rec K F S (pf_yW K F S n c y) n k := pf_rec_congr k heq
  have hA := pf_VW_pos (K := K) (F := F) (S := S) (n := n) (c := c) (y := y) (z := z) (n - 1 - k).toNat (pf_rec K F S z n (k + 1)) (pf_rec_R _ _ _ _ _ _) (fun j a b => hz j (by omega) b) (by
    have := pf_tr_from (K := K) (F := F) (S := S) (n := n) (y := z) (k := k + 1) (by omega)
    rw [show (n - ((k + 1 : Nat) : Int)).toNat = (n - 1 - k).toNat by omega] at this
    rw [this, hr])
  have e2 : pf_rec K F S z n (k + 1) = pf_fol K F S (pf_rec K F S z n k) k (z k) n := rfl
  rw [e2, er] at hA
  have hzk := hz k (by omega) hkn
  rw [pf_yW_at]
  refine pf_pkW_le hzk.1.1 hzk.1.2 ?_
  unfold pf_way
  rw [if_neg (fun q => q.2 (hzk.2 q.1).symm)]
  omega
end GP3
/-! a number that fits is filled in by some v, and greater v fill in greater numbers -/
theorem pf_dv10 (a z : Int) (d : Nat) (hz : 0 ≤ z ∧ z ≤ 9) : (10 * a + z) / 10 ^ (d + 1) = a / 10 ^ d := by
  rw [Int.pow_succ, Int.mul_comm (10 ^ d) 10, ← Int.ediv_ediv_of_nonneg (by decide)]
  congr 1
  omega
theorem gm_fil_ex {y z : Int → Int} : ∀ k : Nat, pf_fit y z 0 k → ∃ u : Int, (0 ≤ u ∧ u < 10 ^ (gm_hc y k).toNat) ∧ ∀ j : Int, 0 ≤ j → j < k → y j = -1 → z j = u / 10 ^ (gm_hc y k - 1 - gm_hc y j).toNat % 10
  | 0, _ => ⟨0, ⟨by omega, pf_10_pos _⟩, fun j h0 h1 => by omega⟩
  | k + 1, h => by
    obtain ⟨u, hu, hd⟩ := gm_fil_ex (y := y) (z := z) k (fun j a b => h j a (by omega))
    have hs := gm_hc_s (y := y) (j := k) (by omega)
    have hR := gm_hc_R y k
    have hz := h k (by omega) (by omega)
    rw [show ((k + 1 : Nat) : Int) = (k : Int) + 1 by omega, hs]
    by_cases hh : y k = -1
    · rw [if_pos hh]
      rw [if_pos hh] at hs
      have hp : (10 : Int) ^ (gm_hc y k + 1).toNat = 10 * 10 ^ (gm_hc y k).toNat := by
        rw [show (gm_hc y k + 1).toNat = (gm_hc y k).toNat + 1 by omega, Int.pow_succ, Int.mul_comm]
      refine ⟨10 * u + z k, ⟨by omega, by omega⟩, fun j h0 h1 hj => ?_⟩
      by_cases hjk : j = k
      · rw [hjk, show (gm_hc y k + 1 - 1 - gm_hc y k).toNat = 0 by omega, Int.pow_zero, Int.ediv_one]
        omega
      · have hl := gm_hc_lt (y := y) (j := j) (k := k) h0 (by omega) hj
        rw [show (gm_hc y k + 1 - 1 - gm_hc y j).toNat = (gm_hc y k - 1 - gm_hc y j).toNat + 1 by omega, pf_dv10 _ _ _ hz.1]
        exact hd j h0 (by omega) hj
    · rw [if_neg hh, Int.add_zero]
      refine ⟨u, hu, fun j h0 h1 hj => ?_⟩
      by_cases hjk : j = k
      · exact absurd (hjk ▸ hj) hh
      · exact hd j h0 (by omega) hj
theorem gm_fil_eq {y z : Int → Int} {n : Int} (hn : 0 ≤ n) (h : pf_fit y z 0 n) : ∃ v : Int, (0 ≤ v ∧ v < 10 ^ (gm_hc y n).toNat) ∧ ∀ j : Int, 0 ≤ j → j < n → gm_fil y (gm_hc y n) v j = z j := by
  obtain ⟨u, hu, hd⟩ := gm_fil_ex (y := y) (z := z) n.toNat (fun j a b => h j a (by omega))
  rw [show ((n.toNat : Nat) : Int) = n by omega] at hu hd
  refine ⟨u, hu, fun j h0 h1 => ?_⟩
  unfold gm_fil
  by_cases hj : y j = -1
  · rw [if_pos hj]; exact (hd j h0 h1 hj).symm
  · rw [if_neg hj]; exact ((h j h0 h1).2 hj).symm
theorem gm_fil_fit {y : Int → Int} {n h v : Int} (hy : ∀ j : Int, 0 ≤ j → j < n → -1 ≤ y j ∧ y j ≤ 9) : pf_fit y (gm_fil y h v) 0 n := fun j h0 h1 => ⟨gm_fil_R hy j h0 h1, fun hj => by unfold gm_fil; rw [if_neg hj]⟩
theorem gm_fil_hd {y : Int → Int} {n v w : Int} (hv : 0 ≤ v ∧ v < 10 ^ (gm_hc y n).toNat) (hw : 0 ≤ w ∧ w < 10 ^ (gm_hc y n).toNat) : ∀ k : Nat, (k : Int) ≤ n → (∀ j : Int, 0 ≤ j → j < k → gm_fil y (gm_hc y n) w j = gm_fil y (gm_hc y n) v j) → v / 10 ^ (gm_hc y n - gm_hc y k).toNat = w / 10 ^ (gm_hc y n - gm_hc y k).toNat
  | 0, _, _ => by
    have h0 : gm_hc y ((0 : Nat) : Int) = 0 := rfl
    rw [h0, Int.sub_zero, Int.ediv_eq_zero_of_lt hv.1 hv.2, Int.ediv_eq_zero_of_lt hw.1 hw.2]
  | k + 1, hk, h => by
    have ih := gm_fil_hd hv hw k (by omega) (fun j a b => h j a (by omega))
    have hs := gm_hc_s (y := y) (j := k) (by omega)
    rw [show ((k + 1 : Nat) : Int) = (k : Int) + 1 by omega]
    by_cases hh : y k = -1
    · have hl := gm_hc_lt (y := y) (j := k) (k := n) (by omega) (by omega) hh
      rw [if_pos hh] at hs
      have hk2 := h k (by omega) (by omega)
      unfold gm_fil at hk2
      rw [if_pos hh, if_pos hh] at hk2
      rw [hs, show (gm_hc y n - (gm_hc y k + 1)).toNat = (gm_hc y n - 1 - gm_hc y k).toNat by omega]
      rw [show (gm_hc y n - gm_hc y k).toNat = (gm_hc y n - 1 - gm_hc y k).toNat + 1 by omega, ← pf_div10, ← pf_div10] at ih
      omega
    · rw [if_neg hh, Int.add_zero] at hs
      rw [hs]
      exact ih
theorem gm_fil_le {y : Int → Int} {n v w : Int} (hn : 0 ≤ n) (hy : ∀ j : Int, 0 ≤ j → j < n → -1 ≤ y j ∧ y j ≤ 9) (hv : 0 ≤ v ∧ v < 10 ^ (gm_hc y n).toNat) (hw : 0 ≤ w ∧ w < 10 ^ (gm_hc y n).toNat) (hvw : v ≤ w) : pf_num (gm_fil y (gm_hc y n) v) n.toNat ≤ pf_num (gm_fil y (gm_hc y n) w) n.toNat := by
  refine pf_lex_le (fun j a b => gm_fil_R hy j a (by omega)) (fun j a b => gm_fil_R hy j a (by omega)) (fun k hk heq => ?_)
  have ih := gm_fil_hd hv hw k (by omega) heq
  unfold gm_fil
  by_cases hh : y k = -1
  · have hl := gm_hc_lt (y := y) (j := k) (k := n) (by omega) (by omega) hh
    rw [if_pos hh, if_pos hh]
    rw [show (gm_hc y n - gm_hc y k).toNat = (gm_hc y n - 1 - gm_hc y k).toNat + 1 by omega, ← pf_div10, ← pf_div10] at ih
    have := Int.ediv_le_ediv (pf_10_pos (gm_hc y n - 1 - gm_hc y k).toNat) hvw
    omega
  · rw [if_neg hh, if_neg hh]
    exact Int.le_refl _
theorem gm_ff_at {μ : gf_M} {i c : Int} {y : Int → Int} {n h : Int} : ∀ m : Nat, pf_cnt (gm_fw μ i c y n h) m ≠ 0 → ∃ v : Int, (0 ≤ v ∧ v < m) ∧ gm_fw μ i c y n h v = true ∧ (∀ u : Int, 0 ≤ u → u < v → gm_fw μ i c y n h u = false) ∧ gm_ff μ i c y n h m = pf_num (gm_fil y h v) n.toNat
  | 0, hc => absurd rfl hc
  | m + 1, hc => by
    by_cases hm : pf_cnt (gm_fw μ i c y n h) m = 0
    · have hz := pf_cnt_0 m hm
      unfold pf_cnt at hc
      rw [hm] at hc
      have hw : gm_fw μ i c y n h m = true := by
        by_cases hw : gm_fw μ i c y n h m = true
        · exact hw
        · rw [if_neg hw] at hc; exact absurd rfl hc
      refine ⟨m, by omega, hw, hz, ?_⟩
      unfold gm_ff
      rw [if_pos ⟨hw, hm⟩]
    · obtain ⟨v, h1, h2, h3, h4⟩ := gm_ff_at m hm
      refine ⟨v, by omega, h2, h3, ?_⟩
      unfold gm_ff
      rw [if_neg (fun z => hm z.2)]
      exact h4
theorem pf_VW_congr {K F S n c : Int} {y z : Int → Int} (h : ∀ j : Int, 0 ≤ j → j < n → y j = z j) : ∀ (r : Nat) (s : Int), (r : Int) ≤ n → pf_VW K F S n c y r s = pf_VW K F S n c z r s
  | 0, _, _ => rfl
  | r + 1, s, hr => by
    rw [pf_VW_s, pf_VW_s]
    refine pf_sumf_congr 10 (fun f _ _ => ?_)
    exact pf_way_congr (h _ (by omega) (by omega)) (fun w _ _ => pf_VW_congr h r w (by omega))
theorem pf_run_congr {K F S n : Int} {p q : Int → Int → Int} : ∀ k : Nat, (∀ (j : Nat) (s : Int), j < k → p j s = q j s) → pf_run K F S n p k = pf_run K F S n q k
  | 0, _ => rfl
  | k + 1, h => by
    unfold pf_run
    rw [pf_run_congr k (fun j s hj => h j s (by omega)), h k _ (by omega)]
/-- the class's count and least number are the reference's -/
theorem gm_fills_V {μ : gf_M} {i c n : Int} {x y : Int → Int} (hn : 0 ≤ n) (hxy : ∀ j : Int, 0 ≤ j → j < n → x j = y j) (hy : ∀ j : Int, 0 ≤ j → j < n → -1 ≤ y j ∧ y j ≤ 9) :
    pf_VW (μ 71 (3 + i)) (μ 71 (10 + i)) (μ 71 (17 + i)) n c x n.toNat 0 = pf_cnt (gm_fw μ i c y n (gm_hc y n)) (10 ^ (gm_hc y n).toNat) ∧ (pf_cnt (gm_fw μ i c y n (gm_hc y n)) (10 ^ (gm_hc y n).toNat) ≠ 0 → (pf_run (μ 71 (3 + i)) (μ 71 (10 + i)) (μ 71 (17 + i)) n (pf_pkW (μ 71 (3 + i)) (μ 71 (10 + i)) (μ 71 (17 + i)) n c x) n.toNat).2 = gm_ff μ i c y n (gm_hc y n) (10 ^ (gm_hc y n).toNat)) := by
  have hA : pf_VW (μ 71 (3 + i)) (μ 71 (10 + i)) (μ 71 (17 + i)) n c y n.toNat 0 = pf_cnt (gm_fw μ i c y n (gm_hc y n)) (10 ^ (gm_hc y n).toNat) := pf_VW_all hn hy
  rw [pf_VW_congr hxy n.toNat 0 (by omega)]
  refine ⟨hA, fun hne => ?_⟩
  rw [pf_run_congr (q := pf_pkW (μ 71 (3 + i)) (μ 71 (10 + i)) (μ 71 (17 + i)) n c y) n.toNat (fun j s hj => by
    unfold pf_pkW
    congr 1
    funext f
    rw [pf_way_congr (hxy j (by omega) (by omega)) (fun w _ _ => pf_VW_congr hxy (n - 1 - j).toNat w (by omega))])]
  rw [pf_run_ys]
  show pf_num (pf_yW (μ 71 (3 + i)) (μ 71 (10 + i)) (μ 71 (17 + i)) n c y) n.toNat = _
  obtain ⟨h1, h2⟩ := pf_yW_ok (y := y) hn (by rw [hA]; exact hne)
  obtain ⟨v, v1, v2, v3, v4⟩ := gm_ff_at _ hne
  rw [Int.natCast_pow] at v1
  obtain ⟨u, u1, u2⟩ := gm_fil_eq hn h2
  have hu : gm_fw μ i c y n (gm_hc y n) u = true := decide_eq_true (by
    show pf_reck _ _ _ _ _ = c
    rw [pf_reck_congr u2]
    exact h1)
  have hvu : v ≤ u := by
    by_cases hlt : u < v
    · have := v3 u u1.1 hlt
      rw [hu] at this
      cases this
    · omega
  have l1 := gm_fil_le hn hy v1 u1 hvu
  have l2 := pf_yW_le (K := μ 71 (3 + i)) (F := μ 71 (10 + i)) (S := μ 71 (17 + i)) (c := c) hn (gm_fil_fit (h := gm_hc y n) (v := v) hy) (of_decide_eq_true v2)
  have l3 : pf_num (gm_fil y (gm_hc y n) u) n.toNat = pf_num (pf_yW (μ 71 (3 + i)) (μ 71 (10 + i)) (μ 71 (17 + i)) n c y) n.toNat := pf_num_congr _ (fun j a b => u2 j a (by omega))
  rw [v4]
  omega
