/-! pure: by turns; chances and means; the figure to ask with -/
theorem pf_VT_s {K F S z n : Int} (r : Nat) (s : Int) : pf_VT K F S z n (r + 1) s = pf_bst (if (z - 1 - r - n) % 2 = 0 then 1 else 0) (fun f => pf_VT K F S z n r (pf_fol K F S s (z - 1 - r) f z)) 9 := by
  unfold pf_VT
  rw [pf_dp]
  unfold pf_stT
  rfl
theorem gm_fld_V {μ : gf_M} {i u : Int} (hn : 0 ≤ μ 71 1) : ∀ (d : Nat) (r : Int), (d : Int) ≤ u → 0 ≤ r → gm_fld (gm_leaf μ i u) u d r = pf_VT (μ 71 (3 + i)) (μ 71 (10 + i)) (μ 71 (17 + i)) (μ 71 1 + u) (μ 71 1) d (pf_rec (μ 71 (3 + i)) (μ 71 (10 + i)) (μ 71 (17 + i)) (gm_ext (gm_x μ) (μ 71 1) (u - d) r) (μ 71 1 + u) (μ 71 1 + u - d).toNat)
  | 0, r, hd, hr => by
    rw [show u - ((0 : Nat) : Int) = u by omega, show (μ 71 1 + u - ((0 : Nat) : Int)).toNat = (μ 71 1 + u).toNat by omega]
    rfl
  | d + 1, r, hd, hr => by
    rw [pf_VT_s, show μ 71 1 + u - 1 - (d : Int) - μ 71 1 = u - 1 - d by omega]
    show pf_bst (if (u - 1 - d) % 2 = 0 then 1 else 0) (fun f => gm_fld (gm_leaf μ i u) u d (10 * r + f)) 9 = _
    refine pf_bst_congr 9 (fun f h0 h1 => ?_)
    show gm_fld (gm_leaf μ i u) u d (10 * r + f) = _
    rw [gm_fld_V hn d (10 * r + f) (by omega) (by omega)]
    congr 1
    obtain ⟨k, hk⟩ : ∃ k : Nat, k = (μ 71 1 + u - ((d + 1 : Nat) : Int)).toNat := ⟨_, rfl⟩
    rw [← hk, show (μ 71 1 + u - (d : Int)).toNat = k + 1 by omega]
    show pf_fol _ _ _ (pf_rec _ _ _ (gm_ext (gm_x μ) (μ 71 1) (u - d) (10 * r + f)) (μ 71 1 + u) k) k (gm_ext (gm_x μ) (μ 71 1) (u - d) (10 * r + f) k) (μ 71 1 + u) = _
    have e1 : gm_ext (gm_x μ) (μ 71 1) (u - d) (10 * r + f) k = f := by
      unfold gm_ext
      rw [if_neg (by omega), show (μ 71 1 + (u - (d : Int)) - 1 - (k : Int)).toNat = 0 by omega, Int.pow_zero, Int.ediv_one]
      omega
    rw [e1, show μ 71 1 + u - 1 - (d : Int) = k by omega]
    congr 1
    refine pf_rec_congr k (fun j j0 j1 => ?_)
    unfold gm_ext
    by_cases hj : j < μ 71 1
    · rw [if_pos hj, if_pos hj]
    · rw [if_neg hj, if_neg hj, show (μ 71 1 + (u - (d : Int)) - 1 - j).toNat = (μ 71 1 + (u - ((d + 1 : Nat) : Int)) - 1 - j).toNat + 1 by omega, pf_dv10 _ _ _ (by omega)]
theorem gm_duel_V {μ : gf_M} {i u : Int} {x : Int → Int} (hn : 0 ≤ μ 71 1) (hu : 0 ≤ u) (hx : ∀ j : Int, 0 ≤ j → j < μ 71 1 → gm_x μ j = x j) : pf_VT (μ 71 (3 + i)) (μ 71 (10 + i)) (μ 71 (17 + i)) (μ 71 1 + u) (μ 71 1) u.toNat (pf_rec (μ 71 (3 + i)) (μ 71 (10 + i)) (μ 71 (17 + i)) x (μ 71 1 + u) (μ 71 1).toNat) = gm_fld (gm_leaf μ i u) u u.toNat 0 := by
  rw [gm_fld_V hn u.toNat 0 (by omega) (by omega), show (μ 71 1 + u - ((u.toNat : Nat) : Int)).toNat = (μ 71 1).toNat by omega]
  congr 1
  refine pf_rec_congr _ (fun j j0 j1 => ?_)
  unfold gm_ext
  rw [if_pos (by omega), hx j j0 (by omega)]
/-! chances -/
theorem gm_bit_e {z k : Int} (h : 0 ≤ z) : gm_bit z k = z / 2 ^ k.toNat % 2 := by
  unfold gm_bit gf_and gf_shr
  have hz : 0 ≤ z / 2 ^ k.toNat := Int.ediv_nonneg h (Int.le_of_lt (Int.pow_pos (by decide)))
  rw [show (1 : Int).toNat = 1 from rfl, Nat.and_one_is_mod]
  omega
theorem gm_bit_0 {w b : Int} (hw : 0 ≤ w) (hb : b = 0 ∨ b = 1) : gm_bit (2 * w + b) 0 = b := by
  rw [gm_bit_e (by omega), show (0 : Int).toNat = 0 from rfl, Int.pow_zero, Int.ediv_one]
  omega
theorem gm_bit_s {w b j : Int} (hw : 0 ≤ w) (hb : b = 0 ∨ b = 1) (hj : 0 ≤ j) : gm_bit (2 * w + b) (j + 1) = gm_bit w j := by
  rw [gm_bit_e (by omega), gm_bit_e hw, show (j + 1).toNat = j.toNat + 1 by omega, Int.pow_succ, Int.mul_comm (2 ^ j.toNat) 2, ← Int.ediv_ediv_of_nonneg (by decide), show (2 * w + b) / 2 = w by omega]
theorem gm_prt_s {p w b : Int} (hw : 0 ≤ w) (hb : b = 0 ∨ b = 1) : ∀ r : Nat, gm_prt p (2 * w + b) (r + 1) = (if b = 1 then p else 12 - p) * gm_prt p w r
  | 0 => by
    show 1 * (if gm_bit (2 * w + b) ((0 : Nat) : Int) = 1 then p else 12 - p) = (if b = 1 then p else 12 - p) * 1
    rw [show ((0 : Nat) : Int) = 0 from rfl, gm_bit_0 hw hb, Int.one_mul, Int.mul_one]
  | r + 1 => by
    show gm_prt p (2 * w + b) (r + 1) * (if gm_bit (2 * w + b) ((r + 1 : Nat) : Int) = 1 then p else 12 - p) = (if b = 1 then p else 12 - p) * (gm_prt p w r * (if gm_bit w r = 1 then p else 12 - p))
    rw [gm_prt_s hw hb r, show ((r + 1 : Nat) : Int) = (r : Int) + 1 by omega, gm_bit_s hw hb (by omega), Int.mul_assoc]
theorem gm_prt_0 (p : Int) : ∀ r : Nat, gm_prt p 0 r = (12 - p) ^ r
  | 0 => (Int.pow_zero (12 - p)).symm
  | r + 1 => by
    show gm_prt p 0 r * (if gm_bit 0 r = 1 then p else 12 - p) = _
    rw [gm_prt_0 p r, gm_bit_e (Int.le_refl 0), Int.zero_ediv, if_neg (by decide), Int.pow_succ]
theorem pf_sumf_add (g h : Int → Int) : ∀ m : Nat, pf_sumf (fun w => g w + h w) m = pf_sumf g m + pf_sumf h m
  | 0 => rfl
  | m + 1 => by
    have e := pf_sumf_add g h m
    show pf_sumf (fun w => g w + h w) m + (g m + h m) = (pf_sumf g m + g m) + (pf_sumf h m + h m)
    omega
theorem pf_sumf_lin (a : Int) (g : Int → Int) : ∀ m : Nat, pf_sumf (fun w => a * g w) m = a * pf_sumf g m
  | 0 => (Int.mul_zero a).symm
  | m + 1 => by
    have e := pf_sumf_lin a g m
    show pf_sumf (fun w => a * g w) m + a * g m = a * (pf_sumf g m + g m)
    rw [e, Int.mul_add]
theorem pf_sumf_dbl (g : Int → Int) : ∀ m : Nat, pf_sumf g (m * 2) = pf_sumf (fun w => g (2 * w + 0) + g (2 * w + 1)) m
  | 0 => rfl
  | m + 1 => by
    have e := pf_sumf_dbl g m
    rw [show (m + 1) * 2 = m * 2 + 1 + 1 by omega]
    show pf_sumf g (m * 2) + g ((m * 2 : Nat) : Int) + g ((m * 2 + 1 : Nat) : Int) = pf_sumf (fun w => g (2 * w + 0) + g (2 * w + 1)) m + (g (2 * (m : Int) + 0) + g (2 * (m : Int) + 1))
    rw [e, show ((m * 2 : Nat) : Int) = 2 * (m : Int) + 0 by omega, show ((m * 2 + 1 : Nat) : Int) = 2 * (m : Int) + 1 by omega]
    omega
def pf_cyo (x : Int → Int) (o w : Int) : Int → Int := fun j => (x j + gm_bit w (j - o)) % 10
theorem pf_VO_s {K F S n p : Int} {x e : Int → Int} (r : Nat) (s : Int) : pf_VO K F S n p x e (r + 1) s = p * pf_VO K F S n p x e r (pf_fol K F S s (n - 1 - r) ((x (n - 1 - r) + 1) % 10) n) + (12 - p) * pf_VO K F S n p x e r (pf_fol K F S s (n - 1 - r) (x (n - 1 - r)) n) := by
  unfold pf_VO
  rw [pf_dp]
  unfold pf_stO
  rfl
theorem pf_VO_sum {K F S n p : Int} {x e : Int → Int} (hF : ∀ j : Int, 0 ≤ j → j < n → 0 ≤ x j ∧ x j ≤ 9) : ∀ (r : Nat) (s : Int), (r : Int) ≤ n → pf_VO K F S n p x e r s = pf_sumf (fun w => gm_prt p w r * e (pf_tr K F S n (pf_cyo x (n - r) w) r s)) (2 ^ r)
  | 0, s, _ => by
    show e s = 0 + 1 * e s
    omega
  | r + 1, s, hr => by
    obtain ⟨k, hk⟩ : ∃ k : Int, k = n - 1 - r := ⟨_, rfl⟩
    have hxk := hF k (by omega) (by omega)
    rw [pf_VO_s, Nat.pow_succ, pf_sumf_dbl, ← hk, pf_VO_sum hF r _ (by omega), pf_VO_sum hF r _ (by omega), ← pf_sumf_lin, ← pf_sumf_lin, ← pf_sumf_add]
    refine pf_sumf_congr _ (fun w w0 w1 => ?_)
    have hb : ∀ b : Int, b = 0 ∨ b = 1 → pf_tr K F S n (pf_cyo x (n - ((r + 1 : Nat) : Int)) (2 * w + b)) (r + 1) s = pf_tr K F S n (pf_cyo x (n - r) w) r (pf_fol K F S s k ((x k + b) % 10) n) := fun b hb => by
      rw [show n - ((r + 1 : Nat) : Int) = k by omega, show n - (r : Int) = k + 1 by omega]
      show pf_tr K F S n (pf_cyo x k (2 * w + b)) r (pf_fol K F S s (n - 1 - r) (pf_cyo x k (2 * w + b) (n - 1 - r)) n) = _
      rw [← hk]
      have e1 : pf_cyo x k (2 * w + b) k = (x k + b) % 10 := by
        unfold pf_cyo
        rw [Int.sub_self, gm_bit_0 w0 hb]
      rw [e1]
      refine pf_tr_congr r _ (fun j j0 j1 => ?_)
      unfold pf_cyo
      rw [show j - k = (j - (k + 1)) + 1 by omega, gm_bit_s w0 hb (by omega)]
    show p * (gm_prt p w r * _) + (12 - p) * (gm_prt p w r * _) = gm_prt p (2 * w + 0) (r + 1) * e (pf_tr K F S n (pf_cyo x (n - ((r + 1 : Nat) : Int)) (2 * w + 0)) (r + 1) s) + gm_prt p (2 * w + 1) (r + 1) * e (pf_tr K F S n (pf_cyo x (n - ((r + 1 : Nat) : Int)) (2 * w + 1)) (r + 1) s)
    rw [hb 0 (Or.inl rfl), hb 1 (Or.inr rfl), gm_prt_s w0 (Or.inl rfl), gm_prt_s w0 (Or.inr rfl), if_neg (by decide), if_pos rfl, Int.mul_assoc, Int.mul_assoc, show (x k + 0) % 10 = x k by omega, Int.add_comm]
theorem pf_VO_all {K F S n p : Int} {x e : Int → Int} (hn : 0 ≤ n) (hF : ∀ j : Int, 0 ≤ j → j < n → 0 ≤ x j ∧ x j ≤ 9) : pf_VO K F S n p x e n.toNat 0 = pf_sumf (fun w => gm_prt p w n.toNat * e (pf_rec K F S (gm_cy x w) n n.toNat)) (2 ^ n.toNat) := by
  rw [pf_VO_sum hF n.toNat 0 (by omega)]
  refine pf_sumf_congr _ (fun w w0 w1 => ?_)
  have e1 : pf_cyo x (n - ((n.toNat : Nat) : Int)) w = gm_cy x w := by
    funext j
    unfold pf_cyo gm_cy
    rw [show j - (n - ((n.toNat : Nat) : Int)) = j by omega]
  have e2 := pf_tr_rec (K := K) (F := F) (S := S) (n := n) (y := gm_cy x w) n.toNat 0 (by omega)
  rw [Nat.zero_add] at e2
  show gm_prt p w n.toNat * e (pf_tr K F S n (pf_cyo x (n - ((n.toNat : Nat) : Int)) w) n.toNat 0) = _
  rw [e1, ← e2]
  rfl
theorem gm_cy_congr {x y : Int → Int} {w n : Int} (h : ∀ j : Int, 0 ≤ j → j < n → x j = y j) : ∀ j : Int, 0 ≤ j → j < n → gm_cy x w j = gm_cy y w j := fun j h0 h1 => by
  unfold gm_cy
  rw [h j h0 h1]
theorem gm_mid_V {μ : gf_M} {i p : Int} {x : Int → Int} (hn : 0 ≤ μ 71 1) (hx : ∀ j : Int, 0 ≤ j → j < μ 71 1 → gm_x μ j = x j) (hF : ∀ j : Int, 0 ≤ j → j < μ 71 1 → 0 ≤ x j ∧ x j ≤ 9) : pf_VO (μ 71 (3 + i)) (μ 71 (10 + i)) (μ 71 (17 + i)) (μ 71 1) p x (fun s => pf_fin (μ 71 (3 + i)) s (μ 71 1)) (μ 71 1).toNat 0 = pf_sumf (gm_W μ i p 1) (2 ^ (μ 71 1).toNat) := by
  rw [pf_VO_all hn hF]
  refine pf_sumf_congr _ (fun w w0 w1 => ?_)
  unfold gm_W
  rw [if_pos (by decide)]
  show _ * pf_reck _ _ _ (gm_cy x w) (μ 71 1) = _ * pf_reck _ _ _ (gm_cy (gm_x μ) w) (μ 71 1)
  rw [pf_reck_congr (gm_cy_congr hx)]
theorem gm_odds_V {μ : gf_M} {i p : Int} {x : Int → Int} (hn : 0 ≤ μ 71 1) (hx : ∀ j : Int, 0 ≤ j → j < μ 71 1 → gm_x μ j = x j) (hF : ∀ j : Int, 0 ≤ j → j < μ 71 1 → 0 ≤ x j ∧ x j ≤ 9) : pf_VO (μ 71 (3 + i)) (μ 71 (10 + i)) (μ 71 (17 + i)) (μ 71 1) p x (pf_eC (μ 71 (3 + i)) (μ 71 1) (pf_reck (μ 71 (3 + i)) (μ 71 (10 + i)) (μ 71 (17 + i)) x (μ 71 1)) 1 0) (μ 71 1).toNat 0 - (12 - p) ^ (μ 71 1).toNat = pf_sumf (gm_W μ i p 0) (2 ^ (μ 71 1).toNat) := by
  rw [pf_VO_all hn hF]
  have hrx : pf_reck (μ 71 (3 + i)) (μ 71 (10 + i)) (μ 71 (17 + i)) x (μ 71 1) = gm_rk μ i (gm_x μ) (μ 71 1) := (pf_reck_congr hx).symm
  have hrw : ∀ w : Int, pf_fin (μ 71 (3 + i)) (pf_rec (μ 71 (3 + i)) (μ 71 (10 + i)) (μ 71 (17 + i)) (gm_cy x w) (μ 71 1) (μ 71 1).toNat) (μ 71 1) = gm_rk μ i (gm_cy (gm_x μ) w) (μ 71 1) := fun w => (pf_reck_congr (gm_cy_congr hx)).symm
  obtain ⟨m, hm⟩ : ∃ m : Nat, 2 ^ (μ 71 1).toNat = m + 1 := ⟨2 ^ (μ 71 1).toNat - 1, by have := Nat.pow_pos (n := (μ 71 1).toNat) (show 0 < 2 by decide); omega⟩
  rw [hm, pf_sumf_front, pf_sumf_front]
  have e0 : pf_eC (μ 71 (3 + i)) (μ 71 1) (pf_reck (μ 71 (3 + i)) (μ 71 (10 + i)) (μ 71 (17 + i)) x (μ 71 1)) 1 0 (pf_rec (μ 71 (3 + i)) (μ 71 (10 + i)) (μ 71 (17 + i)) (gm_cy x 0) (μ 71 1) (μ 71 1).toNat) = 1 := by
    unfold pf_eC
    rw [hrw, hrx, if_pos]
    refine pf_reck_congr (fun j h0 h1 => ?_)
    unfold gm_cy
    have := hF j h0 h1
    rw [gm_bit_e (Int.le_refl 0), Int.zero_ediv, hx j h0 h1]
    omega
  have e1 : gm_W μ i p 0 0 = 0 := by
    unfold gm_W
    rw [if_neg (by decide), if_neg (fun z => z.1 rfl)]
  have e2 : pf_sumf (fun j => gm_prt p (j + 1) (μ 71 1).toNat * pf_eC (μ 71 (3 + i)) (μ 71 1) (pf_reck (μ 71 (3 + i)) (μ 71 (10 + i)) (μ 71 (17 + i)) x (μ 71 1)) 1 0 (pf_rec (μ 71 (3 + i)) (μ 71 (10 + i)) (μ 71 (17 + i)) (gm_cy x (j + 1)) (μ 71 1) (μ 71 1).toNat)) m = pf_sumf (fun j => gm_W μ i p 0 (j + 1)) m := by
    refine pf_sumf_congr m (fun w w0 w1 => ?_)
    show gm_prt p (w + 1) _ * pf_eC _ _ _ 1 0 _ = gm_W μ i p 0 (w + 1)
    unfold pf_eC gm_W
    rw [if_neg (c := ((0 : Int) ≠ 0)) (by decide), hrw, hrx]
    by_cases h : gm_rk μ i (gm_cy (gm_x μ) (w + 1)) (μ 71 1) = gm_rk μ i (gm_x μ) (μ 71 1)
    · rw [if_pos h, if_pos ⟨by omega, h⟩, Int.mul_one]
    · rw [if_neg h, if_neg (fun z => h z.2), Int.mul_zero]
  rw [e0, e1, e2, gm_prt_0, Int.mul_one]
  omega
/-! the greatest part -/
theorem pf_maxp_le {some : Int} {v : Int → Int} (hv : ∀ k : Int, 0 ≤ v k ∧ v k ≤ 10) : ∀ m : Nat, ∀ c : Int, 0 ≤ c → pf_cnt (fun kd => pf_bit some kd && decide (v kd = c)) m ≤ pf_maxp some v m
  | 0, c, _ => Int.le_refl _
  | m + 1, c, hc => by
    have ih := pf_maxp_le (some := some) hv m c hc
    have hs : pf_cnt (fun kd => pf_bit some kd && decide (v kd = c)) (m + 1) = pf_cnt (fun kd => pf_bit some kd && decide (v kd = c)) m + (if (pf_bit some m && decide (v m = c)) = true then 1 else 0) := rfl
    unfold pf_maxp
    by_cases hb : pf_bit some m = true
    · rw [if_pos hb]
      unfold gf_max
      by_cases hvc : v m = c
      · rw [← hvc]
        split <;> omega
      · rw [hs, if_neg (by rw [Bool.and_eq_true]; exact fun z => hvc (of_decide_eq_true z.2))]
        split <;> omega
    · rw [if_neg hb, hs, if_neg (by rw [Bool.and_eq_true]; exact fun z => hb z.1)]
      omega
theorem pf_cnt_mono (p : Int → Bool) (m : Nat) : ∀ d : Nat, pf_cnt p m ≤ pf_cnt p (m + d)
  | 0 => Int.le_refl _
  | d + 1 => by
    have := pf_cnt_mono p m d
    show _ ≤ pf_cnt p (m + d) + (if p ((m + d : Nat) : Int) = true then 1 else 0)
    split <;> omega
theorem gm_mxc_ge {some : Int} {v : Int → Int} : ∀ (m : Nat) (c : Int), 0 ≤ c → c < m → pf_cnt (fun kd => pf_bit some kd && decide (v kd = c)) 6 ≤ gm_mxc some v m
  | 0, c, h0, h1 => by omega
  | m + 1, c, h0, h1 => by
    unfold gm_mxc gf_max
    by_cases hc : c = m
    · rw [hc]; split <;> omega
    · have := gm_mxc_ge (some := some) (v := v) m c h0 (by omega)
      split <;> omega
theorem gm_mxc_le {some B : Int} {v : Int → Int} : ∀ m : Nat, 0 ≤ B → (∀ c : Int, 0 ≤ c → c < m → pf_cnt (fun kd => pf_bit some kd && decide (v kd = c)) 6 ≤ B) → gm_mxc some v m ≤ B
  | 0, h, _ => h
  | m + 1, h, hc => by
    have h1 := gm_mxc_le (some := some) (v := v) m h (fun c a b => hc c a (by omega))
    have h2 := hc m (by omega) (by omega)
    unfold gm_mxc gf_max
    split <;> omega
theorem pf_maxp_up {some : Int} {v : Int → Int} (hv : ∀ k : Int, 0 ≤ v k ∧ v k ≤ 10) : ∀ m : Nat, m ≤ 6 → pf_maxp some v m ≤ gm_mxc some v 11
  | 0, _ => by
    have := (pf_cnt_R (fun kd => pf_bit some kd && decide (v kd = 0)) 6).1
    have h2 := gm_mxc_ge (some := some) (v := v) 11 0 (by omega) (by omega)
    show (0 : Int) ≤ _
    omega
  | m + 1, hm => by
    have ih := pf_maxp_up (some := some) hv m (by omega)
    have h1 := gm_mxc_ge (some := some) (v := v) 11 (v m) (hv m).1 (by have := (hv m).2; omega)
    have h2 := pf_cnt_mono (fun kd => pf_bit some kd && decide (v kd = v m)) (m + 1) (6 - (m + 1))
    rw [show m + 1 + (6 - (m + 1)) = 6 by omega] at h2
    unfold pf_maxp
    by_cases hb : pf_bit some m = true
    · rw [if_pos hb]
      unfold gf_max
      split <;> omega
    · rw [if_neg hb]
      exact ih
theorem pf_maxp_eq {some : Int} {v : Int → Int} (hv : ∀ k : Int, 0 ≤ v k ∧ v k ≤ 10) : pf_maxp some v 6 = gm_mxc some v 11 := by
  have h1 := pf_maxp_up (some := some) hv 6 (by omega)
  have h2 := gm_mxc_le (some := some) (v := v) (B := pf_maxp some v 6) 11 (pf_maxp_R some v 6).1 (fun c h0 _ => pf_maxp_le hv 6 c h0)
  omega
