/-! Outlook: tables over places and what a guard has so far -/
def pf_dp (st : Nat → Int → (Int → Int) → Int) (e : Int → Int) : Nat → Int → Int
  | 0, s => e s
  | r + 1, s => st r s (pf_dp st e r)
/-- the table's rows from place k on -/
def gf_tb (m : gf_M) (n : Int) (V : Nat → Int → Int) (k : Int) : Prop := ∀ j s : Int, k ≤ j → j ≤ n → 0 ≤ s → s ≤ 10 → m 60 (j * 11 + s) = V (n - j).toNat s
/-- the row of place k as far as s -/
def gf_tr (m : gf_M) (n : Int) (V : Nat → Int → Int) (k s : Int) : Prop := ∀ z : Int, 0 ≤ z → z < s → m 60 (k * 11 + z) = V (n - k).toNat z
theorem gf_tb_keep {m m' : gf_M} {n : Int} {V : Nat → Int → Int} {k s v : Int} (hs : 0 ≤ s ∧ s ≤ 10) (hm : m' = gf_up m 60 (k * 11 + s) v) (h : gf_tb m n V (k + 1)) (h2 : gf_tr m n V k s) (hv : v = V (n - k).toNat s) : gf_tb m' n V (k + 1) ∧ gf_tr m' n V k (s + 1) := by
  subst hm
  refine ⟨fun j z h0 h1 h3 h4 => by rw [gf_up_j (by omega)]; exact h j z h0 h1 h3 h4, fun z h0 h1 => ?_⟩
  by_cases e : z = s
  · rw [e, gf_up_s, hv]
  · rw [gf_up_j (by omega)]; exact h2 z h0 (by omega)
theorem gf_tb_row {m : gf_M} {n : Int} {V : Nat → Int → Int} {k : Int} (h : gf_tb m n V (k + 1)) (h2 : gf_tr m n V k 11) : gf_tb m n V k := by
  intro j s h0 h1 h3 h4
  by_cases e : j = k
  · rw [e]; exact h2 s h3 (by omega)
  · exact h j s (by omega) h1 h3 h4
/-- the least of the first values of g, 100 at most -/
def pf_minf (g : Int → Int) : Nat → Int
  | 0 => 100
  | f + 1 => gf_min (pf_minf g f) (g f)
theorem pf_minf_R {g : Int → Int} : ∀ n : Nat, (∀ f : Int, 0 ≤ f → f < n → 0 ≤ g f) → 0 ≤ pf_minf g n ∧ pf_minf g n ≤ 100
  | 0, _ => by simp [pf_minf]
  | n + 1, h => by
    have ih := pf_minf_R n (fun f h0 h1 => h f h0 (by omega))
    have := h n (by omega) (by omega)
    unfold pf_minf gf_min
    split <;> omega
theorem pf_minf_congr {g h : Int → Int} : ∀ n : Nat, (∀ f : Int, 0 ≤ f → f < n → g f = h f) → pf_minf g n = pf_minf h n
  | 0, _ => rfl
  | n + 1, e => by unfold pf_minf; rw [pf_minf_congr n (fun f h0 h1 => e f h0 (by omega)), e n (by omega) (by omega)]
/-- one step of the fewest others: K, F, S the guard, x the number's figures -/
def pf_oth (K F S n : Int) (x : Int → Int) (k s f : Int) (nx : Int → Int) : Int := (if f = x k then 0 else 1) + nx (pf_fol K F S s k f n)
def pf_stN (K F S n : Int) (x : Int → Int) (r : Nat) (s : Int) (nx : Int → Int) : Int := pf_minf (fun f => pf_oth K F S n x (n - 1 - r) s f nx) 10
def pf_eC (K n c a b : Int) (s : Int) : Int := if pf_fin K s n = c then a else b
def pf_VN (K F S n c : Int) (x : Int → Int) : Nat → Int → Int := pf_dp (pf_stN K F S n x) (pf_eC K n c 0 100)
theorem pf_VN_R (K F S n c : Int) (x : Int → Int) : ∀ (r : Nat) (s : Int), 0 ≤ s ∧ s ≤ 10 → 0 ≤ pf_VN K F S n c x r s ∧ pf_VN K F S n c x r s ≤ 100
  | 0, s, _ => by unfold pf_VN pf_dp pf_eC; split <;> omega
  | r + 1, s, _ => by
    show 0 ≤ pf_minf _ 10 ∧ pf_minf _ 10 ≤ 100
    refine pf_minf_R 10 (fun f h0 h1 => ?_)
    have := pf_VN_R K F S n c x r (pf_fol K F S s (n - 1 - r) f n) (pf_fol_R _ _ _ _ _ _ _)
    unfold pf_oth
    have h3 : 0 ≤ pf_dp (pf_stN K F S n x) (pf_eC K n c 0 100) r (pf_fol K F S s (n - 1 - r) f n) := this.1
    split <;> omega
/-- the first figure from a on at which p holds, b further on at most -/
def pf_pick (p : Int → Bool) : Nat → Int → Int
  | 0, a => a
  | b + 1, a => if p a = true then a else pf_pick p b (a + 1)
/-- the path that is found: what the guard has so far, and the number -/
def pf_run (K F S n : Int) (pk : Int → Int → Int) : Nat → Int × Int
  | 0 => (0, 0)
  | k + 1 => (pf_fol K F S (pf_run K F S n pk k).1 k (pk k (pf_run K F S n pk k).1) n, (pf_run K F S n pk k).2 * 10 + pk k (pf_run K F S n pk k).1)
theorem pf_run_R (K F S n : Int) (pk : Int → Int → Int) (k : Nat) : 0 ≤ (pf_run K F S n pk k).1 ∧ (pf_run K F S n pk k).1 ≤ 10 := by
  cases k with
  | zero => simp [pf_run]
  | succ k => exact pf_fol_R _ _ _ _ _ _ _
theorem pf_pick_R (p : Int → Bool) : ∀ (b : Nat) (a : Int), a ≤ pf_pick p b a ∧ pf_pick p b a ≤ a + b
  | 0, a => by simp [pf_pick]
  | b + 1, a => by
    have ih := pf_pick_R p b (a + 1)
    unfold pf_pick
    split <;> omega
theorem pf_run_B {K F S n : Int} {pk : Int → Int → Int} (h : ∀ k s : Int, 0 ≤ pk k s ∧ pk k s ≤ 9) : ∀ k : Nat, 0 ≤ (pf_run K F S n pk k).2 ∧ (pf_run K F S n pk k).2 < 10 ^ k
  | 0 => by simp [pf_run]
  | k + 1 => by
    have ih := pf_run_B (K := K) (F := F) (S := S) (n := n) h k
    have := h k (pf_run K F S n pk k).1
    show 0 ≤ (pf_run K F S n pk k).2 * 10 + _ ∧ (pf_run K F S n pk k).2 * 10 + _ < 10 ^ (k + 1)
    rw [Int.pow_succ]
    omega
theorem pf_10_8 {k : Nat} (h : k ≤ 8) : (10 : Int) ^ k ≤ 100000000 := by
  have : k = 0 ∨ k = 1 ∨ k = 2 ∨ k = 3 ∨ k = 4 ∨ k = 5 ∨ k = 6 ∨ k = 7 ∨ k = 8 := by omega
  rcases this with rfl | rfl | rfl | rfl | rfl | rfl | rfl | rfl | rfl <;> decide
theorem dd_Ou_valueOf_0 : decode cc_Ou_valueOf 0 = .ok (.iload_n 1, 1) := by decide +kernel
theorem dd_Ou_valueOf_1 : decode cc_Ou_valueOf 1 = .ok (.bipush 11, 2) := by decide +kernel
theorem dd_Ou_valueOf_3 : decode cc_Ou_valueOf 3 = .ok (.imul, 1) := by decide +kernel
theorem dd_Ou_valueOf_4 : decode cc_Ou_valueOf 4 = .ok (.iload_n 2, 1) := by decide +kernel
theorem dd_Ou_valueOf_5 : decode cc_Ou_valueOf 5 = .ok (.iadd, 1) := by decide +kernel
theorem dd_Ou_valueOf_6 : decode cc_Ou_valueOf 6 = .ok (.istore_n 3, 1) := by decide +kernel
theorem dd_Ou_valueOf_7 : decode cc_Ou_valueOf 7 = .ok (.iload_n 3, 1) := by decide +kernel
theorem dd_Ou_valueOf_8 : decode cc_Ou_valueOf 8 = .ok (.aload_n 0, 1) := by decide +kernel
theorem dd_Ou_valueOf_9 : decode cc_Ou_valueOf 9 = .ok (.getfield 11, 3) := by decide +kernel
theorem dd_Ou_valueOf_12 : decode cc_Ou_valueOf 12 = .ok (.arraylength, 1) := by decide +kernel
theorem dd_Ou_valueOf_13 : decode cc_Ou_valueOf 13 = .ok (.invokestatic 93, 3) := by decide +kernel
theorem dd_Ou_valueOf_16 : decode cc_Ou_valueOf 16 = .ok (.ifCond .eq 12, 3) := by decide +kernel
theorem dd_Ou_valueOf_19 : decode cc_Ou_valueOf 19 = .ok (.aload_n 0, 1) := by decide +kernel
theorem dd_Ou_valueOf_20 : decode cc_Ou_valueOf 20 = .ok (.getfield 11, 3) := by decide +kernel
theorem dd_Ou_valueOf_23 : decode cc_Ou_valueOf 23 = .ok (.iload_n 3, 1) := by decide +kernel
theorem dd_Ou_valueOf_24 : decode cc_Ou_valueOf 24 = .ok (.laload, 1) := by decide +kernel
theorem dd_Ou_valueOf_25 : decode cc_Ou_valueOf 25 = .ok (.goto 4, 3) := by decide +kernel
theorem dd_Ou_valueOf_28 : decode cc_Ou_valueOf 28 = .ok (.lconst 0, 1) := by decide +kernel
theorem dd_Ou_valueOf_29 : decode cc_Ou_valueOf 29 = .ok (.lreturn, 1) := by decide +kernel
set_option maxRecDepth 100000 in
set_option maxHeartbeats 4000000 in
theorem ct_Ou_valueOf (l : Launch) (E : gf_E) (k s : Int) (μ : gf_M) (hk : 0 ≤ k ∧ k ≤ 8) (hs : 0 ≤ s ∧ s ≤ 10) : gf_Ml l E yy_Ou_valueOf cc_Ou_valueOf 4 (gf_rm 1 21) 81 gf_ref μ [.ref (gf_ad E 59), .int (gf_i k), .int (gf_i s)] (fun r μ' => r = μ 60 (k * 11 + s) ∧ μ' = μ) := by
  refine gf_ml (by decide +kernel) (Nat.le_of_ble_eq_true rfl) (by decide) (fun X Q hlx C hQ => ?_)
  subst hlx
  replace C : gf_C X E cc_Ou_valueOf 4 "GuardFigures$Outlook" (gf_rm 1 21) := C
  show gf_G X E Q 4 gf_φ μ 0 [(0, .ref (gf_ad E 59)), (1, .int (gf_i k)), (2, .int (gf_i s))] []
  refine gf_iload_n C dd_Ou_valueOf_0 1 rfl ?_
  refine gf_bipush C dd_Ou_valueOf_1 (by decide +kernel) ?_
  refine gf_imul C dd_Ou_valueOf_3 ?_
  refine gf_iload_n C dd_Ou_valueOf_4 2 rfl ?_
  refine gf_iadd C dd_Ou_valueOf_5 ?_
  refine gf_nm (fun x6 hx6 => ?_)
  refine gf_istore_n (lv' := [(3, .int (gf_i x6)), (0, .ref (gf_ad E 59)), (1, .int (gf_i k)), (2, .int (gf_i s))]) C dd_Ou_valueOf_6 (by decide) rfl ?_
  refine gf_iload_n C dd_Ou_valueOf_7 0 rfl ?_
  refine gf_aload_n C dd_Ou_valueOf_8 1 rfl ?_
  refine gf_getA (r := 60) C gf_cl1 fl_Ou_11 dd_Ou_valueOf_9 rfl (show gf_is 81 59 0 1 2 by decide) (by decide) (by decide) ?_
  refine gf_alen 2 C dd_Ou_valueOf_12 (show gf_is 81 60 2 1 99 by decide) (by decide) ?_
  refine gf_callNi (st := []) (As := [.int (gf_i x6), .int (gf_i 99)]) C im_Fi_isWithin C.2.2.2.2.2.2.1.2.2.2.2.2.2.2.2.2.2.1 (ct_Fi_isWithin (gf_xl X) E x6 99 μ (by omega) (by omega)) rfl ⟨rfl, rfl, rfl, rfl⟩ (Nat.le_of_ble_eq_true rfl) rfl dd_Ou_valueOf_13 (fun r13 m13 hR13 hp13 => ?_)
  have hr13 := hp13.1
  refine gf_pm hp13.2 ?_
  refine gf_if_eq 28 C dd_Ou_valueOf_16 (by decide) (by omega) (fun h16 => ?_) (fun h16 => ?_)
  · skip
    refine gf_lconst 0 C dd_Ou_valueOf_28 (by decide +kernel) ?_
    refine gf_lret C hQ dd_Ou_valueOf_29 (by omega) ?_
    first | (exact ⟨by rw [hx6], rfl⟩) | (have := hr13.1 (by omega); omega)
  · skip
    refine gf_aload_n C dd_Ou_valueOf_19 1 rfl ?_
    refine gf_getA (r := 60) C gf_cl1 fl_Ou_11 dd_Ou_valueOf_20 rfl (show gf_is 81 59 0 1 2 by decide) (by decide) (by decide) ?_
    refine gf_iload_n C dd_Ou_valueOf_23 0 rfl ?_
    refine gf_lald C dd_Ou_valueOf_24 (show gf_is 81 60 2 1 99 by decide) (by omega) (fun hv24 => ?_)
    refine gf_goto 29 C dd_Ou_valueOf_25 (by decide) ?_
    refine gf_lret C hQ dd_Ou_valueOf_29 (by omega) ?_
    first | (exact ⟨by rw [hx6], rfl⟩) | (have := hr13.1 (by omega); omega)

theorem dd_Ou_keepValue_0 : decode cc_Ou_keepValue 0 = .ok (.iload_n 1, 1) := by decide +kernel
theorem dd_Ou_keepValue_1 : decode cc_Ou_keepValue 1 = .ok (.bipush 11, 2) := by decide +kernel
theorem dd_Ou_keepValue_3 : decode cc_Ou_keepValue 3 = .ok (.imul, 1) := by decide +kernel
theorem dd_Ou_keepValue_4 : decode cc_Ou_keepValue 4 = .ok (.iload_n 2, 1) := by decide +kernel
theorem dd_Ou_keepValue_5 : decode cc_Ou_keepValue 5 = .ok (.iadd, 1) := by decide +kernel
theorem dd_Ou_keepValue_6 : decode cc_Ou_keepValue 6 = .ok (.istore 5, 2) := by decide +kernel
theorem dd_Ou_keepValue_8 : decode cc_Ou_keepValue 8 = .ok (.iload 5, 2) := by decide +kernel
theorem dd_Ou_keepValue_10 : decode cc_Ou_keepValue 10 = .ok (.aload_n 0, 1) := by decide +kernel
theorem dd_Ou_keepValue_11 : decode cc_Ou_keepValue 11 = .ok (.getfield 11, 3) := by decide +kernel
theorem dd_Ou_keepValue_14 : decode cc_Ou_keepValue 14 = .ok (.arraylength, 1) := by decide +kernel
theorem dd_Ou_keepValue_15 : decode cc_Ou_keepValue 15 = .ok (.invokestatic 93, 3) := by decide +kernel
theorem dd_Ou_keepValue_18 : decode cc_Ou_keepValue 18 = .ok (.ifCond .eq 11, 3) := by decide +kernel
theorem dd_Ou_keepValue_21 : decode cc_Ou_keepValue 21 = .ok (.aload_n 0, 1) := by decide +kernel
theorem dd_Ou_keepValue_22 : decode cc_Ou_keepValue 22 = .ok (.getfield 11, 3) := by decide +kernel
theorem dd_Ou_keepValue_25 : decode cc_Ou_keepValue 25 = .ok (.iload 5, 2) := by decide +kernel
theorem dd_Ou_keepValue_27 : decode cc_Ou_keepValue 27 = .ok (.lload_n 3, 1) := by decide +kernel
theorem dd_Ou_keepValue_28 : decode cc_Ou_keepValue 28 = .ok (.lastore, 1) := by decide +kernel
theorem dd_Ou_keepValue_29 : decode cc_Ou_keepValue 29 = .ok (.return_, 1) := by decide +kernel
set_option maxRecDepth 100000 in
set_option maxHeartbeats 4000000 in
theorem ct_Ou_keepValue (l : Launch) (E : gf_E) (k s v : Int) (μ : gf_M) (hk : 0 ≤ k ∧ k ≤ 8) (hs : 0 ≤ s ∧ s ≤ 10) (hv : gf_RL v) : gf_Mv l E yy_Ou_keepValue cc_Ou_keepValue 6 (gf_rm 1 21) 81 gf_ref 0 0 81 gf_ref μ [.ref (gf_ad E 59), .int (gf_i k), .int (gf_i s), .long (gf_l v)] (fun μ' => μ' = gf_up μ 60 (k * 11 + s) v) := by
  refine gf_mv (by decide +kernel) (Nat.le_of_ble_eq_true rfl) (by decide) (fun X Q hlx C hname hQ => ?_)
  subst hlx
  replace C : gf_C X E cc_Ou_keepValue 6 "GuardFigures$Outlook" (gf_rm 1 21) := C
  show gf_G X E Q 6 gf_φ μ 0 [(0, .ref (gf_ad E 59)), (1, .int (gf_i k)), (2, .int (gf_i s)), (3, .long (gf_l v))] []
  refine gf_iload_n C dd_Ou_keepValue_0 1 rfl ?_
  refine gf_bipush C dd_Ou_keepValue_1 (by decide +kernel) ?_
  refine gf_imul C dd_Ou_keepValue_3 ?_
  refine gf_iload_n C dd_Ou_keepValue_4 2 rfl ?_
  refine gf_iadd C dd_Ou_keepValue_5 ?_
  refine gf_nm (fun x6 hx6 => ?_)
  refine gf_istore (lv' := [(5, .int (gf_i x6)), (0, .ref (gf_ad E 59)), (1, .int (gf_i k)), (2, .int (gf_i s)), (3, .long (gf_l v))]) C dd_Ou_keepValue_6 (by decide) rfl ?_
  refine gf_iload C dd_Ou_keepValue_8 0 rfl ?_
  refine gf_aload_n C dd_Ou_keepValue_10 1 rfl ?_
  refine gf_getA (r := 60) C gf_cl1 fl_Ou_11 dd_Ou_keepValue_11 rfl (show gf_is 81 59 0 1 2 by decide) (by decide) (by decide) ?_
  refine gf_alen 2 C dd_Ou_keepValue_14 (show gf_is 81 60 2 1 99 by decide) (by decide) ?_
  refine gf_callNi (st := []) (As := [.int (gf_i x6), .int (gf_i 99)]) C im_Fi_isWithin C.2.2.2.2.2.2.1.2.2.2.2.2.2.2.2.2.2.1 (ct_Fi_isWithin (gf_xl X) E x6 99 μ (by omega) (by omega)) rfl ⟨rfl, rfl, rfl, rfl⟩ (Nat.le_of_ble_eq_true rfl) rfl dd_Ou_keepValue_15 (fun r15 m15 hR15 hp15 => ?_)
  have hr15 := hp15.1
  refine gf_pm hp15.2 ?_
  refine gf_if_eq 29 C dd_Ou_keepValue_18 (by decide) (by omega) (fun h18 => ?_) (fun h18 => ?_)
  · skip
    refine gf_vret C hQ dd_Ou_keepValue_29 ?_
    first | (rw [hm28, hx6]; done) | (have := hr15.1 (by omega); omega)
  · skip
    refine gf_aload_n C dd_Ou_keepValue_21 1 rfl ?_
    refine gf_getA (r := 60) C gf_cl1 fl_Ou_11 dd_Ou_keepValue_22 rfl (show gf_is 81 59 0 1 2 by decide) (by decide) (by decide) ?_
    refine gf_iload C dd_Ou_keepValue_25 0 rfl ?_
    refine gf_lload_n C dd_Ou_keepValue_27 4 rfl ?_
    refine gf_last rfl C dd_Ou_keepValue_28 (show gf_is 81 60 2 1 99 by decide) (by omega) (by omega) ?_
    refine gf_nmM (fun m28 hm28 => ?_)
    refine gf_vret C hQ dd_Ou_keepValue_29 ?_
    first | (rw [hm28, hx6]; done) | (have := hr15.1 (by omega); omega)

theorem dd_Ou_endWithCheck_0 : decode cc_Ou_endWithCheck 0 = .ok (.iconst 0, 1) := by decide +kernel
theorem dd_Ou_endWithCheck_1 : decode cc_Ou_endWithCheck 1 = .ok (.istore 6, 2) := by decide +kernel
theorem dd_Ou_endWithCheck_3 : decode cc_Ou_endWithCheck 3 = .ok (.iload 6, 2) := by decide +kernel
theorem dd_Ou_endWithCheck_5 : decode cc_Ou_endWithCheck 5 = .ok (.bipush 11, 2) := by decide +kernel
theorem dd_Ou_endWithCheck_7 : decode cc_Ou_endWithCheck 7 = .ok (.if_icmp .ge 36, 3) := by decide +kernel
theorem dd_Ou_endWithCheck_10 : decode cc_Ou_endWithCheck 10 = .ok (.aload_n 0, 1) := by decide +kernel
theorem dd_Ou_endWithCheck_11 : decode cc_Ou_endWithCheck 11 = .ok (.iload_n 2, 1) := by decide +kernel
theorem dd_Ou_endWithCheck_12 : decode cc_Ou_endWithCheck 12 = .ok (.iload 6, 2) := by decide +kernel
theorem dd_Ou_endWithCheck_14 : decode cc_Ou_endWithCheck 14 = .ok (.aload_n 1, 1) := by decide +kernel
theorem dd_Ou_endWithCheck_15 : decode cc_Ou_endWithCheck 15 = .ok (.iload 6, 2) := by decide +kernel
theorem dd_Ou_endWithCheck_17 : decode cc_Ou_endWithCheck 17 = .ok (.iload_n 2, 1) := by decide +kernel
theorem dd_Ou_endWithCheck_18 : decode cc_Ou_endWithCheck 18 = .ok (.invokevirtual 90, 3) := by decide +kernel
theorem dd_Ou_endWithCheck_21 : decode cc_Ou_endWithCheck 21 = .ok (.iload_n 3, 1) := by decide +kernel
theorem dd_Ou_endWithCheck_22 : decode cc_Ou_endWithCheck 22 = .ok (.if_icmp .ne 9, 3) := by decide +kernel
theorem dd_Ou_endWithCheck_25 : decode cc_Ou_endWithCheck 25 = .ok (.iload 4, 2) := by decide +kernel
theorem dd_Ou_endWithCheck_27 : decode cc_Ou_endWithCheck 27 = .ok (.i2l, 1) := by decide +kernel
theorem dd_Ou_endWithCheck_28 : decode cc_Ou_endWithCheck 28 = .ok (.goto 6, 3) := by decide +kernel
theorem dd_Ou_endWithCheck_31 : decode cc_Ou_endWithCheck 31 = .ok (.iload 5, 2) := by decide +kernel
theorem dd_Ou_endWithCheck_33 : decode cc_Ou_endWithCheck 33 = .ok (.i2l, 1) := by decide +kernel
theorem dd_Ou_endWithCheck_34 : decode cc_Ou_endWithCheck 34 = .ok (.invokevirtual 37, 3) := by decide +kernel
theorem dd_Ou_endWithCheck_37 : decode cc_Ou_endWithCheck 37 = .ok (.iinc 6 1, 3) := by decide +kernel
theorem dd_Ou_endWithCheck_40 : decode cc_Ou_endWithCheck 40 = .ok (.goto (-37), 3) := by decide +kernel
theorem dd_Ou_endWithCheck_43 : decode cc_Ou_endWithCheck 43 = .ok (.return_, 1) := by decide +kernel
set_option maxRecDepth 100000 in
set_option maxHeartbeats 4000000 in
theorem ct_Ou_endWithCheck (l : Launch) (E : gf_E) (g : Int) (μ : gf_M) (hg : gf_oGd g) (hg58 : g ≤ 58) (hG : gf_okG μ g) (n c a b : Int) (hn : 0 ≤ n ∧ n ≤ 8) (hc : gf_R c) (ha : gf_R a) (hb : gf_R b) : gf_Mv l E yy_Ou_endWithCheck cc_Ou_endWithCheck 7 (gf_rm 2 46) 81 gf_ref 0 0 81 gf_ref μ [.ref (gf_ad E 59), .ref (gf_ad E g), .int (gf_i n), .int (gf_i c), .int (gf_i a), .int (gf_i b)] (fun μ' => (∀ s : Int, 0 ≤ s → s ≤ 10 → μ' 60 (n * 11 + s) = pf_eC (μ g 0) n c a b s) ∧ ∀ x y : Int, x ≠ 60 → μ' x y = μ x y) := by
  refine gf_mv (by decide +kernel) (Nat.le_of_ble_eq_true rfl) (by decide) (fun X Q hlx C hname hQ => ?_)
  subst hlx
  replace C : gf_C X E cc_Ou_endWithCheck 7 "GuardFigures$Outlook" (gf_rm 2 46) := C
  show gf_G X E Q 7 gf_φ μ 0 [(0, .ref (gf_ad E 59)), (1, .ref (gf_ad E g)), (2, .int (gf_i n)), (3, .int (gf_i c)), (4, .int (gf_i a)), (5, .int (gf_i b))] []
  refine gf_iconst C dd_Ou_endWithCheck_0 ?_
  refine gf_istore (lv' := [(6, .int (gf_i 0)), (0, .ref (gf_ad E 59)), (1, .ref (gf_ad E g)), (2, .int (gf_i n)), (3, .int (gf_i c)), (4, .int (gf_i a)), (5, .int (gf_i b))]) C dd_Ou_endWithCheck_1 (by decide) rfl ?_
  have L3_1 : ∀ (N : Nat) (s : Int) (m : gf_M) , (0 ≤ s ∧ s ≤ 11 ∧ (∀ z : Int, 0 ≤ z → z < s → m 60 (n * 11 + z) = pf_eC (μ g 0) n c a b z) ∧ ∀ x y : Int, x ≠ 60 → m x y = μ x y) → (11 - s).toNat < N → gf_G X E Q 7 gf_φ m 3 [(6, .int (gf_i s)), (0, .ref (gf_ad E 59)), (1, .ref (gf_ad E g)), (2, .int (gf_i n)), (3, .int (gf_i c)), (4, .int (gf_i a)), (5, .int (gf_i b))] [] := by
    intro N
    induction N with
    | zero => intro s m hinv hN; exact absurd hN (Nat.not_lt_zero _)
    | succ N ih3_1 =>
      intro s m hinv hN
      have hinv0 := hinv
      obtain ⟨hs0, hs1, hs2, hs3⟩ := hinv
      have hG2 : gf_okG m g := by unfold gf_okG; rw [hs3 g 0 (by omega), hs3 g 1 (by omega), hs3 g 2 (by omega)]; exact hG
      refine gf_iload C dd_Ou_endWithCheck_3 0 rfl ?_
      refine gf_bipush C dd_Ou_endWithCheck_5 (by decide +kernel) ?_
      refine gf_icmp_ge 43 C dd_Ou_endWithCheck_7 (by decide) (by omega) (by omega) (fun h7 => ?_) (fun h7 => ?_)
      · skip
        refine gf_vret C hQ dd_Ou_endWithCheck_43 ?_
        exact ⟨fun s' h0 h1 => hs2 s' h0 (by omega), hs3⟩
      · skip
        refine gf_aload_n C dd_Ou_endWithCheck_10 1 rfl ?_
        refine gf_iload_n C dd_Ou_endWithCheck_11 3 rfl ?_
        refine gf_iload C dd_Ou_endWithCheck_12 0 rfl ?_
        refine gf_aload_n C dd_Ou_endWithCheck_14 2 rfl ?_
        refine gf_iload C dd_Ou_endWithCheck_15 0 rfl ?_
        refine gf_iload_n C dd_Ou_endWithCheck_17 3 rfl ?_
        refine gf_callVi (st := [.int (gf_i s), .int (gf_i n), .ref (gf_ad E 59)]) (As := [.int (gf_i s), .int (gf_i n)]) C wk_Ou_90 gf_cl0 hg (ct_Gd_finish (gf_xl X) E g s n m hg (hG2) (by omega) (by omega)) rfl ⟨rfl, rfl, rfl, rfl⟩ (Nat.le_of_ble_eq_true rfl) rfl dd_Ou_endWithCheck_18 (fun r18 m18 hR18 hp18 => ?_)
        have hr18 := hp18.1
        refine gf_pm hp18.2 ?_
        refine gf_iload_n C dd_Ou_endWithCheck_21 4 rfl ?_
        refine gf_icmp_ne 31 C dd_Ou_endWithCheck_22 (by decide) (by omega) (by omega) (fun h22 => ?_) (fun h22 => ?_)
        · skip
          refine gf_iload C dd_Ou_endWithCheck_31 6 rfl ?_
          refine gf_gi2l C dd_Ou_endWithCheck_33 (by omega) ?_
          refine gf_callVv (st := []) (As := [.int (gf_i n), .int (gf_i s), .long (gf_l b)]) C wk_Ou_37 gf_cl1 (show gf_is 81 59 0 1 2 by decide) (ct_Ou_keepValue (gf_xl X) E n s b m (by omega) (by omega) (by omega)) rfl ⟨rfl, rfl, rfl, rfl⟩ (Nat.le_of_ble_eq_true rfl) rfl dd_Ou_endWithCheck_34 (fun m34 hp34 => ?_)
          obtain ⟨x37, hx37⟩ : ∃ y : Int, y = s + 1 := ⟨_, rfl⟩
          refine gf_iinc (q := 0) (v := x37) (lv' := [(6, .int (gf_i x37)), (0, .ref (gf_ad E 59)), (1, .ref (gf_ad E g)), (2, .int (gf_i n)), (3, .int (gf_i c)), (4, .int (gf_i a)), (5, .int (gf_i b))]) C dd_Ou_endWithCheck_37 rfl hx37 (by decide) rfl ?_
          refine gf_goto 3 C dd_Ou_endWithCheck_40 (by decide) ?_
          refine gf_lsub [0, 1, 2, 3, 4, 5, 6] rfl ?_
          exact ih3_1 x37 m34 (by
                  refine ⟨by omega, by omega, fun z h0 h1 => ?_, fun x y h => by rw [hp34, gf_up_k h]; exact hs3 x y h⟩
                  have hf := hr18.1
                  rw [hs3 g 0 (by omega)] at hf
                  rw [hp34]
                  by_cases e : z = s
                  · subst e
                    rw [gf_up_s]
                    unfold pf_eC
                    first
                    | (rw [if_pos (by omega)]; done)
                    | (rw [if_neg (by omega)]; done)
                  · rw [gf_up_j (by omega)]; exact hs2 z h0 (by omega)) (by omega)
        · skip
          refine gf_iload C dd_Ou_endWithCheck_25 5 rfl ?_
          refine gf_gi2l C dd_Ou_endWithCheck_27 (by omega) ?_
          refine gf_goto 34 C dd_Ou_endWithCheck_28 (by decide) ?_
          refine gf_callVv (st := []) (As := [.int (gf_i n), .int (gf_i s), .long (gf_l a)]) C wk_Ou_37 gf_cl1 (show gf_is 81 59 0 1 2 by decide) (ct_Ou_keepValue (gf_xl X) E n s a m (by omega) (by omega) (by omega)) rfl ⟨rfl, rfl, rfl, rfl⟩ (Nat.le_of_ble_eq_true rfl) rfl dd_Ou_endWithCheck_34 (fun m34 hp34 => ?_)
          obtain ⟨x37, hx37⟩ : ∃ y : Int, y = s + 1 := ⟨_, rfl⟩
          refine gf_iinc (q := 0) (v := x37) (lv' := [(6, .int (gf_i x37)), (0, .ref (gf_ad E 59)), (1, .ref (gf_ad E g)), (2, .int (gf_i n)), (3, .int (gf_i c)), (4, .int (gf_i a)), (5, .int (gf_i b))]) C dd_Ou_endWithCheck_37 rfl hx37 (by decide) rfl ?_
          refine gf_goto 3 C dd_Ou_endWithCheck_40 (by decide) ?_
          refine gf_lsub [0, 1, 2, 3, 4, 5, 6] rfl ?_
          exact ih3_1 x37 m34 (by
                  refine ⟨by omega, by omega, fun z h0 h1 => ?_, fun x y h => by rw [hp34, gf_up_k h]; exact hs3 x y h⟩
                  have hf := hr18.1
                  rw [hs3 g 0 (by omega)] at hf
                  rw [hp34]
                  by_cases e : z = s
                  · subst e
                    rw [gf_up_s]
                    unfold pf_eC
                    first
                    | (rw [if_pos (by omega)]; done)
                    | (rw [if_neg (by omega)]; done)
                  · rw [gf_up_j (by omega)]; exact hs2 z h0 (by omega)) (by omega)
  refine gf_lsub [0, 1, 2, 3, 4, 5, 6] rfl ?_
  exact L3_1 _ 0 μ (⟨by omega, by omega, fun z h0 h1 => by omega, fun x y _ => rfl⟩) (Nat.lt_succ_self _)

theorem dd_Ou_endWithReckoned_0 : decode cc_Ou_endWithReckoned 0 = .ok (.iconst 0, 1) := by decide +kernel
theorem dd_Ou_endWithReckoned_1 : decode cc_Ou_endWithReckoned 1 = .ok (.istore_n 3, 1) := by decide +kernel
theorem dd_Ou_endWithReckoned_2 : decode cc_Ou_endWithReckoned 2 = .ok (.iload_n 3, 1) := by decide +kernel
theorem dd_Ou_endWithReckoned_3 : decode cc_Ou_endWithReckoned 3 = .ok (.bipush 11, 2) := by decide +kernel
theorem dd_Ou_endWithReckoned_5 : decode cc_Ou_endWithReckoned 5 = .ok (.if_icmp .ge 22, 3) := by decide +kernel
theorem dd_Ou_endWithReckoned_8 : decode cc_Ou_endWithReckoned 8 = .ok (.aload_n 0, 1) := by decide +kernel
theorem dd_Ou_endWithReckoned_9 : decode cc_Ou_endWithReckoned 9 = .ok (.iload_n 2, 1) := by decide +kernel
theorem dd_Ou_endWithReckoned_10 : decode cc_Ou_endWithReckoned 10 = .ok (.iload_n 3, 1) := by decide +kernel
theorem dd_Ou_endWithReckoned_11 : decode cc_Ou_endWithReckoned 11 = .ok (.aload_n 1, 1) := by decide +kernel
theorem dd_Ou_endWithReckoned_12 : decode cc_Ou_endWithReckoned 12 = .ok (.iload_n 3, 1) := by decide +kernel
theorem dd_Ou_endWithReckoned_13 : decode cc_Ou_endWithReckoned 13 = .ok (.iload_n 2, 1) := by decide +kernel
theorem dd_Ou_endWithReckoned_14 : decode cc_Ou_endWithReckoned 14 = .ok (.invokevirtual 90, 3) := by decide +kernel
theorem dd_Ou_endWithReckoned_17 : decode cc_Ou_endWithReckoned 17 = .ok (.i2l, 1) := by decide +kernel
theorem dd_Ou_endWithReckoned_18 : decode cc_Ou_endWithReckoned 18 = .ok (.invokevirtual 37, 3) := by decide +kernel
theorem dd_Ou_endWithReckoned_21 : decode cc_Ou_endWithReckoned 21 = .ok (.iinc 3 1, 3) := by decide +kernel
theorem dd_Ou_endWithReckoned_24 : decode cc_Ou_endWithReckoned 24 = .ok (.goto (-22), 3) := by decide +kernel
theorem dd_Ou_endWithReckoned_27 : decode cc_Ou_endWithReckoned 27 = .ok (.return_, 1) := by decide +kernel
set_option maxRecDepth 100000 in
set_option maxHeartbeats 4000000 in
theorem ct_Ou_endWithReckoned (l : Launch) (E : gf_E) (g : Int) (μ : gf_M) (hg : gf_oGd g) (hg58 : g ≤ 58) (hG : gf_okG μ g) (n : Int) (hn : 0 ≤ n ∧ n ≤ 8) : gf_Mv l E yy_Ou_endWithReckoned cc_Ou_endWithReckoned 4 (gf_rm 2 46) 81 gf_ref 0 0 81 gf_ref μ [.ref (gf_ad E 59), .ref (gf_ad E g), .int (gf_i n)] (fun μ' => (∀ s : Int, 0 ≤ s → s ≤ 10 → μ' 60 (n * 11 + s) = pf_fin (μ g 0) s n) ∧ ∀ x y : Int, x ≠ 60 → μ' x y = μ x y) := by
  refine gf_mv (by decide +kernel) (Nat.le_of_ble_eq_true rfl) (by decide) (fun X Q hlx C hname hQ => ?_)
  subst hlx
  replace C : gf_C X E cc_Ou_endWithReckoned 4 "GuardFigures$Outlook" (gf_rm 2 46) := C
  show gf_G X E Q 4 gf_φ μ 0 [(0, .ref (gf_ad E 59)), (1, .ref (gf_ad E g)), (2, .int (gf_i n))] []
  refine gf_iconst C dd_Ou_endWithReckoned_0 ?_
  refine gf_istore_n (lv' := [(3, .int (gf_i 0)), (0, .ref (gf_ad E 59)), (1, .ref (gf_ad E g)), (2, .int (gf_i n))]) C dd_Ou_endWithReckoned_1 (by decide) rfl ?_
  have L2_1 : ∀ (N : Nat) (s : Int) (m : gf_M) , (0 ≤ s ∧ s ≤ 11 ∧ (∀ z : Int, 0 ≤ z → z < s → m 60 (n * 11 + z) = pf_fin (μ g 0) z n) ∧ ∀ x y : Int, x ≠ 60 → m x y = μ x y) → (11 - s).toNat < N → gf_G X E Q 4 gf_φ m 2 [(3, .int (gf_i s)), (0, .ref (gf_ad E 59)), (1, .ref (gf_ad E g)), (2, .int (gf_i n))] [] := by
    intro N
    induction N with
    | zero => intro s m hinv hN; exact absurd hN (Nat.not_lt_zero _)
    | succ N ih2_1 =>
      intro s m hinv hN
      have hinv0 := hinv
      obtain ⟨hs0, hs1, hs2, hs3⟩ := hinv
      have hG2 : gf_okG m g := by unfold gf_okG; rw [hs3 g 0 (by omega), hs3 g 1 (by omega), hs3 g 2 (by omega)]; exact hG
      refine gf_iload_n C dd_Ou_endWithReckoned_2 0 rfl ?_
      refine gf_bipush C dd_Ou_endWithReckoned_3 (by decide +kernel) ?_
      refine gf_icmp_ge 27 C dd_Ou_endWithReckoned_5 (by decide) (by omega) (by omega) (fun h5 => ?_) (fun h5 => ?_)
      · skip
        refine gf_vret C hQ dd_Ou_endWithReckoned_27 ?_
        exact ⟨fun s' h0 h1 => hs2 s' h0 (by omega), hs3⟩
      · skip
        refine gf_aload_n C dd_Ou_endWithReckoned_8 1 rfl ?_
        refine gf_iload_n C dd_Ou_endWithReckoned_9 3 rfl ?_
        refine gf_iload_n C dd_Ou_endWithReckoned_10 0 rfl ?_
        refine gf_aload_n C dd_Ou_endWithReckoned_11 2 rfl ?_
        refine gf_iload_n C dd_Ou_endWithReckoned_12 0 rfl ?_
        refine gf_iload_n C dd_Ou_endWithReckoned_13 3 rfl ?_
        refine gf_callVi (st := [.int (gf_i s), .int (gf_i n), .ref (gf_ad E 59)]) (As := [.int (gf_i s), .int (gf_i n)]) C wk_Ou_90 gf_cl0 hg (ct_Gd_finish (gf_xl X) E g s n m hg (hG2) (by omega) (by omega)) rfl ⟨rfl, rfl, rfl, rfl⟩ (Nat.le_of_ble_eq_true rfl) rfl dd_Ou_endWithReckoned_14 (fun r14 m14 hR14 hp14 => ?_)
        have hr14 := hp14.1
        refine gf_pm hp14.2 ?_
        refine gf_gi2l C dd_Ou_endWithReckoned_17 (by omega) ?_
        refine gf_callVv (st := []) (As := [.int (gf_i n), .int (gf_i s), .long (gf_l r14)]) C wk_Ou_37 gf_cl1 (show gf_is 81 59 0 1 2 by decide) (ct_Ou_keepValue (gf_xl X) E n s r14 m (by omega) (by omega) (by omega)) rfl ⟨rfl, rfl, rfl, rfl⟩ (Nat.le_of_ble_eq_true rfl) rfl dd_Ou_endWithReckoned_18 (fun m18 hp18 => ?_)
        obtain ⟨x21, hx21⟩ : ∃ y : Int, y = s + 1 := ⟨_, rfl⟩
        refine gf_iinc (q := 0) (v := x21) (lv' := [(3, .int (gf_i x21)), (0, .ref (gf_ad E 59)), (1, .ref (gf_ad E g)), (2, .int (gf_i n))]) C dd_Ou_endWithReckoned_21 rfl hx21 (by decide) rfl ?_
        refine gf_goto 2 C dd_Ou_endWithReckoned_24 (by decide) ?_
        refine gf_lsub [0, 1, 2, 3] rfl ?_
        exact ih2_1 x21 m18 (by
                refine ⟨by omega, by omega, fun z h0 h1 => ?_, fun x y h => by rw [hp18, gf_up_k h]; exact hs3 x y h⟩
                have hf := hr14.1
                rw [hs3 g 0 (by omega)] at hf
                rw [hp18]
                by_cases e : z = s
                · subst e
                  rw [gf_up_s, hf]
                · rw [gf_up_j (by omega)]; exact hs2 z h0 (by omega)) (by omega)
  refine gf_lsub [0, 1, 2, 3] rfl ?_
  exact L2_1 _ 0 μ (⟨by omega, by omega, fun z h0 h1 => by omega, fun x y _ => rfl⟩) (Nat.lt_succ_self _)

theorem dd_Ou_othersWith_0 : decode cc_Ou_othersWith 0 = .ok (.iload 5, 2) := by decide +kernel
theorem dd_Ou_othersWith_2 : decode cc_Ou_othersWith 2 = .ok (.aload_n 2, 1) := by decide +kernel
theorem dd_Ou_othersWith_3 : decode cc_Ou_othersWith 3 = .ok (.getfield 54, 3) := by decide +kernel
theorem dd_Ou_othersWith_6 : decode cc_Ou_othersWith 6 = .ok (.iload_n 3, 1) := by decide +kernel
theorem dd_Ou_othersWith_7 : decode cc_Ou_othersWith 7 = .ok (.iaload, 1) := by decide +kernel
theorem dd_Ou_othersWith_8 : decode cc_Ou_othersWith 8 = .ok (.if_icmp .ne 7, 3) := by decide +kernel
theorem dd_Ou_othersWith_11 : decode cc_Ou_othersWith 11 = .ok (.iconst 0, 1) := by decide +kernel
theorem dd_Ou_othersWith_12 : decode cc_Ou_othersWith 12 = .ok (.goto 4, 3) := by decide +kernel
theorem dd_Ou_othersWith_15 : decode cc_Ou_othersWith 15 = .ok (.iconst 1, 1) := by decide +kernel
theorem dd_Ou_othersWith_16 : decode cc_Ou_othersWith 16 = .ok (.istore 6, 2) := by decide +kernel
theorem dd_Ou_othersWith_18 : decode cc_Ou_othersWith 18 = .ok (.iload 6, 2) := by decide +kernel
theorem dd_Ou_othersWith_20 : decode cc_Ou_othersWith 20 = .ok (.i2l, 1) := by decide +kernel
theorem dd_Ou_othersWith_21 : decode cc_Ou_othersWith 21 = .ok (.aload_n 0, 1) := by decide +kernel
theorem dd_Ou_othersWith_22 : decode cc_Ou_othersWith 22 = .ok (.iload_n 3, 1) := by decide +kernel
theorem dd_Ou_othersWith_23 : decode cc_Ou_othersWith 23 = .ok (.iconst 1, 1) := by decide +kernel
theorem dd_Ou_othersWith_24 : decode cc_Ou_othersWith 24 = .ok (.iadd, 1) := by decide +kernel
theorem dd_Ou_othersWith_25 : decode cc_Ou_othersWith 25 = .ok (.aload_n 1, 1) := by decide +kernel
theorem dd_Ou_othersWith_26 : decode cc_Ou_othersWith 26 = .ok (.iload 4, 2) := by decide +kernel
theorem dd_Ou_othersWith_28 : decode cc_Ou_othersWith 28 = .ok (.iload_n 3, 1) := by decide +kernel
theorem dd_Ou_othersWith_29 : decode cc_Ou_othersWith 29 = .ok (.iload 5, 2) := by decide +kernel
theorem dd_Ou_othersWith_31 : decode cc_Ou_othersWith 31 = .ok (.aload_n 2, 1) := by decide +kernel
theorem dd_Ou_othersWith_32 : decode cc_Ou_othersWith 32 = .ok (.getfield 15, 3) := by decide +kernel
theorem dd_Ou_othersWith_35 : decode cc_Ou_othersWith 35 = .ok (.invokevirtual 48, 3) := by decide +kernel
theorem dd_Ou_othersWith_38 : decode cc_Ou_othersWith 38 = .ok (.invokevirtual 44, 3) := by decide +kernel
theorem dd_Ou_othersWith_41 : decode cc_Ou_othersWith 41 = .ok (.ladd, 1) := by decide +kernel
theorem dd_Ou_othersWith_42 : decode cc_Ou_othersWith 42 = .ok (.lreturn, 1) := by decide +kernel
set_option maxRecDepth 100000 in
set_option maxHeartbeats 4000000 in
theorem ct_Ou_othersWith (l : Launch) (E : gf_E) (g : Int) (μ : gf_M) (hg : gf_oGd g) (hg58 : g ≤ 58) (hG : gf_okG μ g) (k s f : Int) (hk : 0 ≤ k ∧ k < μ 41 1 ∧ μ 41 1 ≤ 8) (hs : 0 ≤ s ∧ s ≤ 10) (hf : 0 ≤ f ∧ f ≤ 9) (hv : ∀ z : Int, 0 ≤ z → z ≤ 10 → 0 ≤ μ 60 ((k + 1) * 11 + z) ∧ μ 60 ((k + 1) * 11 + z) ≤ 100) : gf_Ml l E yy_Ou_othersWith cc_Ou_othersWith 7 (gf_rm 2 45) 81 gf_ref μ [.ref (gf_ad E 59), .ref (gf_ad E g), .ref (gf_ad E 41), .int (gf_i k), .int (gf_i s), .int (gf_i f)] (fun r μ' => (r = pf_oth (μ g 0) (μ g 1) (μ g 2) (μ 41 1) (μ 42) k s f (fun z => μ 60 ((k + 1) * 11 + z)) ∧ 0 ≤ r ∧ r ≤ 101) ∧ μ' = μ) := by
  refine gf_ml (by decide +kernel) (Nat.le_of_ble_eq_true rfl) (by decide) (fun X Q hlx C hQ => ?_)
  subst hlx
  replace C : gf_C X E cc_Ou_othersWith 7 "GuardFigures$Outlook" (gf_rm 2 45) := C
  show gf_G X E Q 7 gf_φ μ 0 [(0, .ref (gf_ad E 59)), (1, .ref (gf_ad E g)), (2, .ref (gf_ad E 41)), (3, .int (gf_i k)), (4, .int (gf_i s)), (5, .int (gf_i f))] []
  refine gf_iload C dd_Ou_othersWith_0 5 rfl ?_
  refine gf_aload_n C dd_Ou_othersWith_2 2 rfl ?_
  refine gf_getA (r := 42) C gf_cl5 fl_Ou_54 dd_Ou_othersWith_3 rfl (show gf_is 81 41 0 5 5 by decide) (by decide) (by decide) ?_
  refine gf_iload_n C dd_Ou_othersWith_6 3 rfl ?_
  refine gf_iald C dd_Ou_othersWith_7 (show gf_is 81 42 1 0 8 by decide) (by omega) (fun hv7 => ?_)
  refine gf_icmp_ne 15 C dd_Ou_othersWith_8 (by decide) (by omega) (by omega) (fun h8 => ?_) (fun h8 => ?_)
  · skip
    refine gf_iconst C dd_Ou_othersWith_15 ?_
    refine gf_istore (lv' := [(6, .int (gf_i 1)), (0, .ref (gf_ad E 59)), (1, .ref (gf_ad E g)), (2, .ref (gf_ad E 41)), (3, .int (gf_i k)), (4, .int (gf_i s)), (5, .int (gf_i f))]) C dd_Ou_othersWith_16 (by decide) rfl ?_
    refine gf_iload C dd_Ou_othersWith_18 0 rfl ?_
    refine gf_gi2l C dd_Ou_othersWith_20 (by omega) ?_
    refine gf_aload_n C dd_Ou_othersWith_21 1 rfl ?_
    refine gf_iload_n C dd_Ou_othersWith_22 4 rfl ?_
    refine gf_iconst C dd_Ou_othersWith_23 ?_
    refine gf_iadd C dd_Ou_othersWith_24 ?_
    refine gf_aload_n C dd_Ou_othersWith_25 2 rfl ?_
    refine gf_iload C dd_Ou_othersWith_26 5 rfl ?_
    refine gf_iload_n C dd_Ou_othersWith_28 4 rfl ?_
    refine gf_iload C dd_Ou_othersWith_29 6 rfl ?_
    refine gf_aload_n C dd_Ou_othersWith_31 3 rfl ?_
    refine gf_getI (z := 1) C gf_cl5 fl_Ou_15 dd_Ou_othersWith_32 rfl rfl (show gf_is 81 41 0 5 5 by decide) (fun hv32 => ?_)
    refine gf_callVi (st := [.int (gf_i (k + 1)), .ref (gf_ad E 59), .long (gf_l 1)]) (As := [.int (gf_i s), .int (gf_i k), .int (gf_i f), .int (gf_i (μ 41 1))]) C wk_Ou_48 gf_cl0 hg (ct_Gd_follow (gf_xl X) E g s k f (μ 41 1) μ hg (hG) (by omega) (by omega) (by omega)) rfl ⟨rfl, rfl, rfl, rfl⟩ (Nat.le_of_ble_eq_true rfl) rfl dd_Ou_othersWith_35 (fun r35 m35 hR35 hp35 => ?_)
    have hr35 := hp35.1
    refine gf_pm hp35.2 ?_
    refine gf_callVl (st := [.long (gf_l 1)]) (As := [.int (gf_i (k + 1)), .int (gf_i r35)]) C wk_Ou_44 gf_cl1 (show gf_is 81 59 0 1 2 by decide) (ct_Ou_valueOf (gf_xl X) E (k + 1) r35 μ (by omega) (by omega)) rfl ⟨rfl, rfl, rfl, rfl⟩ (Nat.le_of_ble_eq_true rfl) rfl dd_Ou_othersWith_38 (fun r38 m38 hR38 hp38 => ?_)
    have hr38 := hp38.1
    refine gf_pm hp38.2 ?_
    have hvz := hv r35 (by omega) (by omega)
    rw [← hr38] at hvz
    refine gf_ladd C dd_Ou_othersWith_41 ?_
    refine gf_lret C hQ dd_Ou_othersWith_42 (by omega) ?_
    refine ⟨⟨?_, by omega, by omega⟩, rfl⟩
    unfold pf_oth
    rw [hr38, hr35.1]
    first | (rw [if_pos (by omega)]; done) | (rw [if_neg (by omega)]; done)
  · skip
    refine gf_iconst C dd_Ou_othersWith_11 ?_
    refine gf_goto 16 C dd_Ou_othersWith_12 (by decide) ?_
    refine gf_istore (lv' := [(6, .int (gf_i 0)), (0, .ref (gf_ad E 59)), (1, .ref (gf_ad E g)), (2, .ref (gf_ad E 41)), (3, .int (gf_i k)), (4, .int (gf_i s)), (5, .int (gf_i f))]) C dd_Ou_othersWith_16 (by decide) rfl ?_
    refine gf_iload C dd_Ou_othersWith_18 0 rfl ?_
    refine gf_gi2l C dd_Ou_othersWith_20 (by omega) ?_
    refine gf_aload_n C dd_Ou_othersWith_21 1 rfl ?_
    refine gf_iload_n C dd_Ou_othersWith_22 4 rfl ?_
    refine gf_iconst C dd_Ou_othersWith_23 ?_
    refine gf_iadd C dd_Ou_othersWith_24 ?_
    refine gf_aload_n C dd_Ou_othersWith_25 2 rfl ?_
    refine gf_iload C dd_Ou_othersWith_26 5 rfl ?_
    refine gf_iload_n C dd_Ou_othersWith_28 4 rfl ?_
    refine gf_iload C dd_Ou_othersWith_29 6 rfl ?_
    refine gf_aload_n C dd_Ou_othersWith_31 3 rfl ?_
    refine gf_getI (z := 1) C gf_cl5 fl_Ou_15 dd_Ou_othersWith_32 rfl rfl (show gf_is 81 41 0 5 5 by decide) (fun hv32 => ?_)
    refine gf_callVi (st := [.int (gf_i (k + 1)), .ref (gf_ad E 59), .long (gf_l 0)]) (As := [.int (gf_i s), .int (gf_i k), .int (gf_i f), .int (gf_i (μ 41 1))]) C wk_Ou_48 gf_cl0 hg (ct_Gd_follow (gf_xl X) E g s k f (μ 41 1) μ hg (hG) (by omega) (by omega) (by omega)) rfl ⟨rfl, rfl, rfl, rfl⟩ (Nat.le_of_ble_eq_true rfl) rfl dd_Ou_othersWith_35 (fun r35 m35 hR35 hp35 => ?_)
    have hr35 := hp35.1
    refine gf_pm hp35.2 ?_
    refine gf_callVl (st := [.long (gf_l 0)]) (As := [.int (gf_i (k + 1)), .int (gf_i r35)]) C wk_Ou_44 gf_cl1 (show gf_is 81 59 0 1 2 by decide) (ct_Ou_valueOf (gf_xl X) E (k + 1) r35 μ (by omega) (by omega)) rfl ⟨rfl, rfl, rfl, rfl⟩ (Nat.le_of_ble_eq_true rfl) rfl dd_Ou_othersWith_38 (fun r38 m38 hR38 hp38 => ?_)
    have hr38 := hp38.1
    refine gf_pm hp38.2 ?_
    have hvz := hv r35 (by omega) (by omega)
    rw [← hr38] at hvz
    refine gf_ladd C dd_Ou_othersWith_41 ?_
    refine gf_lret C hQ dd_Ou_othersWith_42 (by omega) ?_
    refine ⟨⟨?_, by omega, by omega⟩, rfl⟩
    unfold pf_oth
    rw [hr38, hr35.1]
    first | (rw [if_pos (by omega)]; done) | (rw [if_neg (by omega)]; done)
