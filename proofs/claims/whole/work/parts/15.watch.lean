/-! Watch: slips, swaps, jumps -/
/-- the other figures of one place, as marks -/
def pf_slr (x k : Int) : Nat → List Int
  | 0 => []
  | v + 1 => pf_slr x k v ++ (if (v : Int) = x then [] else [k * 10 + v])
def pf_sl (f : Int → Int) : Nat → List Int
  | 0 => []
  | k + 1 => pf_sl f k ++ pf_slr (f k) k 10
/-- places whose figure is unlike the one 'off' further on -/
def pf_ex (f : Int → Int) (off : Int) : Nat → List Int
  | 0 => []
  | k + 1 => pf_ex f off k ++ (if f k = f (k + off) then [] else [(k : Int)])
theorem pf_slr_len (x k : Int) : ∀ v : Nat, (pf_slr x k v).length ≤ v ∧ (0 ≤ x → x < v → (pf_slr x k v).length + 1 ≤ v)
  | 0 => ⟨by simp [pf_slr], by omega⟩
  | v + 1 => by
    have ih := pf_slr_len x k v
    unfold pf_slr
    by_cases h : (v : Int) = x
    · rw [if_pos h]; simp; omega
    · rw [if_neg h]; simp; omega
theorem pf_sl_len {f : Int → Int} : ∀ k : Nat, (∀ j : Int, 0 ≤ j → j < k → 0 ≤ f j ∧ f j ≤ 9) → (pf_sl f k).length ≤ 9 * k
  | 0, _ => by simp [pf_sl]
  | k + 1, h => by
    have ih := pf_sl_len k (fun j h0 h1 => h j h0 (by omega))
    have h1 := (pf_slr_len (f k) k 10).2 (h k (by omega) (by omega)).1 (by have := (h k (by omega) (by omega)).2; omega)
    unfold pf_sl
    simp
    omega
theorem pf_ex_len (f : Int → Int) (off : Int) : ∀ k : Nat, (pf_ex f off k).length ≤ k
  | 0 => by simp [pf_ex]
  | k + 1 => by
    have ih := pf_ex_len f off k
    unfold pf_ex
    by_cases h : f k = f (k + off)
    · rw [if_pos h]; simp; omega
    · rw [if_neg h]; simp; omega
def gf_lst (μ : gf_M) (a : Int) (l : List Int) : Prop := ∀ (i : Nat) (x : Int), l[i]? = some x → μ a i = x
theorem gf_lst_app {μ μ' : gf_M} {a : Int} {l : List Int} {x : Int} (h : gf_lst μ a l) (hm : ∀ i : Int, 0 ≤ i → i < l.length → μ' a i = μ a i) (hx : μ' a l.length = x) : gf_lst μ' a (l ++ [x]) := by
  intro i r hr
  by_cases hi : i < l.length
  · rw [List.getElem?_append_left hi] at hr
    rw [hm i (by omega) (by omega)]
    exact h i r hr
  · rw [List.getElem?_append_right (by omega)] at hr
    have hz : i - l.length < 1 := (List.getElem?_eq_some_iff.mp hr).1
    have : i = l.length := by omega
    subst this
    rw [Nat.sub_self] at hr
    cases hr
    exact hx
/-- the watch lists l; else all is as it was -/
def gf_ls (μ0 m : gf_M) (l : List Int) : Prop := m 53 2 = (l.length : Int) ∧ gf_lst m 54 l ∧ (∀ t : Int, 0 ≤ t → t < l.length → m 55 t = 0) ∧ ∀ a b : Int, ¬ (53 ≤ a ∧ a ≤ 56) → m a b = μ0 a b
theorem gf_ls_add {μ0 m m' : gf_M} {l : List Int} {x : Int} (h : gf_ls μ0 m l) (hm : m' = gf_up (gf_up (gf_up m 54 (m 53 2) x) 55 (m 53 2) 0) 53 2 (m 53 2 + 1)) : gf_ls μ0 m' (l ++ [x]) ∧ ∀ b : Int, m' 56 b = m 56 b := by
  obtain ⟨h1, h2, h3, h4⟩ := h
  subst hm
  refine ⟨⟨by rw [gf_up_s, h1]; simp, gf_lst_app h2 (fun i h0 hi => ?_) ?_, fun t h0 ht => ?_, fun a b hab => ?_⟩, fun b => ?_⟩
  · rw [gf_up_k (by decide), gf_up_k (by decide), gf_up_j (by omega)]
  · rw [gf_up_k (by decide), gf_up_k (by decide), h1]; exact gf_up_s
  · rw [gf_up_k (by decide)]
    by_cases e : t = m 53 2
    · rw [e]; exact gf_up_s
    · rw [gf_up_j e, gf_up_k (by decide)]
      exact h3 t h0 (by simp at ht; omega)
  · rw [gf_up_k (by omega), gf_up_k (by omega), gf_up_k (by omega)]; exact h4 a b hab
  · rw [gf_up_k (by decide), gf_up_k (by decide), gf_up_k (by decide)]
theorem gf_ls_end {μ0 m m' : gf_M} {l : List Int} {j x : Int} (h : gf_ls μ0 m l) (hm : m' = gf_up m 56 j x) : gf_ls μ0 m' l := by
  obtain ⟨h1, h2, h3, h4⟩ := h
  subst hm
  refine ⟨by rw [gf_up_k (by decide)]; exact h1, fun i y hy => by rw [gf_up_k (by decide)]; exact h2 i y hy, fun t h0 ht => by rw [gf_up_k (by decide)]; exact h3 t h0 ht, fun a b hab => by rw [gf_up_k (by omega)]; exact h4 a b hab⟩
theorem dd_Wa_list_0 : decode cc_Wa_list 0 = .ok (.aload_n 0, 1) := by decide +kernel
theorem dd_Wa_list_1 : decode cc_Wa_list 1 = .ok (.getfield 46, 3) := by decide +kernel
theorem dd_Wa_list_4 : decode cc_Wa_list 4 = .ok (.bipush 88, 2) := by decide +kernel
theorem dd_Wa_list_6 : decode cc_Wa_list 6 = .ok (.if_icmp .ge 33, 3) := by decide +kernel
theorem dd_Wa_list_9 : decode cc_Wa_list 9 = .ok (.aload_n 0, 1) := by decide +kernel
theorem dd_Wa_list_10 : decode cc_Wa_list 10 = .ok (.getfield 11, 3) := by decide +kernel
theorem dd_Wa_list_13 : decode cc_Wa_list 13 = .ok (.aload_n 0, 1) := by decide +kernel
theorem dd_Wa_list_14 : decode cc_Wa_list 14 = .ok (.getfield 46, 3) := by decide +kernel
theorem dd_Wa_list_17 : decode cc_Wa_list 17 = .ok (.iload_n 1, 1) := by decide +kernel
theorem dd_Wa_list_18 : decode cc_Wa_list 18 = .ok (.iastore, 1) := by decide +kernel
theorem dd_Wa_list_19 : decode cc_Wa_list 19 = .ok (.aload_n 0, 1) := by decide +kernel
theorem dd_Wa_list_20 : decode cc_Wa_list 20 = .ok (.getfield 15, 3) := by decide +kernel
theorem dd_Wa_list_23 : decode cc_Wa_list 23 = .ok (.aload_n 0, 1) := by decide +kernel
theorem dd_Wa_list_24 : decode cc_Wa_list 24 = .ok (.getfield 46, 3) := by decide +kernel
theorem dd_Wa_list_27 : decode cc_Wa_list 27 = .ok (.iconst 0, 1) := by decide +kernel
theorem dd_Wa_list_28 : decode cc_Wa_list 28 = .ok (.iastore, 1) := by decide +kernel
theorem dd_Wa_list_29 : decode cc_Wa_list 29 = .ok (.aload_n 0, 1) := by decide +kernel
theorem dd_Wa_list_30 : decode cc_Wa_list 30 = .ok (.dup, 1) := by decide +kernel
theorem dd_Wa_list_31 : decode cc_Wa_list 31 = .ok (.getfield 46, 3) := by decide +kernel
theorem dd_Wa_list_34 : decode cc_Wa_list 34 = .ok (.iconst 1, 1) := by decide +kernel
theorem dd_Wa_list_35 : decode cc_Wa_list 35 = .ok (.iadd, 1) := by decide +kernel
theorem dd_Wa_list_36 : decode cc_Wa_list 36 = .ok (.putfield 46, 3) := by decide +kernel
theorem dd_Wa_list_39 : decode cc_Wa_list 39 = .ok (.return_, 1) := by decide +kernel
set_option maxRecDepth 100000 in
set_option maxHeartbeats 4000000 in
theorem ct_Wa_list (l : Launch) (E : gf_E) (x : Int) (μ : gf_M) (hx : gf_R x) (ht : 0 ≤ μ 53 2 ∧ μ 53 2 < 88) : gf_Mv l E yy_Wa_list cc_Wa_list 2 (gf_rm 0 0) 81 gf_ref 0 0 81 gf_ref μ [.ref (gf_ad E 53), .int (gf_i x)] (fun μ' => μ' = gf_up (gf_up (gf_up μ 54 (μ 53 2) x) 55 (μ 53 2) 0) 53 2 (μ 53 2 + 1)) := by
  refine gf_mv (by decide +kernel) (Nat.le_of_ble_eq_true rfl) (by decide) (fun X Q hlx C hname hQ => ?_)
  subst hlx
  replace C : gf_C X E cc_Wa_list 2 "GuardFigures$Watch" (gf_rm 0 0) := C
  show gf_G X E Q 2 gf_φ μ 0 [(0, .ref (gf_ad E 53)), (1, .int (gf_i x))] []
  refine gf_aload_n C dd_Wa_list_0 0 rfl ?_
  refine gf_getI (z := 2) C gf_cl4 fl_Wa_46 dd_Wa_list_1 rfl rfl (show gf_is 81 53 0 4 6 by decide) (fun hv1 => ?_)
  refine gf_bipush C dd_Wa_list_4 (by decide +kernel) ?_
  refine gf_icmp_ge 39 C dd_Wa_list_6 (by decide) (by omega) (by omega) (fun h6 => ?_) (fun h6 => ?_)
  · skip
    refine gf_vret C hQ dd_Wa_list_39 ?_
    first | omega | rw [hm36, e28, hm28, e18, hm18]
  · skip
    refine gf_aload_n C dd_Wa_list_9 0 rfl ?_
    refine gf_getA (r := 54) C gf_cl4 fl_Wa_11 dd_Wa_list_10 rfl (show gf_is 81 53 0 4 6 by decide) (by decide) (by decide) ?_
    refine gf_aload_n C dd_Wa_list_13 0 rfl ?_
    refine gf_getI (z := 2) C gf_cl4 fl_Wa_46 dd_Wa_list_14 rfl rfl (show gf_is 81 53 0 4 6 by decide) (fun hv14 => ?_)
    refine gf_iload_n C dd_Wa_list_17 1 rfl ?_
    refine gf_iast C dd_Wa_list_18 (show gf_is 81 54 1 0 88 by decide) (by omega) (by omega) ?_
    refine gf_nmM (fun m18 hm18 => ?_)
    have e18 : m18 53 2 = μ 53 2 := by rw [hm18]; exact gf_up_k (by decide)
    refine gf_aload_n C dd_Wa_list_19 0 rfl ?_
    refine gf_getA (r := 55) C gf_cl4 fl_Wa_15 dd_Wa_list_20 rfl (show gf_is 81 53 0 4 6 by decide) (by decide) (by decide) ?_
    refine gf_aload_n C dd_Wa_list_23 0 rfl ?_
    refine gf_getI (z := 2) C gf_cl4 fl_Wa_46 dd_Wa_list_24 rfl rfl (show gf_is 81 53 0 4 6 by decide) (fun hv24 => ?_)
    refine gf_iconst C dd_Wa_list_27 ?_
    refine gf_iast C dd_Wa_list_28 (show gf_is 81 55 1 0 88 by decide) (by omega) (by omega) ?_
    refine gf_nmM (fun m28 hm28 => ?_)
    have e28 : m28 53 2 = μ 53 2 := by rw [hm28, gf_up_k (by decide)]; exact e18
    refine gf_aload_n C dd_Wa_list_29 0 rfl ?_
    refine gf_dup C dd_Wa_list_30 rfl ?_
    refine gf_getI (z := 2) C gf_cl4 fl_Wa_46 dd_Wa_list_31 rfl rfl (show gf_is 81 53 0 4 6 by decide) (fun hv31 => ?_)
    refine gf_iconst C dd_Wa_list_34 ?_
    refine gf_iadd C dd_Wa_list_35 ?_
    refine gf_putI (z := 2) C gf_cl4 fl_Wa_46 dd_Wa_list_36 rfl rfl rfl (by decide +kernel) (show gf_is 81 53 0 4 6 by decide) (by omega) ?_
    refine gf_nmM (fun m36 hm36 => ?_)
    refine gf_vret C hQ dd_Wa_list_39 ?_
    first | omega | rw [hm36, e28, hm28, e18, hm18]

theorem dd_Wa_listExchanges_0 : decode cc_Wa_listExchanges 0 = .ok (.iconst 0, 1) := by decide +kernel
theorem dd_Wa_listExchanges_1 : decode cc_Wa_listExchanges 1 = .ok (.istore_n 3, 1) := by decide +kernel
theorem dd_Wa_listExchanges_2 : decode cc_Wa_listExchanges 2 = .ok (.iload_n 3, 1) := by decide +kernel
theorem dd_Wa_listExchanges_3 : decode cc_Wa_listExchanges 3 = .ok (.aload_n 1, 1) := by decide +kernel
theorem dd_Wa_listExchanges_4 : decode cc_Wa_listExchanges 4 = .ok (.getfield 36, 3) := by decide +kernel
theorem dd_Wa_listExchanges_7 : decode cc_Wa_listExchanges 7 = .ok (.iload_n 2, 1) := by decide +kernel
theorem dd_Wa_listExchanges_8 : decode cc_Wa_listExchanges 8 = .ok (.isub, 1) := by decide +kernel
theorem dd_Wa_listExchanges_9 : decode cc_Wa_listExchanges 9 = .ok (.if_icmp .ge 31, 3) := by decide +kernel
theorem dd_Wa_listExchanges_12 : decode cc_Wa_listExchanges 12 = .ok (.aload_n 1, 1) := by decide +kernel
theorem dd_Wa_listExchanges_13 : decode cc_Wa_listExchanges 13 = .ok (.getfield 31, 3) := by decide +kernel
theorem dd_Wa_listExchanges_16 : decode cc_Wa_listExchanges 16 = .ok (.iload_n 3, 1) := by decide +kernel
theorem dd_Wa_listExchanges_17 : decode cc_Wa_listExchanges 17 = .ok (.iaload, 1) := by decide +kernel
theorem dd_Wa_listExchanges_18 : decode cc_Wa_listExchanges 18 = .ok (.aload_n 1, 1) := by decide +kernel
theorem dd_Wa_listExchanges_19 : decode cc_Wa_listExchanges 19 = .ok (.getfield 31, 3) := by decide +kernel
theorem dd_Wa_listExchanges_22 : decode cc_Wa_listExchanges 22 = .ok (.iload_n 3, 1) := by decide +kernel
theorem dd_Wa_listExchanges_23 : decode cc_Wa_listExchanges 23 = .ok (.iload_n 2, 1) := by decide +kernel
theorem dd_Wa_listExchanges_24 : decode cc_Wa_listExchanges 24 = .ok (.iadd, 1) := by decide +kernel
theorem dd_Wa_listExchanges_25 : decode cc_Wa_listExchanges 25 = .ok (.iaload, 1) := by decide +kernel
theorem dd_Wa_listExchanges_26 : decode cc_Wa_listExchanges 26 = .ok (.if_icmp .eq 8, 3) := by decide +kernel
theorem dd_Wa_listExchanges_29 : decode cc_Wa_listExchanges 29 = .ok (.aload_n 0, 1) := by decide +kernel
theorem dd_Wa_listExchanges_30 : decode cc_Wa_listExchanges 30 = .ok (.iload_n 3, 1) := by decide +kernel
theorem dd_Wa_listExchanges_31 : decode cc_Wa_listExchanges 31 = .ok (.invokevirtual 65, 3) := by decide +kernel
theorem dd_Wa_listExchanges_34 : decode cc_Wa_listExchanges 34 = .ok (.iinc 3 1, 3) := by decide +kernel
theorem dd_Wa_listExchanges_37 : decode cc_Wa_listExchanges 37 = .ok (.goto (-35), 3) := by decide +kernel
theorem dd_Wa_listExchanges_40 : decode cc_Wa_listExchanges 40 = .ok (.return_, 1) := by decide +kernel
set_option maxRecDepth 100000 in
set_option maxHeartbeats 4000000 in
theorem ct_Wa_listExchanges (l : Launch) (E : gf_E) (off : Int) (μ μ0 : gf_M) (li : List Int) (ho : off = 1 ∨ off = 2) (hl : gf_ls μ0 μ li) (hln : li.length ≤ 79) (hs : 0 ≤ μ 41 1 ∧ μ 41 1 ≤ 8) : gf_Mv l E yy_Wa_listExchanges cc_Wa_listExchanges 4 (gf_rm 1 21) 81 gf_ref 0 0 81 gf_ref μ [.ref (gf_ad E 53), .ref (gf_ad E 41), .int (gf_i off)] (fun μ' => gf_ls μ0 μ' (li ++ pf_ex (μ 42) off (μ 41 1 - off).toNat) ∧ ∀ b : Int, μ' 56 b = μ 56 b) := by
  refine gf_mv (by decide +kernel) (Nat.le_of_ble_eq_true rfl) (by decide) (fun X Q hlx C hname hQ => ?_)
  subst hlx
  replace C : gf_C X E cc_Wa_listExchanges 4 "GuardFigures$Watch" (gf_rm 1 21) := C
  show gf_G X E Q 4 gf_φ μ 0 [(0, .ref (gf_ad E 53)), (1, .ref (gf_ad E 41)), (2, .int (gf_i off))] []
  refine gf_iconst C dd_Wa_listExchanges_0 ?_
  refine gf_istore_n (lv' := [(3, .int (gf_i 0)), (0, .ref (gf_ad E 53)), (1, .ref (gf_ad E 41)), (2, .int (gf_i off))]) C dd_Wa_listExchanges_1 (by decide) rfl ?_
  have L2_1 : ∀ (N : Nat) (k : Int) (m : gf_M) , (0 ≤ k ∧ (k = 0 ∨ k ≤ μ 41 1 - off) ∧ gf_ls μ0 m (li ++ pf_ex (μ 42) off k.toNat) ∧ ∀ b : Int, m 56 b = μ 56 b) → (8 - k).toNat < N → gf_G X E Q 4 gf_φ m 2 [(3, .int (gf_i k)), (0, .ref (gf_ad E 53)), (1, .ref (gf_ad E 41)), (2, .int (gf_i off))] [] := by
    intro N
    induction N with
    | zero => intro k m hinv hN; exact absurd hN (Nat.not_lt_zero _)
    | succ N ih2_1 =>
      intro k m hinv hN
      have hinv0 := hinv
      obtain ⟨hk0, hk1, hk2, hk3⟩ := hinv
      have hlen := pf_ex_len (μ 42) off k.toNat
      have e41 : m 41 1 = μ 41 1 := by rw [hk2.2.2.2 41 1 (by omega), hl.2.2.2 41 1 (by omega)]
      have e42 : ∀ b : Int, m 42 b = μ 42 b := fun b => by rw [hk2.2.2.2 42 b (by omega), hl.2.2.2 42 b (by omega)]
      have hth := hk2.1
      have hlen2 : ((li ++ pf_ex (μ 42) off k.toNat).length : Int) ≤ 87 := by simp; omega
      refine gf_iload_n C dd_Wa_listExchanges_2 0 rfl ?_
      refine gf_aload_n C dd_Wa_listExchanges_3 2 rfl ?_
      refine gf_getI (z := 1) C gf_cl5 fl_Wa_36 dd_Wa_listExchanges_4 rfl rfl (show gf_is 81 41 0 5 5 by decide) (fun hv4 => ?_)
      refine gf_iload_n C dd_Wa_listExchanges_7 3 rfl ?_
      refine gf_isub C dd_Wa_listExchanges_8 ?_
      refine gf_icmp_ge 40 C dd_Wa_listExchanges_9 (by decide) (by omega) (by omega) (fun h9 => ?_) (fun h9 => ?_)
      · skip
        refine gf_vret C hQ dd_Wa_listExchanges_40 ?_
        have e3 : k.toNat = (μ 41 1 - off).toNat := by omega
        rw [← e3]
        exact ⟨hk2, hk3⟩
      · skip
        refine gf_aload_n C dd_Wa_listExchanges_12 2 rfl ?_
        refine gf_getA (r := 42) C gf_cl5 fl_Wa_31 dd_Wa_listExchanges_13 rfl (show gf_is 81 41 0 5 5 by decide) (by decide) (by decide) ?_
        refine gf_iload_n C dd_Wa_listExchanges_16 0 rfl ?_
        refine gf_iald C dd_Wa_listExchanges_17 (show gf_is 81 42 1 0 8 by decide) (by omega) (fun hv17 => ?_)
        refine gf_aload_n C dd_Wa_listExchanges_18 2 rfl ?_
        refine gf_getA (r := 42) C gf_cl5 fl_Wa_31 dd_Wa_listExchanges_19 rfl (show gf_is 81 41 0 5 5 by decide) (by decide) (by decide) ?_
        refine gf_iload_n C dd_Wa_listExchanges_22 0 rfl ?_
        refine gf_iload_n C dd_Wa_listExchanges_23 3 rfl ?_
        refine gf_iadd C dd_Wa_listExchanges_24 ?_
        refine gf_iald C dd_Wa_listExchanges_25 (show gf_is 81 42 1 0 8 by decide) (by omega) (fun hv25 => ?_)
        refine gf_icmp_eq 34 C dd_Wa_listExchanges_26 (by decide) (by omega) (by omega) (fun h26 => ?_) (fun h26 => ?_)
        · skip
          obtain ⟨x34, hx34⟩ : ∃ y : Int, y = k + 1 := ⟨_, rfl⟩
          refine gf_iinc (q := 0) (v := x34) (lv' := [(3, .int (gf_i x34)), (0, .ref (gf_ad E 53)), (1, .ref (gf_ad E 41)), (2, .int (gf_i off))]) C dd_Wa_listExchanges_34 rfl hx34 (by decide) rfl ?_
          refine gf_goto 2 C dd_Wa_listExchanges_37 (by decide) ?_
          refine gf_lsub [0, 1, 2, 3] rfl ?_
          exact ih2_1 x34 m (by
                  have e1 : (k + 1).toNat = k.toNat + 1 := by omega
                  have e2 : ((k.toNat : Nat) : Int) = k := by omega
                  first
                  | (refine ⟨by omega, by omega, ?_, ?_⟩
                     · rw [hx34, e1]
                       show gf_ls μ0 m (li ++ (pf_ex (μ 42) off k.toNat ++ (if μ 42 ((k.toNat : Nat) : Int) = μ 42 (((k.toNat : Nat) : Int) + off) then [] else [((k.toNat : Nat) : Int)])))
                       rw [e2, if_pos (by rw [← e42, ← e42]; exact h26), List.append_nil]
                       exact hk2
                     · exact hk3)
                  | (have ha := gf_ls_add hk2 hp31
                     refine ⟨by omega, by omega, ?_, fun b => by rw [ha.2 b]; exact hk3 b⟩
                     rw [hx34, e1]
                     show gf_ls μ0 m31 (li ++ (pf_ex (μ 42) off k.toNat ++ (if μ 42 ((k.toNat : Nat) : Int) = μ 42 (((k.toNat : Nat) : Int) + off) then [] else [((k.toNat : Nat) : Int)])))
                     rw [e2, if_neg (by rw [← e42, ← e42]; exact h26), ← List.append_assoc]
                     exact ha.1)) (by omega)
        · skip
          refine gf_aload_n C dd_Wa_listExchanges_29 1 rfl ?_
          refine gf_iload_n C dd_Wa_listExchanges_30 0 rfl ?_
          refine gf_callVv (st := []) (As := [.int (gf_i k)]) C wk_Wa_65 gf_cl4 (show gf_is 81 53 0 4 6 by decide) (ct_Wa_list (gf_xl X) E k m (by omega) (by omega)) rfl ⟨rfl, rfl, rfl, rfl⟩ (Nat.le_of_ble_eq_true rfl) rfl dd_Wa_listExchanges_31 (fun m31 hp31 => ?_)
          obtain ⟨x34, hx34⟩ : ∃ y : Int, y = k + 1 := ⟨_, rfl⟩
          refine gf_iinc (q := 0) (v := x34) (lv' := [(3, .int (gf_i x34)), (0, .ref (gf_ad E 53)), (1, .ref (gf_ad E 41)), (2, .int (gf_i off))]) C dd_Wa_listExchanges_34 rfl hx34 (by decide) rfl ?_
          refine gf_goto 2 C dd_Wa_listExchanges_37 (by decide) ?_
          refine gf_lsub [0, 1, 2, 3] rfl ?_
          exact ih2_1 x34 m31 (by
                  have e1 : (k + 1).toNat = k.toNat + 1 := by omega
                  have e2 : ((k.toNat : Nat) : Int) = k := by omega
                  first
                  | (refine ⟨by omega, by omega, ?_, ?_⟩
                     · rw [hx34, e1]
                       show gf_ls μ0 m (li ++ (pf_ex (μ 42) off k.toNat ++ (if μ 42 ((k.toNat : Nat) : Int) = μ 42 (((k.toNat : Nat) : Int) + off) then [] else [((k.toNat : Nat) : Int)])))
                       rw [e2, if_pos (by rw [← e42, ← e42]; exact h26), List.append_nil]
                       exact hk2
                     · exact hk3)
                  | (have ha := gf_ls_add hk2 hp31
                     refine ⟨by omega, by omega, ?_, fun b => by rw [ha.2 b]; exact hk3 b⟩
                     rw [hx34, e1]
                     show gf_ls μ0 m31 (li ++ (pf_ex (μ 42) off k.toNat ++ (if μ 42 ((k.toNat : Nat) : Int) = μ 42 (((k.toNat : Nat) : Int) + off) then [] else [((k.toNat : Nat) : Int)])))
                     rw [e2, if_neg (by rw [← e42, ← e42]; exact h26), ← List.append_assoc]
                     exact ha.1)) (by omega)
  refine gf_lsub [0, 1, 2, 3] rfl ?_
  exact L2_1 _ 0 μ (⟨by omega, by omega, by simpa [pf_ex] using hl, fun b => rfl⟩) (Nat.lt_succ_self _)

theorem dd_Wa_listThings_0 : decode cc_Wa_listThings 0 = .ok (.aload_n 0, 1) := by decide +kernel
theorem dd_Wa_listThings_1 : decode cc_Wa_listThings 1 = .ok (.iconst 0, 1) := by decide +kernel
theorem dd_Wa_listThings_2 : decode cc_Wa_listThings 2 = .ok (.putfield 46, 3) := by decide +kernel
theorem dd_Wa_listThings_5 : decode cc_Wa_listThings 5 = .ok (.iconst 0, 1) := by decide +kernel
theorem dd_Wa_listThings_6 : decode cc_Wa_listThings 6 = .ok (.istore_n 2, 1) := by decide +kernel
theorem dd_Wa_listThings_7 : decode cc_Wa_listThings 7 = .ok (.iload_n 2, 1) := by decide +kernel
theorem dd_Wa_listThings_8 : decode cc_Wa_listThings 8 = .ok (.aload_n 1, 1) := by decide +kernel
theorem dd_Wa_listThings_9 : decode cc_Wa_listThings 9 = .ok (.getfield 36, 3) := by decide +kernel
theorem dd_Wa_listThings_12 : decode cc_Wa_listThings 12 = .ok (.if_icmp .ge 43, 3) := by decide +kernel
theorem dd_Wa_listThings_15 : decode cc_Wa_listThings 15 = .ok (.iconst 0, 1) := by decide +kernel
theorem dd_Wa_listThings_16 : decode cc_Wa_listThings 16 = .ok (.istore_n 3, 1) := by decide +kernel
theorem dd_Wa_listThings_17 : decode cc_Wa_listThings 17 = .ok (.iload_n 3, 1) := by decide +kernel
theorem dd_Wa_listThings_18 : decode cc_Wa_listThings 18 = .ok (.bipush 10, 2) := by decide +kernel
theorem dd_Wa_listThings_20 : decode cc_Wa_listThings 20 = .ok (.if_icmp .ge 29, 3) := by decide +kernel
theorem dd_Wa_listThings_23 : decode cc_Wa_listThings 23 = .ok (.iload_n 3, 1) := by decide +kernel
theorem dd_Wa_listThings_24 : decode cc_Wa_listThings 24 = .ok (.aload_n 1, 1) := by decide +kernel
theorem dd_Wa_listThings_25 : decode cc_Wa_listThings 25 = .ok (.getfield 31, 3) := by decide +kernel
theorem dd_Wa_listThings_28 : decode cc_Wa_listThings 28 = .ok (.iload_n 2, 1) := by decide +kernel
theorem dd_Wa_listThings_29 : decode cc_Wa_listThings 29 = .ok (.iaload, 1) := by decide +kernel
theorem dd_Wa_listThings_30 : decode cc_Wa_listThings 30 = .ok (.if_icmp .eq 13, 3) := by decide +kernel
theorem dd_Wa_listThings_33 : decode cc_Wa_listThings 33 = .ok (.aload_n 0, 1) := by decide +kernel
theorem dd_Wa_listThings_34 : decode cc_Wa_listThings 34 = .ok (.iload_n 2, 1) := by decide +kernel
theorem dd_Wa_listThings_35 : decode cc_Wa_listThings 35 = .ok (.bipush 10, 2) := by decide +kernel
theorem dd_Wa_listThings_37 : decode cc_Wa_listThings 37 = .ok (.imul, 1) := by decide +kernel
theorem dd_Wa_listThings_38 : decode cc_Wa_listThings 38 = .ok (.iload_n 3, 1) := by decide +kernel
theorem dd_Wa_listThings_39 : decode cc_Wa_listThings 39 = .ok (.iadd, 1) := by decide +kernel
theorem dd_Wa_listThings_40 : decode cc_Wa_listThings 40 = .ok (.invokevirtual 65, 3) := by decide +kernel
theorem dd_Wa_listThings_43 : decode cc_Wa_listThings 43 = .ok (.iinc 3 1, 3) := by decide +kernel
theorem dd_Wa_listThings_46 : decode cc_Wa_listThings 46 = .ok (.goto (-29), 3) := by decide +kernel
theorem dd_Wa_listThings_49 : decode cc_Wa_listThings 49 = .ok (.iinc 2 1, 3) := by decide +kernel
theorem dd_Wa_listThings_52 : decode cc_Wa_listThings 52 = .ok (.goto (-45), 3) := by decide +kernel
theorem dd_Wa_listThings_55 : decode cc_Wa_listThings 55 = .ok (.aload_n 0, 1) := by decide +kernel
theorem dd_Wa_listThings_56 : decode cc_Wa_listThings 56 = .ok (.getfield 18, 3) := by decide +kernel
theorem dd_Wa_listThings_59 : decode cc_Wa_listThings 59 = .ok (.iconst 0, 1) := by decide +kernel
theorem dd_Wa_listThings_60 : decode cc_Wa_listThings 60 = .ok (.aload_n 0, 1) := by decide +kernel
theorem dd_Wa_listThings_61 : decode cc_Wa_listThings 61 = .ok (.getfield 46, 3) := by decide +kernel
theorem dd_Wa_listThings_64 : decode cc_Wa_listThings 64 = .ok (.iastore, 1) := by decide +kernel
theorem dd_Wa_listThings_65 : decode cc_Wa_listThings 65 = .ok (.aload_n 0, 1) := by decide +kernel
theorem dd_Wa_listThings_66 : decode cc_Wa_listThings 66 = .ok (.aload_n 1, 1) := by decide +kernel
theorem dd_Wa_listThings_67 : decode cc_Wa_listThings 67 = .ok (.iconst 1, 1) := by decide +kernel
theorem dd_Wa_listThings_68 : decode cc_Wa_listThings 68 = .ok (.invokevirtual 69, 3) := by decide +kernel
theorem dd_Wa_listThings_71 : decode cc_Wa_listThings 71 = .ok (.aload_n 0, 1) := by decide +kernel
theorem dd_Wa_listThings_72 : decode cc_Wa_listThings 72 = .ok (.getfield 18, 3) := by decide +kernel
theorem dd_Wa_listThings_75 : decode cc_Wa_listThings 75 = .ok (.iconst 1, 1) := by decide +kernel
theorem dd_Wa_listThings_76 : decode cc_Wa_listThings 76 = .ok (.aload_n 0, 1) := by decide +kernel
theorem dd_Wa_listThings_77 : decode cc_Wa_listThings 77 = .ok (.getfield 46, 3) := by decide +kernel
theorem dd_Wa_listThings_80 : decode cc_Wa_listThings 80 = .ok (.iastore, 1) := by decide +kernel
theorem dd_Wa_listThings_81 : decode cc_Wa_listThings 81 = .ok (.aload_n 0, 1) := by decide +kernel
theorem dd_Wa_listThings_82 : decode cc_Wa_listThings 82 = .ok (.aload_n 1, 1) := by decide +kernel
theorem dd_Wa_listThings_83 : decode cc_Wa_listThings 83 = .ok (.iconst 2, 1) := by decide +kernel
theorem dd_Wa_listThings_84 : decode cc_Wa_listThings 84 = .ok (.invokevirtual 69, 3) := by decide +kernel
theorem dd_Wa_listThings_87 : decode cc_Wa_listThings 87 = .ok (.aload_n 0, 1) := by decide +kernel
theorem dd_Wa_listThings_88 : decode cc_Wa_listThings 88 = .ok (.getfield 18, 3) := by decide +kernel
theorem dd_Wa_listThings_91 : decode cc_Wa_listThings 91 = .ok (.iconst 2, 1) := by decide +kernel
theorem dd_Wa_listThings_92 : decode cc_Wa_listThings 92 = .ok (.aload_n 0, 1) := by decide +kernel
theorem dd_Wa_listThings_93 : decode cc_Wa_listThings 93 = .ok (.getfield 46, 3) := by decide +kernel
theorem dd_Wa_listThings_96 : decode cc_Wa_listThings 96 = .ok (.iastore, 1) := by decide +kernel
theorem dd_Wa_listThings_97 : decode cc_Wa_listThings 97 = .ok (.return_, 1) := by decide +kernel
set_option maxRecDepth 100000 in
set_option maxHeartbeats 4000000 in
theorem ct_Wa_listThings (l : Launch) (E : gf_E) (μ : gf_M) (hs : 0 ≤ μ 41 1 ∧ μ 41 1 ≤ 8) (hF : gf_okF μ 42 (μ 41 1)) : gf_Mv l E yy_Wa_listThings cc_Wa_listThings 4 (gf_rm 2 44) 81 gf_ref 0 0 81 gf_ref μ [.ref (gf_ad E 53), .ref (gf_ad E 41)] (fun μ' => gf_ls μ μ' (pf_sl (μ 42) (μ 41 1).toNat ++ pf_ex (μ 42) 1 (μ 41 1 - 1).toNat ++ pf_ex (μ 42) 2 (μ 41 1 - 2).toNat) ∧ μ' 56 0 = ((pf_sl (μ 42) (μ 41 1).toNat).length : Int) ∧ μ' 56 1 = ((pf_sl (μ 42) (μ 41 1).toNat).length : Int) + ((pf_ex (μ 42) 1 (μ 41 1 - 1).toNat).length : Int) ∧ μ' 56 2 = ((pf_sl (μ 42) (μ 41 1).toNat).length : Int) + ((pf_ex (μ 42) 1 (μ 41 1 - 1).toNat).length : Int) + ((pf_ex (μ 42) 2 (μ 41 1 - 2).toNat).length : Int)) := by
  refine gf_mv (by decide +kernel) (Nat.le_of_ble_eq_true rfl) (by decide) (fun X Q hlx C hname hQ => ?_)
  subst hlx
  replace C : gf_C X E cc_Wa_listThings 4 "GuardFigures$Watch" (gf_rm 2 44) := C
  show gf_G X E Q 4 gf_φ μ 0 [(0, .ref (gf_ad E 53)), (1, .ref (gf_ad E 41))] []
  refine gf_aload_n C dd_Wa_listThings_0 0 rfl ?_
  refine gf_iconst C dd_Wa_listThings_1 ?_
  refine gf_putI (z := 2) C gf_cl4 fl_Wa_46 dd_Wa_listThings_2 rfl rfl rfl (by decide +kernel) (show gf_is 81 53 0 4 6 by decide) (by omega) ?_
  refine gf_nmM (fun m2 hm2 => ?_)
  refine gf_iconst C dd_Wa_listThings_5 ?_
  refine gf_istore_n (lv' := [(2, .int (gf_i 0)), (0, .ref (gf_ad E 53)), (1, .ref (gf_ad E 41))]) C dd_Wa_listThings_6 (by decide) rfl ?_
  have L7_1 : ∀ (N : Nat) (k : Int) (m : gf_M) , (0 ≤ k ∧ k ≤ μ 41 1 ∧ gf_ls μ m (pf_sl (μ 42) k.toNat)) → (8 - k).toNat < N → gf_G X E Q 4 gf_φ m 7 [(2, .int (gf_i k)), (0, .ref (gf_ad E 53)), (1, .ref (gf_ad E 41))] [] := by
    intro N
    induction N with
    | zero => intro k m hinv hN; exact absurd hN (Nat.not_lt_zero _)
    | succ N ih7_1 =>
      intro k m hinv hN
      have hinv0 := hinv
      obtain ⟨hk0, hk1, hk2⟩ := hinv
      have hlen := pf_sl_len (f := μ 42) k.toNat (fun j h0 h1 => hF j h0 (by omega))
      have e41 : m 41 1 = μ 41 1 := hk2.2.2.2 41 1 (by omega)
      have e2 : ((k.toNat : Nat) : Int) = k := by omega
      have hth := hk2.1
      refine gf_iload_n C dd_Wa_listThings_7 0 rfl ?_
      refine gf_aload_n C dd_Wa_listThings_8 2 rfl ?_
      refine gf_getI (z := 1) C gf_cl5 fl_Wa_36 dd_Wa_listThings_9 rfl rfl (show gf_is 81 41 0 5 5 by decide) (fun hv9 => ?_)
      refine gf_icmp_ge 55 C dd_Wa_listThings_12 (by decide) (by omega) (by omega) (fun h12 => ?_) (fun h12 => ?_)
      · skip
        have hkn : k.toNat = (μ 41 1).toNat := by omega
        refine gf_aload_n C dd_Wa_listThings_55 1 rfl ?_
        refine gf_getA (r := 56) C gf_cl4 fl_Wa_18 dd_Wa_listThings_56 rfl (show gf_is 81 53 0 4 6 by decide) (by decide) (by decide) ?_
        refine gf_iconst C dd_Wa_listThings_59 ?_
        refine gf_aload_n C dd_Wa_listThings_60 1 rfl ?_
        refine gf_getI (z := 2) C gf_cl4 fl_Wa_46 dd_Wa_listThings_61 rfl rfl (show gf_is 81 53 0 4 6 by decide) (fun hv61 => ?_)
        refine gf_iast C dd_Wa_listThings_64 (show gf_is 81 56 1 0 3 by decide) (by omega) (by omega) ?_
        refine gf_nmM (fun m64 hm64 => ?_)
        have hl64 := gf_ls_end hk2 hm64
        rw [hkn] at hl64
        have e64 : m64 56 0 = ((pf_sl (μ 42) (μ 41 1).toNat).length : Int) := by rw [hm64, gf_up_s, hth, hkn]
        have f1 : m64 41 1 = μ 41 1 := hl64.2.2.2 41 1 (by omega)
        have f2 : m64 42 = μ 42 := funext fun b => hl64.2.2.2 42 b (by omega)
        rw [hkn] at hlen
        refine gf_aload_n C dd_Wa_listThings_65 1 rfl ?_
        refine gf_aload_n C dd_Wa_listThings_66 2 rfl ?_
        refine gf_iconst C dd_Wa_listThings_67 ?_
        refine gf_callVv (st := []) (As := [.ref (gf_ad E 41), .int (gf_i 1)]) C wk_Wa_69 gf_cl4 (show gf_is 81 53 0 4 6 by decide) (ct_Wa_listExchanges (gf_xl X) E 1 m64 (μ) ((pf_sl (μ 42) (μ 41 1).toNat)) (by omega) (hl64) (by omega) (by omega)) rfl ⟨rfl, rfl, rfl, rfl⟩ (Nat.le_of_ble_eq_true rfl) rfl dd_Wa_listThings_68 (fun m68 hp68 => ?_)
        obtain ⟨hl68, g68⟩ := hp68
        rw [f1, f2] at hl68
        have t68 := hl68.1
        have q68 := pf_ex_len (μ 42) 1 (μ 41 1 - 1).toNat
        refine gf_aload_n C dd_Wa_listThings_71 1 rfl ?_
        refine gf_getA (r := 56) C gf_cl4 fl_Wa_18 dd_Wa_listThings_72 rfl (show gf_is 81 53 0 4 6 by decide) (by decide) (by decide) ?_
        refine gf_iconst C dd_Wa_listThings_75 ?_
        refine gf_aload_n C dd_Wa_listThings_76 1 rfl ?_
        refine gf_getI (z := 2) C gf_cl4 fl_Wa_46 dd_Wa_listThings_77 rfl rfl (show gf_is 81 53 0 4 6 by decide) (fun hv77 => ?_)
        refine gf_iast C dd_Wa_listThings_80 (show gf_is 81 56 1 0 3 by decide) (by omega) (by simp at t68; omega) ?_
        refine gf_nmM (fun m80 hm80 => ?_)
        have hl80 := gf_ls_end hl68 hm80
        have e80 : m80 56 1 = ((pf_sl (μ 42) (μ 41 1).toNat).length : Int) + ((pf_ex (μ 42) 1 (μ 41 1 - 1).toNat).length : Int) := by rw [hm80, gf_up_s, t68]; simp
        have e800 : m80 56 0 = ((pf_sl (μ 42) (μ 41 1).toNat).length : Int) := by rw [hm80, gf_up_j (by decide), g68, e64]
        have f3 : m80 41 1 = μ 41 1 := hl80.2.2.2 41 1 (by omega)
        have f4 : m80 42 = μ 42 := funext fun b => hl80.2.2.2 42 b (by omega)
        refine gf_aload_n C dd_Wa_listThings_81 1 rfl ?_
        refine gf_aload_n C dd_Wa_listThings_82 2 rfl ?_
        refine gf_iconst C dd_Wa_listThings_83 ?_
        refine gf_callVv (st := []) (As := [.ref (gf_ad E 41), .int (gf_i 2)]) C wk_Wa_69 gf_cl4 (show gf_is 81 53 0 4 6 by decide) (ct_Wa_listExchanges (gf_xl X) E 2 m80 (μ) ((pf_sl (μ 42) (μ 41 1).toNat ++ pf_ex (μ 42) 1 (μ 41 1 - 1).toNat)) (by omega) (hl80) (by rw [List.length_append]; omega) (by omega)) rfl ⟨rfl, rfl, rfl, rfl⟩ (Nat.le_of_ble_eq_true rfl) rfl dd_Wa_listThings_84 (fun m84 hp84 => ?_)
        obtain ⟨hl84, g84⟩ := hp84
        rw [f3, f4] at hl84
        have t84 := hl84.1
        refine gf_aload_n C dd_Wa_listThings_87 1 rfl ?_
        refine gf_getA (r := 56) C gf_cl4 fl_Wa_18 dd_Wa_listThings_88 rfl (show gf_is 81 53 0 4 6 by decide) (by decide) (by decide) ?_
        refine gf_iconst C dd_Wa_listThings_91 ?_
        refine gf_aload_n C dd_Wa_listThings_92 1 rfl ?_
        refine gf_getI (z := 2) C gf_cl4 fl_Wa_46 dd_Wa_listThings_93 rfl rfl (show gf_is 81 53 0 4 6 by decide) (fun hv93 => ?_)
        refine gf_iast C dd_Wa_listThings_96 (show gf_is 81 56 1 0 3 by decide) (by omega) (by have q := pf_ex_len (μ 42) 2 (μ 41 1 - 2).toNat; simp at t84; omega) ?_
        refine gf_nmM (fun m96 hm96 => ?_)
        refine gf_vret C hQ dd_Wa_listThings_97 ?_
        refine ⟨gf_ls_end hl84 hm96, ?_, ?_, ?_⟩
        · rw [hm96, gf_up_j (by decide), g84, e800]
        · rw [hm96, gf_up_j (by decide), g84, e80]
        · rw [hm96, gf_up_s, t84]; simp; omega
      · skip
        refine gf_iconst C dd_Wa_listThings_15 ?_
        refine gf_istore_n (lv' := [(3, .int (gf_i 0)), (2, .int (gf_i k)), (0, .ref (gf_ad E 53)), (1, .ref (gf_ad E 41))]) C dd_Wa_listThings_16 (by decide) rfl ?_
        have L17_2 : ∀ (N : Nat) (v : Int) (m' : gf_M) , (0 ≤ v ∧ v ≤ 10 ∧ gf_ls μ m' (pf_sl (μ 42) k.toNat ++ pf_slr (μ 42 k) k v.toNat)) → (10 - v).toNat < N → gf_G X E Q 4 gf_φ m' 17 [(3, .int (gf_i v)), (2, .int (gf_i k)), (0, .ref (gf_ad E 53)), (1, .ref (gf_ad E 41))] [] := by
          intro N
          induction N with
          | zero => intro v m' hinv hN; exact absurd hN (Nat.not_lt_zero _)
          | succ N ih17_2 =>
            intro v m' hinv hN
            have hinv0 := hinv
            obtain ⟨hv0, hv1, hv2⟩ := hinv
            have hlr := (pf_slr_len (μ 42 k) k v.toNat).1
            have hth' := hv2.1
            have e42 : m' 42 k = μ 42 k := hv2.2.2.2 42 k (by omega)
            have hlen2 : ((pf_sl (μ 42) k.toNat ++ pf_slr (μ 42 k) k v.toNat).length : Int) ≤ 87 := by simp; omega
            have e3 : ((v.toNat : Nat) : Int) = v := by omega
            refine gf_iload_n C dd_Wa_listThings_17 0 rfl ?_
            refine gf_bipush C dd_Wa_listThings_18 (by decide +kernel) ?_
            refine gf_icmp_ge 49 C dd_Wa_listThings_20 (by decide) (by omega) (by omega) (fun h20 => ?_) (fun h20 => ?_)
            · skip
              obtain ⟨x49, hx49⟩ : ∃ y : Int, y = k + 1 := ⟨_, rfl⟩
              refine gf_iinc (q := 1) (v := x49) (lv' := [(2, .int (gf_i x49)), (3, .int (gf_i v)), (0, .ref (gf_ad E 53)), (1, .ref (gf_ad E 41))]) C dd_Wa_listThings_49 rfl hx49 (by decide) rfl ?_
              refine gf_goto 7 C dd_Wa_listThings_52 (by decide) ?_
              refine gf_lsub [0, 2, 3] rfl ?_
              exact ih7_1 x49 m' (by
                        refine ⟨by omega, by omega, ?_⟩
                        rw [hx49, show (k + 1).toNat = k.toNat + 1 by omega]
                        show gf_ls μ m' (pf_sl (μ 42) k.toNat ++ pf_slr (μ 42 ((k.toNat : Nat) : Int)) ((k.toNat : Nat) : Int) 10)
                        rw [e2, show 10 = v.toNat by omega]
                        exact hv2) (by omega)
            · skip
              refine gf_iload_n C dd_Wa_listThings_23 0 rfl ?_
              refine gf_aload_n C dd_Wa_listThings_24 3 rfl ?_
              refine gf_getA (r := 42) C gf_cl5 fl_Wa_31 dd_Wa_listThings_25 rfl (show gf_is 81 41 0 5 5 by decide) (by decide) (by decide) ?_
              refine gf_iload_n C dd_Wa_listThings_28 1 rfl ?_
              have hfk := hF k (by omega) (by omega)
              refine gf_iald C dd_Wa_listThings_29 (show gf_is 81 42 1 0 8 by decide) (by omega) (fun hv29 => ?_)
              refine gf_icmp_eq 43 C dd_Wa_listThings_30 (by decide) (by omega) (by omega) (fun h30 => ?_) (fun h30 => ?_)
              · skip
                obtain ⟨x43, hx43⟩ : ∃ y : Int, y = v + 1 := ⟨_, rfl⟩
                refine gf_iinc (q := 0) (v := x43) (lv' := [(3, .int (gf_i x43)), (2, .int (gf_i k)), (0, .ref (gf_ad E 53)), (1, .ref (gf_ad E 41))]) C dd_Wa_listThings_43 rfl hx43 (by decide) rfl ?_
                refine gf_goto 17 C dd_Wa_listThings_46 (by decide) ?_
                refine gf_lsub [0, 1, 2, 3] rfl ?_
                exact ih17_2 x43 m' (by
                            have e1 : (v + 1).toNat = v.toNat + 1 := by omega
                            first
                            | (refine ⟨by omega, by omega, ?_⟩
                               rw [hx43, e1]
                               show gf_ls μ m' (_ ++ (pf_slr (μ 42 k) k v.toNat ++ (if ((v.toNat : Nat) : Int) = μ 42 k then [] else [k * 10 + ((v.toNat : Nat) : Int)])))
                               rw [e3, if_pos (by rw [← e42]; exact h30), List.append_nil]
                               exact hv2)
                            | (have ha := gf_ls_add hv2 hp40
                               refine ⟨by omega, by omega, ?_⟩
                               rw [hx43, e1]
                               show gf_ls μ m40 (_ ++ (pf_slr (μ 42 k) k v.toNat ++ (if ((v.toNat : Nat) : Int) = μ 42 k then [] else [k * 10 + ((v.toNat : Nat) : Int)])))
                               rw [e3, if_neg (by rw [← e42]; exact h30), ← List.append_assoc]
                               exact ha.1)) (by omega)
              · skip
                refine gf_aload_n C dd_Wa_listThings_33 2 rfl ?_
                refine gf_iload_n C dd_Wa_listThings_34 1 rfl ?_
                refine gf_bipush C dd_Wa_listThings_35 (by decide +kernel) ?_
                refine gf_imul C dd_Wa_listThings_37 ?_
                refine gf_iload_n C dd_Wa_listThings_38 0 rfl ?_
                refine gf_iadd C dd_Wa_listThings_39 ?_
                refine gf_callVv (st := []) (As := [.int (gf_i ((k * 10) + v))]) C wk_Wa_65 gf_cl4 (show gf_is 81 53 0 4 6 by decide) (ct_Wa_list (gf_xl X) E ((k * 10) + v) m' (by omega) (by omega)) rfl ⟨rfl, rfl, rfl, rfl⟩ (Nat.le_of_ble_eq_true rfl) rfl dd_Wa_listThings_40 (fun m40 hp40 => ?_)
                obtain ⟨x43, hx43⟩ : ∃ y : Int, y = v + 1 := ⟨_, rfl⟩
                refine gf_iinc (q := 0) (v := x43) (lv' := [(3, .int (gf_i x43)), (2, .int (gf_i k)), (0, .ref (gf_ad E 53)), (1, .ref (gf_ad E 41))]) C dd_Wa_listThings_43 rfl hx43 (by decide) rfl ?_
                refine gf_goto 17 C dd_Wa_listThings_46 (by decide) ?_
                refine gf_lsub [0, 1, 2, 3] rfl ?_
                exact ih17_2 x43 m40 (by
                            have e1 : (v + 1).toNat = v.toNat + 1 := by omega
                            first
                            | (refine ⟨by omega, by omega, ?_⟩
                               rw [hx43, e1]
                               show gf_ls μ m' (_ ++ (pf_slr (μ 42 k) k v.toNat ++ (if ((v.toNat : Nat) : Int) = μ 42 k then [] else [k * 10 + ((v.toNat : Nat) : Int)])))
                               rw [e3, if_pos (by rw [← e42]; exact h30), List.append_nil]
                               exact hv2)
                            | (have ha := gf_ls_add hv2 hp40
                               refine ⟨by omega, by omega, ?_⟩
                               rw [hx43, e1]
                               show gf_ls μ m40 (_ ++ (pf_slr (μ 42 k) k v.toNat ++ (if ((v.toNat : Nat) : Int) = μ 42 k then [] else [k * 10 + ((v.toNat : Nat) : Int)])))
                               rw [e3, if_neg (by rw [← e42]; exact h30), ← List.append_assoc]
                               exact ha.1)) (by omega)
        refine gf_lsub [0, 1, 2, 3] rfl ?_
        exact L17_2 _ 0 m (⟨by omega, by omega, by simpa [pf_slr] using hk2⟩) (Nat.lt_succ_self _)
  refine gf_lsub [0, 1, 2] rfl ?_
  exact L7_1 _ 0 m2 (⟨by omega, by omega, by rw [hm2]; exact gf_up_s, fun i x h => by simp [pf_sl] at h, fun t h0 h1 => by simp [pf_sl] at h1; omega, fun a b h => by rw [hm2]; exact gf_up_k (by omega)⟩) (Nat.lt_succ_self _)
