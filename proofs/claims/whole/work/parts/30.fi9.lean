/-! GuardFigures: which guard it is, by turns, chances, lots, a house -/
theorem gf_ldcw {X : gf_X} {E : gf_E} {Q : State → Prop} {nL : Nat} {φ : gf_F} {μ : gf_M} {pc : Nat} {lv : List (Nat × Value)} {st : List Value} {cc : ByteArray} {own : String} {rm : Room} {index : Nat} {v : Int32} (x : Int) (C : gf_C X E cc nL own rm) (d : decode cc pc = .ok (.ldc_w index, 3)) (hw : Cond.constant own index v ∈ gf_tbl) (hn : v = gf_i x) (kk : gf_G X E Q nL φ μ (pc + 3) lv (.int (gf_i x) :: st)) : gf_G X E Q nL φ μ pc lv st := by
  subst hn
  exact fun H locs ls hl hW hS => lv_ldcw C.1 C.2.1 C.2.2.2.1 (C.2.2.2.2.1 _ hw) d (kk H locs ls hl hW hS)
/-- lots: what the number is behind n deeds by lot -/
def pf_lot (s : Int) : Nat → Int
  | 0 => s
  | n + 1 => pf_lot s n * 48271 % 2147483647
theorem pf_lot_R {s : Int} (h : 1 ≤ s ∧ s ≤ 2147483646) : ∀ n : Nat, 0 ≤ pf_lot s n ∧ pf_lot s n ≤ 2147483646
  | 0 => by show 0 ≤ s ∧ s ≤ _; omega
  | n + 1 => by show 0 ≤ _ % 2147483647 ∧ _ % 2147483647 ≤ _; omega
def pf_lots (μ : gf_M) (s : Int) : Nat → gf_M
  | 0 => μ
  | n + 1 => pf_lotW (gf_rmb (pf_lots μ s n)) 41 (pf_lot s (n + 1))
theorem pf_lotW_41 (μ : gf_M) (lot : Int) : pf_lotW μ 41 lot 41 2 = μ 41 2 := by
  unfold pf_lotW
  repeat' split
  all_goals first | rfl | (rw [gf_up_j (by decide)]; done) | (rw [gf_up_j (by decide), gf_up_k (by decide)]; done) | (rw [gf_up_k (by decide)]; done)
theorem pf_lotW_f (μ : gf_M) (lot : Int) {a b : Int} (h : a ≠ 42) (h2 : ¬ (a = 41 ∧ b = 1)) : pf_lotW μ 41 lot a b = μ a b := by
  unfold pf_lotW
  have h3 : a ≠ 41 + 1 := h
  repeat' split
  all_goals first | rfl | (rw [gf_up_o h2, gf_up_k h3]; done) | (rw [gf_up_o h2]; done) | (rw [gf_up_k h3]; done)
theorem pf_lotW_ok {μ : gf_M} {lot : Int} (hl : 0 ≤ lot) (hs : 0 ≤ μ 41 1 ∧ μ 41 1 ≤ 8) (hF : gf_okF μ 42 (μ 41 1)) : (0 ≤ pf_lotW μ 41 lot 41 1 ∧ pf_lotW μ 41 lot 41 1 ≤ 8) ∧ gf_okF (pf_lotW μ 41 lot) 42 (pf_lotW μ 41 lot 41 1) := by
  unfold pf_lotW
  by_cases h1 : lot % 4 ≤ 1
  · rw [if_pos h1]
    by_cases h2 : μ 41 1 < 8
    · rw [if_pos h2]
      refine ⟨by rw [gf_up_s]; omega, fun j h0 hj => ?_⟩
      rw [gf_up_s] at hj
      rw [gf_up_k (by decide)]
      by_cases e : j = μ 41 1
      · rw [e]
        have : gf_up μ (41 + 1) (μ 41 1) (lot / 8 % 10) 42 (μ 41 1) = lot / 8 % 10 := gf_up_s
        rw [this]; omega
      · rw [gf_up_j e]; exact hF j h0 (by omega)
    · rw [if_neg h2]; exact ⟨hs, hF⟩
  · rw [if_neg h1]
    by_cases h2 : lot % 4 = 2
    · rw [if_pos h2]
      by_cases h3 : μ 41 1 = 0
      · rw [if_pos h3]; exact ⟨hs, hF⟩
      · rw [if_neg h3]
        refine ⟨by rw [gf_up_s]; omega, fun j h0 hj => ?_⟩
        rw [gf_up_s] at hj
        rw [gf_up_k (by decide)]
        exact hF j h0 (by omega)
    · rw [if_neg h2]
      by_cases h3 : lot / 128 % 8 < μ 41 1
      · rw [if_pos h3]
        have e41 : gf_up μ (41 + 1) (lot / 128 % 8) (lot / 8 % 10) 41 1 = μ 41 1 := gf_up_k (by decide)
        rw [e41]
        refine ⟨hs, fun j h0 hj => ?_⟩
        by_cases e : j = lot / 128 % 8
        · have : gf_up μ (41 + 1) (lot / 128 % 8) (lot / 8 % 10) 42 j = lot / 8 % 10 := by rw [e]; exact gf_up_s
          rw [this]; omega
        · rw [gf_up_j e]; exact hF j h0 hj
      · rw [if_neg h3]; exact ⟨hs, hF⟩
theorem pf_maxp_R (some : Int) (v : Int → Int) : ∀ n : Nat, 0 ≤ pf_maxp some v n ∧ pf_maxp some v n ≤ n
  | 0 => by simp [pf_maxp]
  | n + 1 => by
    have ih := pf_maxp_R some v n
    have := pf_cnt_R (fun kd => pf_bit some kd && decide (v kd = v n)) (n + 1)
    unfold pf_maxp gf_max
    repeat' split
    all_goals omega
/-- a share of all copies is told, in lowest terms -/
def gf_sh2 (μ : gf_M) (h : Int) : gf_M := gf_up (gf_up μ 0 13 (h / (Int.gcd (12 ^ (μ 41 1).toNat) h : Int))) 0 14 (12 ^ (μ 41 1).toNat / (Int.gcd (12 ^ (μ 41 1).toNat) h : Int))
theorem gf_sh2_sc {μ m μ' : gf_M} {h : Int} (hm : gf_sc m μ) (hμ : μ' = gf_sh2 m h) : gf_sc μ' (gf_sh2 μ h) := by
  intro a b hab
  rw [hμ]
  unfold gf_sh2
  rw [hm 41 1 (by decide)]
  by_cases e : a = 0 ∧ b = 14
  · rw [e.1, e.2, gf_up_s, gf_up_s]
  · rw [gf_up_o e, gf_up_o e]
    by_cases e2 : a = 0 ∧ b = 13
    · rw [e2.1, e2.2, gf_up_s, gf_up_s]
    · rw [gf_up_o e2, gf_up_o e2]; exact hm a b hab
/-- all copies that are as the number are among those reckoned alike -/
theorem pf_VO_ge {K F S n p : Int} {x : Int → Int} (hp : 0 ≤ p ∧ p ≤ 12) (hn : 0 ≤ n) : ∀ (r : Nat), r ≤ n → (12 - p) ^ r ≤ pf_VO K F S n p x (pf_eC K n (pf_reck K F S x n) 1 0) r (pf_rec K F S x n (n - r).toNat)
  | 0, h => by
    rw [Int.pow_zero]
    show (1 : Int) ≤ pf_eC _ _ _ _ _ _
    unfold pf_eC
    rw [if_pos (by rw [show (n - (0 : Nat)).toNat = n.toNat by omega]; rfl)]
    omega
  | r + 1, h => by
    have ih := pf_VO_ge (K := K) (F := F) (S := S) (x := x) hp hn r (by omega)
    have h0 := (pf_VO_R (K := K) (F := F) (S := S) (n := n) (x := x) (e := pf_eC K n (pf_reck K F S x n) 1 0) hp (fun s _ _ => by unfold pf_eC; split <;> omega) r (pf_fol K F S (pf_rec K F S x n (n - ((r + 1 : Nat) : Int)).toNat) (n - 1 - r) ((x (n - 1 - r) + 1) % 10) n) (pf_fol_R _ _ _ _ _ _ _)).1
    show _ ≤ p * pf_VO K F S n p x _ r _ + (12 - p) * pf_VO K F S n p x _ r (pf_fol K F S (pf_rec K F S x n (n - ((r + 1 : Nat) : Int)).toNat) (n - 1 - r) (x (n - 1 - r)) n)
    have e : pf_fol K F S (pf_rec K F S x n (n - ((r + 1 : Nat) : Int)).toNat) (n - 1 - r) (x (n - 1 - r)) n = pf_rec K F S x n (n - r).toNat := by
      rw [show (n - r).toNat = (n - ((r + 1 : Nat) : Int)).toNat + 1 by omega]
      show _ = pf_fol _ _ _ _ (((n - ((r + 1 : Nat) : Int)).toNat : Nat) : Int) (x (((n - ((r + 1 : Nat) : Int)).toNat : Nat) : Int)) n
      rw [show (((n - ((r + 1 : Nat) : Int)).toNat : Nat) : Int) = n - 1 - r by omega]
    rw [e, Int.pow_succ, Int.mul_comm]
    have h1 : 0 ≤ p * pf_VO K F S n p x (pf_eC K n (pf_reck K F S x n) 1 0) r (pf_fol K F S (pf_rec K F S x n (n - ((r + 1 : Nat) : Int)).toNat) (n - 1 - r) ((x (n - 1 - r) + 1) % 10) n) := Int.mul_nonneg hp.1 h0
    have h2 := Int.mul_le_mul_of_nonneg_left ih (show 0 ≤ 12 - p by omega)
    omega
theorem dd_Fi_kinds_0 : decode cc_Fi_kinds 0 = .ok (.aload_n 0, 1) := by decide +kernel
theorem dd_Fi_kinds_1 : decode cc_Fi_kinds 1 = .ok (.iload_n 1, 1) := by decide +kernel
theorem dd_Fi_kinds_2 : decode cc_Fi_kinds 2 = .ok (.invokevirtual 143, 3) := by decide +kernel
theorem dd_Fi_kinds_5 : decode cc_Fi_kinds 5 = .ok (.ifCond .eq 12, 3) := by decide +kernel
theorem dd_Fi_kinds_8 : decode cc_Fi_kinds 8 = .ok (.iload_n 2, 1) := by decide +kernel
theorem dd_Fi_kinds_9 : decode cc_Fi_kinds 9 = .ok (.bipush 6, 2) := by decide +kernel
theorem dd_Fi_kinds_11 : decode cc_Fi_kinds 11 = .ok (.invokestatic 78, 3) := by decide +kernel
theorem dd_Fi_kinds_14 : decode cc_Fi_kinds 14 = .ok (.ifCond .ne 5, 3) := by decide +kernel
theorem dd_Fi_kinds_17 : decode cc_Fi_kinds 17 = .ok (.iconst (-1), 1) := by decide +kernel
theorem dd_Fi_kinds_18 : decode cc_Fi_kinds 18 = .ok (.ireturn, 1) := by decide +kernel
theorem dd_Fi_kinds_19 : decode cc_Fi_kinds 19 = .ok (.aload_n 0, 1) := by decide +kernel
theorem dd_Fi_kinds_20 : decode cc_Fi_kinds 20 = .ok (.aload_n 0, 1) := by decide +kernel
theorem dd_Fi_kinds_21 : decode cc_Fi_kinds 21 = .ok (.getfield 11, 3) := by decide +kernel
theorem dd_Fi_kinds_24 : decode cc_Fi_kinds 24 = .ok (.iload_n 2, 1) := by decide +kernel
theorem dd_Fi_kinds_25 : decode cc_Fi_kinds 25 = .ok (.aaload, 1) := by decide +kernel
theorem dd_Fi_kinds_26 : decode cc_Fi_kinds 26 = .ok (.invokevirtual 241, 3) := by decide +kernel
theorem dd_Fi_kinds_29 : decode cc_Fi_kinds 29 = .ok (.istore_n 3, 1) := by decide +kernel
theorem dd_Fi_kinds_30 : decode cc_Fi_kinds 30 = .ok (.iload_n 3, 1) := by decide +kernel
theorem dd_Fi_kinds_31 : decode cc_Fi_kinds 31 = .ok (.ifCond .eq 7, 3) := by decide +kernel
theorem dd_Fi_kinds_34 : decode cc_Fi_kinds 34 = .ok (.iload_n 3, 1) := by decide +kernel
theorem dd_Fi_kinds_35 : decode cc_Fi_kinds 35 = .ok (.goto 19, 3) := by decide +kernel
theorem dd_Fi_kinds_38 : decode cc_Fi_kinds 38 = .ok (.aload_n 0, 1) := by decide +kernel
theorem dd_Fi_kinds_39 : decode cc_Fi_kinds 39 = .ok (.aload_n 0, 1) := by decide +kernel
theorem dd_Fi_kinds_40 : decode cc_Fi_kinds 40 = .ok (.getfield 23, 3) := by decide +kernel
theorem dd_Fi_kinds_43 : decode cc_Fi_kinds 43 = .ok (.iload_n 1, 1) := by decide +kernel
theorem dd_Fi_kinds_44 : decode cc_Fi_kinds 44 = .ok (.aaload, 1) := by decide +kernel
theorem dd_Fi_kinds_45 : decode cc_Fi_kinds 45 = .ok (.aload_n 0, 1) := by decide +kernel
theorem dd_Fi_kinds_46 : decode cc_Fi_kinds 46 = .ok (.getfield 11, 3) := by decide +kernel
theorem dd_Fi_kinds_49 : decode cc_Fi_kinds 49 = .ok (.iload_n 2, 1) := by decide +kernel
theorem dd_Fi_kinds_50 : decode cc_Fi_kinds 50 = .ok (.aaload, 1) := by decide +kernel
theorem dd_Fi_kinds_51 : decode cc_Fi_kinds 51 = .ok (.invokevirtual 244, 3) := by decide +kernel
theorem dd_Fi_kinds_54 : decode cc_Fi_kinds 54 = .ok (.ireturn, 1) := by decide +kernel
set_option maxRecDepth 100000 in
set_option maxHeartbeats 4000000 in
theorem ct_Fi_kinds (l : Launch) (E : gf_E) (i r : Int) (μ : gf_M) (hi : gf_R i) (hr : gf_R r) (hc7 : 0 ≤ μ 0 3 ∧ μ 0 3 ≤ 7) (hG : gf_okGs μ (μ 0 3)) (hs : 0 ≤ μ 41 1 ∧ μ 41 1 ≤ 8) (hF : gf_okF μ 42 (μ 41 1))(hrw : ∀ r : Int, 0 ≤ r → r < 6 → -1 ≤ μ (2 + 2 * r) 1 ∧ μ (2 + 2 * r) 1 ≤ 40) : gf_Mi l E yy_Fi_kinds cc_Fi_kinds 4 .int (gf_rm 5 115) 81 gf_ref μ [.ref (gf_ad E 0), .int (gf_i i), .int (gf_i r)] (fun q μ' => (¬ (0 ≤ i ∧ i < μ 0 3 ∧ 0 ≤ r ∧ r < 6) → q = -1 ∧ μ' = μ) ∧ (0 ≤ i ∧ i < μ 0 3 ∧ 0 ≤ r ∧ r < 6 → (μ (2 + 2 * r) 1 = -1 → q = -3 ∧ μ' = gf_fd μ 1) ∧ (μ (2 + 2 * r) 1 ≠ -1 → (¬ (2 ≤ μ (2 + 2 * r) 1 ∧ μ (2 + 2 * r) 1 ≤ 9) → q = -3 ∧ μ' = gf_fd μ 5) ∧ (2 ≤ μ (2 + 2 * r) 1 ∧ μ (2 + 2 * r) 1 ≤ 9 → (¬ pf_eok (μ (3 + 2 * r)) (μ (2 + 2 * r) 1) → q = -3 ∧ μ' = gf_fd μ 3) ∧ (pf_eok (μ (3 + 2 * r)) (μ (2 + 2 * r) 1) → q = pf_ksB (μ (24 + i) 1) (μ (24 + i) 2) (μ (3 + 2 * r)) (μ (2 + 2 * r) 1) ∧ gf_sc μ' μ))))) := by
  refine gf_mi (by decide +kernel) (Nat.le_of_ble_eq_true rfl) (by decide) (fun X Q hlx C hQ => ?_)
  subst hlx
  replace C : gf_C X E cc_Fi_kinds 4 "GuardFigures" (gf_rm 5 115) := C
  show gf_G X E Q 4 gf_φ μ 0 [(0, .ref (gf_ad E 0)), (1, .int (gf_i i)), (2, .int (gf_i r))] []
  refine gf_aload_n C dd_Fi_kinds_0 0 rfl ?_
  refine gf_iload_n C dd_Fi_kinds_1 1 rfl ?_
  refine gf_callVi (st := []) (As := [.int (gf_i i)]) C wk_Fi_143 gf_cl6 (show gf_is 81 0 0 6 17 by decide) (ct_Fi_isGuard (gf_xl X) E i μ (by omega)) rfl ⟨rfl, rfl, rfl, rfl⟩ (Nat.le_of_ble_eq_true rfl) rfl dd_Fi_kinds_2 (fun r2 m2 hR2 hp2 => ?_)
  have hr2 := hp2.1
  refine gf_pm hp2.2 ?_
  refine gf_if_eq 17 C dd_Fi_kinds_5 (by decide) (by omega) (fun h5 => ?_) (fun h5 => ?_)
  · skip
    refine gf_iconst C dd_Fi_kinds_17 ?_
    refine gf_iret C hQ dd_Fi_kinds_18 (by omega) ?_
    exact ⟨fun _ => ⟨rfl, rfl⟩, fun h => absurd h (by omega)⟩
  · skip
    refine gf_iload_n C dd_Fi_kinds_8 2 rfl ?_
    refine gf_bipush C dd_Fi_kinds_9 (by decide +kernel) ?_
    refine gf_callSi (st := []) (As := [.int (gf_i r), .int (gf_i 6)]) C wk_Fi_78 (ct_Fi_isWithin (gf_xl X) E r 6 μ (by omega) (by omega)) rfl ⟨rfl, rfl, rfl, rfl⟩ (Nat.le_of_ble_eq_true rfl) rfl dd_Fi_kinds_11 (fun r11 m11 hR11 hp11 => ?_)
    have hr11 := hp11.1
    refine gf_pm hp11.2 ?_
    refine gf_if_ne 19 C dd_Fi_kinds_14 (by decide) (by omega) (fun h14 => ?_) (fun h14 => ?_)
    · skip
      have hin : 0 ≤ i ∧ i < μ 0 3 := by have := hr2.1; have := hr2.2; omega
      have hin2 : 0 ≤ r ∧ r < 6 := by have := hr11.1; have := hr11.2; omega
      clear hr2 hr11 hp2 hp11
      have hGi := hG i hin.1 hin.2
      have hrr := hrw r hin2.1 hin2.2
      have e3 : (2 + 2 * r + 1 : Int) = 3 + 2 * r := by omega
      refine gf_aload_n C dd_Fi_kinds_19 0 rfl ?_
      refine gf_aload_n C dd_Fi_kinds_20 0 rfl ?_
      refine gf_getA (r := 1) C gf_cl6 fl_Fi_11 dd_Fi_kinds_21 rfl (show gf_is 81 0 0 6 17 by decide) (by decide) (by decide) ?_
      refine gf_iload_n C dd_Fi_kinds_24 2 rfl ?_
      have ha25 := gf_row_of (r := r) (by omega)
      refine gf_aald C dd_Fi_kinds_25 (show gf_is 81 1 4 3 6 by decide) (by decide) (by omega) ha25.1 (by first | omega | exact ha25.2.1.1 | exact ha25.2.1) ?_
      refine gf_callVi (st := []) (As := [.ref (gf_ad E (2 + 2 * r))]) C wk_Fi_241 gf_cl6 (show gf_is 81 0 0 6 17 by decide) (ct_Fi_refusedExample (gf_xl X) E (2 + 2 * r) μ ha25.2 (by omega)) rfl ⟨rfl, rfl, rfl, rfl⟩ (Nat.le_of_ble_eq_true rfl) rfl dd_Fi_kinds_26 (fun r26 m26 hR26 hp26 => ?_)
      refine gf_istore_n (lv' := [(3, .int (gf_i r26)), (0, .ref (gf_ad E 0)), (1, .int (gf_i i)), (2, .int (gf_i r))]) C dd_Fi_kinds_29 (by decide) rfl ?_
      refine gf_iload_n C dd_Fi_kinds_30 0 rfl ?_
      refine gf_if_eq 38 C dd_Fi_kinds_31 (by decide) (by omega) (fun h31 => ?_) (fun h31 => ?_)
      · skip
        rw [e3] at hp26
        have hth : μ (2 + 2 * r) 1 ≠ -1 := fun h => by have := (hp26.1 h).1; omega
        have hx2 := hp26.2 hth
        have hsz : 2 ≤ μ (2 + 2 * r) 1 ∧ μ (2 + 2 * r) 1 ≤ 9 := by
          rcases Classical.em (2 ≤ μ (2 + 2 * r) 1 ∧ μ (2 + 2 * r) 1 ≤ 9) with h | h
          · exact h
          · have := (hx2.1 h).1; omega
        have heo : pf_eok (μ (3 + 2 * r)) (μ (2 + 2 * r) 1) := by
          rcases Classical.em (pf_eok (μ (3 + 2 * r)) (μ (2 + 2 * r) 1)) with h | h
          · exact h
          · have := ((hx2.2 hsz).1 h).1; omega
        have hmm := ((hx2.2 hsz).2 heo).2
        have hmm2 := hmm.symm
        subst hmm2
        clear hp26 hx2 hmm
        refine gf_aload_n C dd_Fi_kinds_38 1 rfl ?_
        refine gf_aload_n C dd_Fi_kinds_39 1 rfl ?_
        refine gf_getA (r := 23) C gf_cl6 fl_Fi_23 dd_Fi_kinds_40 rfl (show gf_is 81 0 0 6 17 by decide) (by decide) (by decide) ?_
        refine gf_iload_n C dd_Fi_kinds_43 2 rfl ?_
        have ha44 := gf_guard_of (r := i) (by omega)
        refine gf_aald C dd_Fi_kinds_44 (show gf_is 81 23 4 4 7 by decide) (by decide) (by omega) ha44.1 (by first | omega | exact ha44.2.1.1 | exact ha44.2.1) ?_
        refine gf_aload_n C dd_Fi_kinds_45 1 rfl ?_
        refine gf_getA (r := 1) C gf_cl6 fl_Fi_11 dd_Fi_kinds_46 rfl (show gf_is 81 0 0 6 17 by decide) (by decide) (by decide) ?_
        refine gf_iload_n C dd_Fi_kinds_49 3 rfl ?_
        have ha50 := gf_row_of (r := r) (by omega)
        refine gf_aald C dd_Fi_kinds_50 (show gf_is 81 1 4 3 6 by decide) (by decide) (by omega) ha50.1 (by first | omega | exact ha50.2.1.1 | exact ha50.2.1) ?_
        refine gf_callVi (st := []) (As := [.ref (gf_ad E (24 + i)), .ref (gf_ad E (2 + 2 * r))]) C wk_Fi_244 gf_cl6 (show gf_is 81 0 0 6 17 by decide) (ct_Fi_kindsBy (gf_xl X) E (24 + i) (2 + 2 * r) μ ha44.2 (by omega) hGi ha50.2 (by omega) hsz (by rw [e3]; exact heo)) rfl ⟨rfl, rfl, rfl, rfl⟩ (Nat.le_of_ble_eq_true rfl) rfl dd_Fi_kinds_51 (fun r51 m51 hR51 hp51 => ?_)
        refine gf_iret C hQ dd_Fi_kinds_54 (by omega) ?_
        first
          | (obtain ⟨hka, hkb⟩ := hp51
             have hke := hka.1
             rw [e3] at hke
             exact ⟨fun h => absurd h (by omega), fun _ => ⟨fun h => absurd h hth, fun _ => ⟨fun h => absurd hsz h, fun _ => ⟨fun h => absurd heo h, fun _ => ⟨hke, fun a b h => hkb a b (by omega)⟩⟩⟩⟩⟩)
          | (rw [e3] at hp26
             have hne : ¬ r26 = 0 := by omega
             exact ⟨fun h => absurd h (by omega), fun _ => ⟨hp26.1, fun h => ⟨(hp26.2 h).1, fun h2 => ⟨((hp26.2 h).2 h2).1, fun h3 => absurd (((hp26.2 h).2 h2).2 h3).1 hne⟩⟩⟩⟩)
      · skip
        refine gf_iload_n C dd_Fi_kinds_34 0 rfl ?_
        refine gf_goto 54 C dd_Fi_kinds_35 (by decide) ?_
        refine gf_iret C hQ dd_Fi_kinds_54 (by omega) ?_
        first
          | (obtain ⟨hka, hkb⟩ := hp51
             have hke := hka.1
             rw [e3] at hke
             exact ⟨fun h => absurd h (by omega), fun _ => ⟨fun h => absurd h hth, fun _ => ⟨fun h => absurd hsz h, fun _ => ⟨fun h => absurd heo h, fun _ => ⟨hke, fun a b h => hkb a b (by omega)⟩⟩⟩⟩⟩)
          | (rw [e3] at hp26
             have hne : ¬ r26 = 0 := by omega
             exact ⟨fun h => absurd h (by omega), fun _ => ⟨hp26.1, fun h => ⟨(hp26.2 h).1, fun h2 => ⟨((hp26.2 h).2 h2).1, fun h3 => absurd (((hp26.2 h).2 h2).2 h3).1 hne⟩⟩⟩⟩)
    · skip
      refine gf_iconst C dd_Fi_kinds_17 ?_
      refine gf_iret C hQ dd_Fi_kinds_18 (by omega) ?_
      exact ⟨fun _ => ⟨rfl, rfl⟩, fun h => absurd h (by omega)⟩

theorem dd_Fi_firsts_0 : decode cc_Fi_firsts 0 = .ok (.aload_n 0, 1) := by decide +kernel
theorem dd_Fi_firsts_1 : decode cc_Fi_firsts 1 = .ok (.iload_n 1, 1) := by decide +kernel
theorem dd_Fi_firsts_2 : decode cc_Fi_firsts 2 = .ok (.invokevirtual 143, 3) := by decide +kernel
theorem dd_Fi_firsts_5 : decode cc_Fi_firsts 5 = .ok (.ifCond .eq 12, 3) := by decide +kernel
theorem dd_Fi_firsts_8 : decode cc_Fi_firsts 8 = .ok (.iload_n 2, 1) := by decide +kernel
theorem dd_Fi_firsts_9 : decode cc_Fi_firsts 9 = .ok (.bipush 6, 2) := by decide +kernel
theorem dd_Fi_firsts_11 : decode cc_Fi_firsts 11 = .ok (.invokestatic 78, 3) := by decide +kernel
theorem dd_Fi_firsts_14 : decode cc_Fi_firsts 14 = .ok (.ifCond .ne 5, 3) := by decide +kernel
theorem dd_Fi_firsts_17 : decode cc_Fi_firsts 17 = .ok (.iconst (-1), 1) := by decide +kernel
theorem dd_Fi_firsts_18 : decode cc_Fi_firsts 18 = .ok (.ireturn, 1) := by decide +kernel
theorem dd_Fi_firsts_19 : decode cc_Fi_firsts 19 = .ok (.aload_n 0, 1) := by decide +kernel
theorem dd_Fi_firsts_20 : decode cc_Fi_firsts 20 = .ok (.aload_n 0, 1) := by decide +kernel
theorem dd_Fi_firsts_21 : decode cc_Fi_firsts 21 = .ok (.getfield 11, 3) := by decide +kernel
theorem dd_Fi_firsts_24 : decode cc_Fi_firsts 24 = .ok (.iload_n 2, 1) := by decide +kernel
theorem dd_Fi_firsts_25 : decode cc_Fi_firsts 25 = .ok (.aaload, 1) := by decide +kernel
theorem dd_Fi_firsts_26 : decode cc_Fi_firsts 26 = .ok (.invokevirtual 241, 3) := by decide +kernel
theorem dd_Fi_firsts_29 : decode cc_Fi_firsts 29 = .ok (.istore_n 3, 1) := by decide +kernel
theorem dd_Fi_firsts_30 : decode cc_Fi_firsts 30 = .ok (.iload_n 3, 1) := by decide +kernel
theorem dd_Fi_firsts_31 : decode cc_Fi_firsts 31 = .ok (.ifCond .eq 5, 3) := by decide +kernel
theorem dd_Fi_firsts_34 : decode cc_Fi_firsts 34 = .ok (.iload_n 3, 1) := by decide +kernel
theorem dd_Fi_firsts_35 : decode cc_Fi_firsts 35 = .ok (.ireturn, 1) := by decide +kernel
theorem dd_Fi_firsts_36 : decode cc_Fi_firsts 36 = .ok (.iconst 0, 1) := by decide +kernel
theorem dd_Fi_firsts_37 : decode cc_Fi_firsts 37 = .ok (.istore 4, 2) := by decide +kernel
theorem dd_Fi_firsts_39 : decode cc_Fi_firsts 39 = .ok (.aload_n 0, 1) := by decide +kernel
theorem dd_Fi_firsts_40 : decode cc_Fi_firsts 40 = .ok (.getfield 60, 3) := by decide +kernel
theorem dd_Fi_firsts_43 : decode cc_Fi_firsts 43 = .ok (.aload_n 0, 1) := by decide +kernel
theorem dd_Fi_firsts_44 : decode cc_Fi_firsts 44 = .ok (.getfield 23, 3) := by decide +kernel
theorem dd_Fi_firsts_47 : decode cc_Fi_firsts 47 = .ok (.iload_n 1, 1) := by decide +kernel
theorem dd_Fi_firsts_48 : decode cc_Fi_firsts 48 = .ok (.aaload, 1) := by decide +kernel
theorem dd_Fi_firsts_49 : decode cc_Fi_firsts 49 = .ok (.invokevirtual 133, 3) := by decide +kernel
theorem dd_Fi_firsts_52 : decode cc_Fi_firsts 52 = .ok (.iconst 0, 1) := by decide +kernel
theorem dd_Fi_firsts_53 : decode cc_Fi_firsts 53 = .ok (.istore 5, 2) := by decide +kernel
theorem dd_Fi_firsts_55 : decode cc_Fi_firsts 55 = .ok (.iload 5, 2) := by decide +kernel
theorem dd_Fi_firsts_57 : decode cc_Fi_firsts 57 = .ok (.bipush 10, 2) := by decide +kernel
theorem dd_Fi_firsts_59 : decode cc_Fi_firsts 59 = .ok (.if_icmp .ge 43, 3) := by decide +kernel
theorem dd_Fi_firsts_62 : decode cc_Fi_firsts 62 = .ok (.aload_n 0, 1) := by decide +kernel
theorem dd_Fi_firsts_63 : decode cc_Fi_firsts 63 = .ok (.getfield 60, 3) := by decide +kernel
theorem dd_Fi_firsts_66 : decode cc_Fi_firsts 66 = .ok (.iload 5, 2) := by decide +kernel
theorem dd_Fi_firsts_68 : decode cc_Fi_firsts 68 = .ok (.putfield 248, 3) := by decide +kernel
theorem dd_Fi_firsts_71 : decode cc_Fi_firsts 71 = .ok (.aload_n 0, 1) := by decide +kernel
theorem dd_Fi_firsts_72 : decode cc_Fi_firsts 72 = .ok (.getfield 60, 3) := by decide +kernel
theorem dd_Fi_firsts_75 : decode cc_Fi_firsts 75 = .ok (.aload_n 0, 1) := by decide +kernel
theorem dd_Fi_firsts_76 : decode cc_Fi_firsts 76 = .ok (.getfield 11, 3) := by decide +kernel
theorem dd_Fi_firsts_79 : decode cc_Fi_firsts 79 = .ok (.iload_n 2, 1) := by decide +kernel
theorem dd_Fi_firsts_80 : decode cc_Fi_firsts 80 = .ok (.aaload, 1) := by decide +kernel
theorem dd_Fi_firsts_81 : decode cc_Fi_firsts 81 = .ok (.invokestatic 251, 3) := by decide +kernel
theorem dd_Fi_firsts_84 : decode cc_Fi_firsts 84 = .ok (.ifCond .eq 12, 3) := by decide +kernel
theorem dd_Fi_firsts_87 : decode cc_Fi_firsts 87 = .ok (.iload 4, 2) := by decide +kernel
theorem dd_Fi_firsts_89 : decode cc_Fi_firsts 89 = .ok (.iconst 1, 1) := by decide +kernel
theorem dd_Fi_firsts_90 : decode cc_Fi_firsts 90 = .ok (.iload 5, 2) := by decide +kernel
theorem dd_Fi_firsts_92 : decode cc_Fi_firsts 92 = .ok (.ishl, 1) := by decide +kernel
theorem dd_Fi_firsts_93 : decode cc_Fi_firsts 93 = .ok (.ior, 1) := by decide +kernel
theorem dd_Fi_firsts_94 : decode cc_Fi_firsts 94 = .ok (.istore 4, 2) := by decide +kernel
theorem dd_Fi_firsts_96 : decode cc_Fi_firsts 96 = .ok (.iinc 5 1, 3) := by decide +kernel
theorem dd_Fi_firsts_99 : decode cc_Fi_firsts 99 = .ok (.goto (-44), 3) := by decide +kernel
theorem dd_Fi_firsts_102 : decode cc_Fi_firsts 102 = .ok (.iload 4, 2) := by decide +kernel
theorem dd_Fi_firsts_104 : decode cc_Fi_firsts 104 = .ok (.ireturn, 1) := by decide +kernel
set_option maxRecDepth 100000 in
set_option maxHeartbeats 4000000 in
theorem ct_Fi_firsts (l : Launch) (E : gf_E) (i r : Int) (μ : gf_M) (hi : gf_R i) (hr : gf_R r) (hc7 : 0 ≤ μ 0 3 ∧ μ 0 3 ≤ 7) (hG : gf_okGs μ (μ 0 3)) (hs : 0 ≤ μ 41 1 ∧ μ 41 1 ≤ 8) (hF : gf_okF μ 42 (μ 41 1))(hrw : ∀ r : Int, 0 ≤ r → r < 6 → -1 ≤ μ (2 + 2 * r) 1 ∧ μ (2 + 2 * r) 1 ≤ 40) : gf_Mi l E yy_Fi_firsts cc_Fi_firsts 6 .int (gf_rm 4 91) 81 gf_ref μ [.ref (gf_ad E 0), .int (gf_i i), .int (gf_i r)] (fun q μ' => (¬ (0 ≤ i ∧ i < μ 0 3 ∧ 0 ≤ r ∧ r < 6) → q = -1 ∧ μ' = μ) ∧ (0 ≤ i ∧ i < μ 0 3 ∧ 0 ≤ r ∧ r < 6 → (μ (2 + 2 * r) 1 = -1 → q = -3 ∧ μ' = gf_fd μ 1) ∧ (μ (2 + 2 * r) 1 ≠ -1 → (¬ (2 ≤ μ (2 + 2 * r) 1 ∧ μ (2 + 2 * r) 1 ≤ 9) → q = -3 ∧ μ' = gf_fd μ 5) ∧ (2 ≤ μ (2 + 2 * r) 1 ∧ μ (2 + 2 * r) 1 ≤ 9 → (¬ pf_eok (μ (3 + 2 * r)) (μ (2 + 2 * r) 1) → q = -3 ∧ μ' = gf_fd μ 3) ∧ (pf_eok (μ (3 + 2 * r)) (μ (2 + 2 * r) 1) → q = pf_set (fun f => decide (pf_reck (μ (24 + i) 0) f (μ (24 + i) 2) (μ (3 + 2 * r)) (μ (2 + 2 * r) 1 - 1) = μ (3 + 2 * r) (μ (2 + 2 * r) 1 - 1))) 10 ∧ gf_sc μ' μ))))) := by
  refine gf_mi (by decide +kernel) (Nat.le_of_ble_eq_true rfl) (by decide) (fun X Q hlx C hQ => ?_)
  subst hlx
  replace C : gf_C X E cc_Fi_firsts 6 "GuardFigures" (gf_rm 4 91) := C
  show gf_G X E Q 6 gf_φ μ 0 [(0, .ref (gf_ad E 0)), (1, .int (gf_i i)), (2, .int (gf_i r))] []
  refine gf_aload_n C dd_Fi_firsts_0 0 rfl ?_
  refine gf_iload_n C dd_Fi_firsts_1 1 rfl ?_
  refine gf_callVi (st := []) (As := [.int (gf_i i)]) C wk_Fi_143 gf_cl6 (show gf_is 81 0 0 6 17 by decide) (ct_Fi_isGuard (gf_xl X) E i μ (by omega)) rfl ⟨rfl, rfl, rfl, rfl⟩ (Nat.le_of_ble_eq_true rfl) rfl dd_Fi_firsts_2 (fun r2 m2 hR2 hp2 => ?_)
  have hr2 := hp2.1
  refine gf_pm hp2.2 ?_
  refine gf_if_eq 17 C dd_Fi_firsts_5 (by decide) (by omega) (fun h5 => ?_) (fun h5 => ?_)
  · skip
    refine gf_iconst C dd_Fi_firsts_17 ?_
    refine gf_iret C hQ dd_Fi_firsts_18 (by omega) ?_
    exact ⟨fun _ => ⟨rfl, rfl⟩, fun h => absurd h (by omega)⟩
  · skip
    refine gf_iload_n C dd_Fi_firsts_8 2 rfl ?_
    refine gf_bipush C dd_Fi_firsts_9 (by decide +kernel) ?_
    refine gf_callSi (st := []) (As := [.int (gf_i r), .int (gf_i 6)]) C wk_Fi_78 (ct_Fi_isWithin (gf_xl X) E r 6 μ (by omega) (by omega)) rfl ⟨rfl, rfl, rfl, rfl⟩ (Nat.le_of_ble_eq_true rfl) rfl dd_Fi_firsts_11 (fun r11 m11 hR11 hp11 => ?_)
    have hr11 := hp11.1
    refine gf_pm hp11.2 ?_
    refine gf_if_ne 19 C dd_Fi_firsts_14 (by decide) (by omega) (fun h14 => ?_) (fun h14 => ?_)
    · skip
      have hin : 0 ≤ i ∧ i < μ 0 3 := by have := hr2.1; have := hr2.2; omega
      have hin2 : 0 ≤ r ∧ r < 6 := by have := hr11.1; have := hr11.2; omega
      clear hr2 hr11 hp2 hp11
      have hGi := hG i hin.1 hin.2
      have hrr := hrw r hin2.1 hin2.2
      have e3 : (2 + 2 * r + 1 : Int) = 3 + 2 * r := by omega
      refine gf_aload_n C dd_Fi_firsts_19 0 rfl ?_
      refine gf_aload_n C dd_Fi_firsts_20 0 rfl ?_
      refine gf_getA (r := 1) C gf_cl6 fl_Fi_11 dd_Fi_firsts_21 rfl (show gf_is 81 0 0 6 17 by decide) (by decide) (by decide) ?_
      refine gf_iload_n C dd_Fi_firsts_24 2 rfl ?_
      have ha25 := gf_row_of (r := r) (by omega)
      refine gf_aald C dd_Fi_firsts_25 (show gf_is 81 1 4 3 6 by decide) (by decide) (by omega) ha25.1 (by first | omega | exact ha25.2.1.1 | exact ha25.2.1) ?_
      refine gf_callVi (st := []) (As := [.ref (gf_ad E (2 + 2 * r))]) C wk_Fi_241 gf_cl6 (show gf_is 81 0 0 6 17 by decide) (ct_Fi_refusedExample (gf_xl X) E (2 + 2 * r) μ ha25.2 (by omega)) rfl ⟨rfl, rfl, rfl, rfl⟩ (Nat.le_of_ble_eq_true rfl) rfl dd_Fi_firsts_26 (fun r26 m26 hR26 hp26 => ?_)
      refine gf_istore_n (lv' := [(3, .int (gf_i r26)), (0, .ref (gf_ad E 0)), (1, .int (gf_i i)), (2, .int (gf_i r))]) C dd_Fi_firsts_29 (by decide) rfl ?_
      refine gf_iload_n C dd_Fi_firsts_30 0 rfl ?_
      refine gf_if_eq 36 C dd_Fi_firsts_31 (by decide) (by omega) (fun h31 => ?_) (fun h31 => ?_)
      · skip
        rw [e3] at hp26
        have hth : μ (2 + 2 * r) 1 ≠ -1 := fun h => by have := (hp26.1 h).1; omega
        have hx2 := hp26.2 hth
        have hsz : 2 ≤ μ (2 + 2 * r) 1 ∧ μ (2 + 2 * r) 1 ≤ 9 := by
          rcases Classical.em (2 ≤ μ (2 + 2 * r) 1 ∧ μ (2 + 2 * r) 1 ≤ 9) with h | h
          · exact h
          · have := (hx2.1 h).1; omega
        have heo : pf_eok (μ (3 + 2 * r)) (μ (2 + 2 * r) 1) := by
          rcases Classical.em (pf_eok (μ (3 + 2 * r)) (μ (2 + 2 * r) 1)) with h | h
          · exact h
          · have := ((hx2.2 hsz).1 h).1; omega
        have hmm := ((hx2.2 hsz).2 heo).2
        have hmm2 := hmm.symm
        subst hmm2
        clear hp26 hx2 hmm
        refine gf_iconst C dd_Fi_firsts_36 ?_
        refine gf_istore (lv' := [(4, .int (gf_i 0)), (3, .int (gf_i r26)), (0, .ref (gf_ad E 0)), (1, .int (gf_i i)), (2, .int (gf_i r))]) C dd_Fi_firsts_37 (by decide) rfl ?_
        refine gf_aload_n C dd_Fi_firsts_39 2 rfl ?_
        refine gf_getA (r := 61) C gf_cl6 fl_Fi_60 dd_Fi_firsts_40 rfl (show gf_is 81 0 0 6 17 by decide) (by decide) (by decide) ?_
        refine gf_aload_n C dd_Fi_firsts_43 2 rfl ?_
        refine gf_getA (r := 23) C gf_cl6 fl_Fi_23 dd_Fi_firsts_44 rfl (show gf_is 81 0 0 6 17 by decide) (by decide) (by decide) ?_
        refine gf_iload_n C dd_Fi_firsts_47 3 rfl ?_
        have ha48 := gf_guard_of (r := i) (by omega)
        refine gf_aald C dd_Fi_firsts_48 (show gf_is 81 23 4 4 7 by decide) (by decide) (by omega) ha48.1 (by first | omega | exact ha48.2.1.1 | exact ha48.2.1) ?_
        refine gf_callVv (st := []) (As := [.ref (gf_ad E (24 + i))]) C wk_Fi_133 gf_cl0 (show gf_is 81 61 0 0 3 by decide) (ct_Gd_resemble (gf_xl X) E 61 (24 + i) μ (show gf_is 81 61 0 0 3 by decide) ha48.2) rfl ⟨rfl, rfl, rfl, rfl⟩ (Nat.le_of_ble_eq_true rfl) rfl dd_Fi_firsts_49 (fun m49 hp49 => ?_)
        have f7 : ∀ x y : Int, x ≠ 61 → m49 x y = μ x y := fun x y h => by rw [hp49, gf_up_k h, gf_up_k h, gf_up_k h]
        have f70 : m49 61 0 = μ (24 + i) 0 := by rw [hp49, gf_up_j (by decide), gf_up_j (by decide)]; exact gf_up_s
        have f72 : m49 61 2 = μ (24 + i) 2 := by rw [hp49]; exact gf_up_s
        refine gf_iconst C dd_Fi_firsts_52 ?_
        refine gf_istore (lv' := [(5, .int (gf_i 0)), (4, .int (gf_i 0)), (3, .int (gf_i r26)), (0, .ref (gf_ad E 0)), (1, .int (gf_i i)), (2, .int (gf_i r))]) C dd_Fi_firsts_53 (by decide) rfl ?_
        have L55_1 : ∀ (N : Nat) (s f : Int) (m : gf_M) , (0 ≤ f ∧ f ≤ 10 ∧ s = pf_set (fun f => decide (pf_reck (μ (24 + i) 0) f (μ (24 + i) 2) (μ (3 + 2 * r)) (μ (2 + 2 * r) 1 - 1) = μ (3 + 2 * r) (μ (2 + 2 * r) 1 - 1))) f.toNat ∧ m 61 0 = μ (24 + i) 0 ∧ m 61 2 = μ (24 + i) 2 ∧ ∀ x y : Int, x ≠ 61 → m x y = μ x y) → (10 - f).toNat < N → gf_G X E Q 6 gf_φ m 55 [(4, .int (gf_i s)), (5, .int (gf_i f)), (3, .int (gf_i r26)), (0, .ref (gf_ad E 0)), (1, .int (gf_i i)), (2, .int (gf_i r))] [] := by
          intro N
          induction N with
          | zero => intro s f m hinv hN; exact absurd hN (Nat.not_lt_zero _)
          | succ N ih55_1 =>
            intro s f m hinv hN
            have hinv0 := hinv
            obtain ⟨hf0, hf1, hs3, h610, h612, hfr⟩ := hinv
            have hsR := pf_set_R (fun f => decide (pf_reck (μ (24 + i) 0) f (μ (24 + i) 2) (μ (3 + 2 * r)) (μ (2 + 2 * r) 1 - 1) = μ (3 + 2 * r) (μ (2 + 2 * r) 1 - 1))) f.toNat
            rw [← hs3] at hsR
            have h210 := pf_2_10 (n := f.toNat) (by omega)
            refine gf_iload C dd_Fi_firsts_55 1 rfl ?_
            refine gf_bipush C dd_Fi_firsts_57 (by decide +kernel) ?_
            refine gf_icmp_ge 102 C dd_Fi_firsts_59 (by decide) (by omega) (by omega) (fun h59 => ?_) (fun h59 => ?_)
            · skip
              refine gf_iload C dd_Fi_firsts_102 0 rfl ?_
              refine gf_iret C hQ dd_Fi_firsts_104 (by omega) ?_
              have e10 : f.toNat = 10 := by omega
              rw [e10] at hs3
              exact ⟨fun h => absurd h (by omega), fun _ => ⟨fun h => absurd h hth, fun _ => ⟨fun h => absurd hsz h, fun _ => ⟨fun h => absurd heo h, fun _ => ⟨hs3, fun a b h => hfr a b (by omega)⟩⟩⟩⟩⟩
            · skip
              refine gf_aload_n C dd_Fi_firsts_62 3 rfl ?_
              refine gf_getA (r := 61) C gf_cl6 fl_Fi_60 dd_Fi_firsts_63 rfl (show gf_is 81 0 0 6 17 by decide) (by decide) (by decide) ?_
              refine gf_iload C dd_Fi_firsts_66 1 rfl ?_
              refine gf_putI (z := 1) C gf_cl0 fl_Fi_248 dd_Fi_firsts_68 rfl rfl rfl (by decide +kernel) (show gf_is 81 61 0 0 3 by decide) (by omega) ?_
              refine gf_nmM (fun m68 hm68 => ?_)
              have f26 : ∀ x y : Int, x ≠ 61 → m68 x y = μ x y := fun x y h => by rw [hm68, gf_up_k h]; exact hfr x y h
              have f260 : m68 61 0 = μ (24 + i) 0 := by rw [hm68, gf_up_j (by decide)]; exact h610
              have f261 : m68 61 1 = f := by rw [hm68]; exact gf_up_s
              have f262 : m68 61 2 = μ (24 + i) 2 := by rw [hm68, gf_up_j (by decide)]; exact h612
              have fk1 : m68 (2 + 2 * r) 1 = μ (2 + 2 * r) 1 := f26 _ 1 (by omega)
              have fky : m68 (3 + 2 * r) = μ (3 + 2 * r) := funext fun y => f26 (3 + 2 * r) y (by omega)
              have hG68 : gf_okG m68 61 := by unfold gf_okG; rw [f260, f261, f262]; exact ⟨hGi.1, by omega, hGi.2.2⟩
              refine gf_aload_n C dd_Fi_firsts_71 3 rfl ?_
              refine gf_getA (r := 61) C gf_cl6 fl_Fi_60 dd_Fi_firsts_72 rfl (show gf_is 81 0 0 6 17 by decide) (by decide) (by decide) ?_
              refine gf_aload_n C dd_Fi_firsts_75 3 rfl ?_
              refine gf_getA (r := 1) C gf_cl6 fl_Fi_11 dd_Fi_firsts_76 rfl (show gf_is 81 0 0 6 17 by decide) (by decide) (by decide) ?_
              refine gf_iload_n C dd_Fi_firsts_79 5 rfl ?_
              have ha80 := gf_row_of (r := r) (by omega)
              refine gf_aald C dd_Fi_firsts_80 (show gf_is 81 1 4 3 6 by decide) (by decide) (by omega) ha80.1 (by first | omega | exact ha80.2.1.1 | exact ha80.2.1) ?_
              refine gf_callSi (st := []) (As := [.ref (gf_ad E 61), .ref (gf_ad E (2 + 2 * r))]) C wk_Fi_251 (ct_Fi_reckonsAsTold (gf_xl X) E 61 (2 + 2 * r) m68 (show gf_is 81 61 0 0 3 by decide) hG68 ha80.2 (by rw [fk1]; exact hsz) (by rw [e3, fk1, fky]; exact heo)) rfl ⟨rfl, rfl, rfl, rfl⟩ (Nat.le_of_ble_eq_true rfl) rfl dd_Fi_firsts_81 (fun r81 m81 hR81 hp81 => ?_)
              have hr81 := hp81.1
              refine gf_pm hp81.2 ?_
              refine gf_if_eq 96 C dd_Fi_firsts_84 (by decide) (by omega) (fun h84 => ?_) (fun h84 => ?_)
              · skip
                obtain ⟨x96, hx96⟩ : ∃ y : Int, y = f + 1 := ⟨_, rfl⟩
                refine gf_iinc (q := 1) (v := x96) (lv' := [(5, .int (gf_i x96)), (4, .int (gf_i s)), (3, .int (gf_i r26)), (0, .ref (gf_ad E 0)), (1, .int (gf_i i)), (2, .int (gf_i r))]) C dd_Fi_firsts_96 rfl hx96 (by decide) rfl ?_
                refine gf_goto 55 C dd_Fi_firsts_99 (by decide) ?_
                refine gf_lsub [1, 0, 2, 3, 4, 5] rfl ?_
                exact ih55_1 s x96 m68 (by
                        have e1 : (f + 1).toNat = f.toNat + 1 := by omega
                        rw [e3, f260, f261, f262, fk1, fky] at hr81
                        refine ⟨by omega, by omega, ?_, f260, f262, f26⟩
                        rw [hx96, e1]
                        show _ = if decide (pf_reck _ ((f.toNat : Nat) : Int) _ _ _ = _) = true then gf_or (pf_set _ f.toNat) (gf_shl 1 ((f.toNat : Nat) : Int)) else pf_set _ f.toNat
                        rw [show ((f.toNat : Nat) : Int) = f by omega, ← hs3]
                        by_cases e : pf_reck (μ (24 + i) 0) f (μ (24 + i) 2) (μ (3 + 2 * r)) (μ (2 + 2 * r) 1 - 1) = μ (3 + 2 * r) (μ (2 + 2 * r) 1 - 1)
                        · rw [if_pos (by simpa using e)]
                          have := hr81.1 e
                          first | omega | exact hx94
                        · have := hr81.2 e
                          rw [if_neg (by simpa using e)] <;> first | omega | rfl) (by omega)
              · skip
                refine gf_iload C dd_Fi_firsts_87 0 rfl ?_
                refine gf_iconst C dd_Fi_firsts_89 ?_
                refine gf_iload C dd_Fi_firsts_90 1 rfl ?_
                refine gf_ishl C dd_Fi_firsts_92 (by omega) ?_
                refine gf_ior C dd_Fi_firsts_93 (by have := gf_shl1 (i := f) (by omega); omega) ?_
                refine gf_nm (fun x94 hx94 => ?_)
                refine gf_istore (lv' := [(4, .int (gf_i x94)), (5, .int (gf_i f)), (3, .int (gf_i r26)), (0, .ref (gf_ad E 0)), (1, .int (gf_i i)), (2, .int (gf_i r))]) C dd_Fi_firsts_94 (by decide) rfl ?_
                obtain ⟨x96, hx96⟩ : ∃ y : Int, y = f + 1 := ⟨_, rfl⟩
                refine gf_iinc (q := 1) (v := x96) (lv' := [(5, .int (gf_i x96)), (4, .int (gf_i x94)), (3, .int (gf_i r26)), (0, .ref (gf_ad E 0)), (1, .int (gf_i i)), (2, .int (gf_i r))]) C dd_Fi_firsts_96 rfl hx96 (by decide) rfl ?_
                refine gf_goto 55 C dd_Fi_firsts_99 (by decide) ?_
                refine gf_lsub [1, 0, 2, 3, 4, 5] rfl ?_
                exact ih55_1 x94 x96 m68 (by
                        have e1 : (f + 1).toNat = f.toNat + 1 := by omega
                        rw [e3, f260, f261, f262, fk1, fky] at hr81
                        refine ⟨by omega, by omega, ?_, f260, f262, f26⟩
                        rw [hx96, e1]
                        show _ = if decide (pf_reck _ ((f.toNat : Nat) : Int) _ _ _ = _) = true then gf_or (pf_set _ f.toNat) (gf_shl 1 ((f.toNat : Nat) : Int)) else pf_set _ f.toNat
                        rw [show ((f.toNat : Nat) : Int) = f by omega, ← hs3]
                        by_cases e : pf_reck (μ (24 + i) 0) f (μ (24 + i) 2) (μ (3 + 2 * r)) (μ (2 + 2 * r) 1 - 1) = μ (3 + 2 * r) (μ (2 + 2 * r) 1 - 1)
                        · rw [if_pos (by simpa using e)]
                          have := hr81.1 e
                          first | omega | exact hx94
                        · have := hr81.2 e
                          rw [if_neg (by simpa using e)] <;> first | omega | rfl) (by omega)
        refine gf_lsub [1, 0, 2, 3, 4, 5] rfl ?_
        exact L55_1 _ 0 0 m49 (⟨by omega, by omega, rfl, f70, f72, f7⟩) (Nat.lt_succ_self _)
      · skip
        refine gf_iload_n C dd_Fi_firsts_34 0 rfl ?_
        refine gf_iret C hQ dd_Fi_firsts_35 (by omega) ?_
        rw [e3] at hp26
        have hne : ¬ r26 = 0 := by omega
        exact ⟨fun h => absurd h (by omega), fun _ => ⟨hp26.1, fun h => ⟨(hp26.2 h).1, fun h2 => ⟨((hp26.2 h).2 h2).1, fun h3 => absurd (((hp26.2 h).2 h2).2 h3).1 hne⟩⟩⟩⟩
    · skip
      refine gf_iconst C dd_Fi_firsts_17 ?_
      refine gf_iret C hQ dd_Fi_firsts_18 (by omega) ?_
      exact ⟨fun _ => ⟨rfl, rfl⟩, fun h => absurd h (by omega)⟩

theorem dd_Fi_test_0 : decode cc_Fi_test 0 = .ok (.aload_n 0, 1) := by decide +kernel
theorem dd_Fi_test_1 : decode cc_Fi_test 1 = .ok (.iload_n 1, 1) := by decide +kernel
theorem dd_Fi_test_2 : decode cc_Fi_test 2 = .ok (.invokevirtual 143, 3) := by decide +kernel
theorem dd_Fi_test_5 : decode cc_Fi_test 5 = .ok (.ifCond .eq 12, 3) := by decide +kernel
theorem dd_Fi_test_8 : decode cc_Fi_test 8 = .ok (.iload_n 2, 1) := by decide +kernel
theorem dd_Fi_test_9 : decode cc_Fi_test 9 = .ok (.bipush 6, 2) := by decide +kernel
theorem dd_Fi_test_11 : decode cc_Fi_test 11 = .ok (.invokestatic 78, 3) := by decide +kernel
theorem dd_Fi_test_14 : decode cc_Fi_test 14 = .ok (.ifCond .ne 5, 3) := by decide +kernel
theorem dd_Fi_test_17 : decode cc_Fi_test 17 = .ok (.iconst (-1), 1) := by decide +kernel
theorem dd_Fi_test_18 : decode cc_Fi_test 18 = .ok (.ireturn, 1) := by decide +kernel
theorem dd_Fi_test_19 : decode cc_Fi_test 19 = .ok (.aload_n 0, 1) := by decide +kernel
theorem dd_Fi_test_20 : decode cc_Fi_test 20 = .ok (.getfield 35, 3) := by decide +kernel
theorem dd_Fi_test_23 : decode cc_Fi_test 23 = .ok (.getfield 168, 3) := by decide +kernel
theorem dd_Fi_test_26 : decode cc_Fi_test 26 = .ok (.bipush 8, 2) := by decide +kernel
theorem dd_Fi_test_28 : decode cc_Fi_test 28 = .ok (.if_icmp .lt 6, 3) := by decide +kernel
theorem dd_Fi_test_31 : decode cc_Fi_test 31 = .ok (.bipush (-4), 2) := by decide +kernel
theorem dd_Fi_test_33 : decode cc_Fi_test 33 = .ok (.ireturn, 1) := by decide +kernel
theorem dd_Fi_test_34 : decode cc_Fi_test 34 = .ok (.aload_n 0, 1) := by decide +kernel
theorem dd_Fi_test_35 : decode cc_Fi_test 35 = .ok (.aload_n 0, 1) := by decide +kernel
theorem dd_Fi_test_36 : decode cc_Fi_test 36 = .ok (.getfield 11, 3) := by decide +kernel
theorem dd_Fi_test_39 : decode cc_Fi_test 39 = .ok (.iload_n 2, 1) := by decide +kernel
theorem dd_Fi_test_40 : decode cc_Fi_test 40 = .ok (.aaload, 1) := by decide +kernel
theorem dd_Fi_test_41 : decode cc_Fi_test 41 = .ok (.invokevirtual 241, 3) := by decide +kernel
theorem dd_Fi_test_44 : decode cc_Fi_test 44 = .ok (.istore_n 3, 1) := by decide +kernel
theorem dd_Fi_test_45 : decode cc_Fi_test 45 = .ok (.iload_n 3, 1) := by decide +kernel
theorem dd_Fi_test_46 : decode cc_Fi_test 46 = .ok (.ifCond .eq 5, 3) := by decide +kernel
theorem dd_Fi_test_49 : decode cc_Fi_test 49 = .ok (.iload_n 3, 1) := by decide +kernel
theorem dd_Fi_test_50 : decode cc_Fi_test 50 = .ok (.ireturn, 1) := by decide +kernel
theorem dd_Fi_test_51 : decode cc_Fi_test 51 = .ok (.aload_n 0, 1) := by decide +kernel
theorem dd_Fi_test_52 : decode cc_Fi_test 52 = .ok (.aload_n 0, 1) := by decide +kernel
theorem dd_Fi_test_53 : decode cc_Fi_test 53 = .ok (.getfield 23, 3) := by decide +kernel
theorem dd_Fi_test_56 : decode cc_Fi_test 56 = .ok (.iload_n 1, 1) := by decide +kernel
theorem dd_Fi_test_57 : decode cc_Fi_test 57 = .ok (.aaload, 1) := by decide +kernel
theorem dd_Fi_test_58 : decode cc_Fi_test 58 = .ok (.aload_n 0, 1) := by decide +kernel
theorem dd_Fi_test_59 : decode cc_Fi_test 59 = .ok (.getfield 11, 3) := by decide +kernel
theorem dd_Fi_test_62 : decode cc_Fi_test 62 = .ok (.iload_n 2, 1) := by decide +kernel
theorem dd_Fi_test_63 : decode cc_Fi_test 63 = .ok (.aaload, 1) := by decide +kernel
theorem dd_Fi_test_64 : decode cc_Fi_test 64 = .ok (.invokevirtual 244, 3) := by decide +kernel
theorem dd_Fi_test_67 : decode cc_Fi_test 67 = .ok (.istore 4, 2) := by decide +kernel
theorem dd_Fi_test_69 : decode cc_Fi_test 69 = .ok (.iload 4, 2) := by decide +kernel
theorem dd_Fi_test_71 : decode cc_Fi_test 71 = .ok (.ifCond .ne 6, 3) := by decide +kernel
theorem dd_Fi_test_74 : decode cc_Fi_test 74 = .ok (.bipush (-9), 2) := by decide +kernel
theorem dd_Fi_test_76 : decode cc_Fi_test 76 = .ok (.ireturn, 1) := by decide +kernel
theorem dd_Fi_test_77 : decode cc_Fi_test 77 = .ok (.iconst 0, 1) := by decide +kernel
theorem dd_Fi_test_78 : decode cc_Fi_test 78 = .ok (.istore 5, 2) := by decide +kernel
theorem dd_Fi_test_80 : decode cc_Fi_test 80 = .ok (.aload_n 0, 1) := by decide +kernel
theorem dd_Fi_test_81 : decode cc_Fi_test 81 = .ok (.aload_n 0, 1) := by decide +kernel
theorem dd_Fi_test_82 : decode cc_Fi_test 82 = .ok (.getfield 23, 3) := by decide +kernel
theorem dd_Fi_test_85 : decode cc_Fi_test 85 = .ok (.iload_n 1, 1) := by decide +kernel
theorem dd_Fi_test_86 : decode cc_Fi_test 86 = .ok (.aaload, 1) := by decide +kernel
theorem dd_Fi_test_87 : decode cc_Fi_test 87 = .ok (.iload 4, 2) := by decide +kernel
theorem dd_Fi_test_89 : decode cc_Fi_test 89 = .ok (.iconst 0, 1) := by decide +kernel
theorem dd_Fi_test_90 : decode cc_Fi_test 90 = .ok (.invokevirtual 255, 3) := by decide +kernel
theorem dd_Fi_test_93 : decode cc_Fi_test 93 = .ok (.istore 6, 2) := by decide +kernel
theorem dd_Fi_test_95 : decode cc_Fi_test 95 = .ok (.iconst 1, 1) := by decide +kernel
theorem dd_Fi_test_96 : decode cc_Fi_test 96 = .ok (.istore 7, 2) := by decide +kernel
theorem dd_Fi_test_98 : decode cc_Fi_test 98 = .ok (.iload 7, 2) := by decide +kernel
theorem dd_Fi_test_100 : decode cc_Fi_test 100 = .ok (.bipush 10, 2) := by decide +kernel
theorem dd_Fi_test_102 : decode cc_Fi_test 102 = .ok (.if_icmp .ge 40, 3) := by decide +kernel
theorem dd_Fi_test_105 : decode cc_Fi_test 105 = .ok (.aload_n 0, 1) := by decide +kernel
theorem dd_Fi_test_106 : decode cc_Fi_test 106 = .ok (.aload_n 0, 1) := by decide +kernel
theorem dd_Fi_test_107 : decode cc_Fi_test 107 = .ok (.getfield 23, 3) := by decide +kernel
theorem dd_Fi_test_110 : decode cc_Fi_test 110 = .ok (.iload_n 1, 1) := by decide +kernel
theorem dd_Fi_test_111 : decode cc_Fi_test 111 = .ok (.aaload, 1) := by decide +kernel
theorem dd_Fi_test_112 : decode cc_Fi_test 112 = .ok (.iload 4, 2) := by decide +kernel
theorem dd_Fi_test_114 : decode cc_Fi_test 114 = .ok (.iload 7, 2) := by decide +kernel
theorem dd_Fi_test_116 : decode cc_Fi_test 116 = .ok (.invokevirtual 255, 3) := by decide +kernel
theorem dd_Fi_test_119 : decode cc_Fi_test 119 = .ok (.istore 8, 2) := by decide +kernel
theorem dd_Fi_test_121 : decode cc_Fi_test 121 = .ok (.iload 8, 2) := by decide +kernel
theorem dd_Fi_test_123 : decode cc_Fi_test 123 = .ok (.iload 6, 2) := by decide +kernel
theorem dd_Fi_test_125 : decode cc_Fi_test 125 = .ok (.if_icmp .ge 11, 3) := by decide +kernel
theorem dd_Fi_test_128 : decode cc_Fi_test 128 = .ok (.iload 7, 2) := by decide +kernel
theorem dd_Fi_test_130 : decode cc_Fi_test 130 = .ok (.istore 5, 2) := by decide +kernel
theorem dd_Fi_test_132 : decode cc_Fi_test 132 = .ok (.iload 8, 2) := by decide +kernel
theorem dd_Fi_test_134 : decode cc_Fi_test 134 = .ok (.istore 6, 2) := by decide +kernel
theorem dd_Fi_test_136 : decode cc_Fi_test 136 = .ok (.iinc 7 1, 3) := by decide +kernel
theorem dd_Fi_test_139 : decode cc_Fi_test 139 = .ok (.goto (-41), 3) := by decide +kernel
theorem dd_Fi_test_142 : decode cc_Fi_test 142 = .ok (.aload_n 0, 1) := by decide +kernel
theorem dd_Fi_test_143 : decode cc_Fi_test 143 = .ok (.iload 6, 2) := by decide +kernel
theorem dd_Fi_test_145 : decode cc_Fi_test 145 = .ok (.putfield 205, 3) := by decide +kernel
theorem dd_Fi_test_148 : decode cc_Fi_test 148 = .ok (.iload 5, 2) := by decide +kernel
theorem dd_Fi_test_150 : decode cc_Fi_test 150 = .ok (.ireturn, 1) := by decide +kernel
set_option maxRecDepth 100000 in
set_option maxHeartbeats 4000000 in
theorem ct_Fi_test (l : Launch) (E : gf_E) (i r : Int) (μ : gf_M) (hi : gf_R i) (hr : gf_R r) (hc7 : 0 ≤ μ 0 3 ∧ μ 0 3 ≤ 7) (hG : gf_okGs μ (μ 0 3)) (hs : 0 ≤ μ 41 1 ∧ μ 41 1 ≤ 8) (hF : gf_okF μ 42 (μ 41 1))(hrw : ∀ r : Int, 0 ≤ r → r < 6 → -1 ≤ μ (2 + 2 * r) 1 ∧ μ (2 + 2 * r) 1 ≤ 40) : gf_Mi l E yy_Fi_test cc_Fi_test 9 .int (gf_rm 5 118) 81 gf_ref μ [.ref (gf_ad E 0), .int (gf_i i), .int (gf_i r)] (fun q μ' => (¬ (0 ≤ i ∧ i < μ 0 3 ∧ 0 ≤ r ∧ r < 6) → q = -1 ∧ μ' = μ) ∧ (0 ≤ i ∧ i < μ 0 3 ∧ 0 ≤ r ∧ r < 6 → (μ 41 1 = 8 → q = -4 ∧ μ' = μ) ∧ (μ 41 1 < 8 → (μ (2 + 2 * r) 1 = -1 → q = -3 ∧ μ' = gf_fd μ 1) ∧ (μ (2 + 2 * r) 1 ≠ -1 → (¬ (2 ≤ μ (2 + 2 * r) 1 ∧ μ (2 + 2 * r) 1 ≤ 9) → q = -3 ∧ μ' = gf_fd μ 5) ∧ (2 ≤ μ (2 + 2 * r) 1 ∧ μ (2 + 2 * r) 1 ≤ 9 → (¬ pf_eok (μ (3 + 2 * r)) (μ (2 + 2 * r) 1) → q = -3 ∧ μ' = gf_fd μ 3) ∧ (pf_eok (μ (3 + 2 * r)) (μ (2 + 2 * r) 1) → (pf_ksB (μ (24 + i) 1) (μ (24 + i) 2) (μ (3 + 2 * r)) (μ (2 + 2 * r) 1) = 0 → q = -9 ∧ gf_sc μ' μ) ∧ (pf_ksB (μ (24 + i) 1) (μ (24 + i) 2) (μ (3 + 2 * r)) (μ (2 + 2 * r) 1) ≠ 0 → q = (pf_fst (fun f => pf_maxp (pf_ksB (μ (24 + i) 1) (μ (24 + i) 2) (μ (3 + 2 * r)) (μ (2 + 2 * r) 1)) (fun kd => pf_reck kd (μ (24 + i) 1) (μ (24 + i) 2) (pf_apd (μ 42) (μ 41 1) f) (μ 41 1 + 1)) 6) 9).1 ∧ gf_sc μ' (gf_tl μ (pf_fst (fun f => pf_maxp (pf_ksB (μ (24 + i) 1) (μ (24 + i) 2) (μ (3 + 2 * r)) (μ (2 + 2 * r) 1)) (fun kd => pf_reck kd (μ (24 + i) 1) (μ (24 + i) 2) (pf_apd (μ 42) (μ 41 1) f) (μ 41 1 + 1)) 6) 9).2)))))))) := by
  refine gf_mi (by decide +kernel) (Nat.le_of_ble_eq_true rfl) (by decide) (fun X Q hlx C hQ => ?_)
  subst hlx
  replace C : gf_C X E cc_Fi_test 9 "GuardFigures" (gf_rm 5 118) := C
  show gf_G X E Q 9 gf_φ μ 0 [(0, .ref (gf_ad E 0)), (1, .int (gf_i i)), (2, .int (gf_i r))] []
  refine gf_aload_n C dd_Fi_test_0 0 rfl ?_
  refine gf_iload_n C dd_Fi_test_1 1 rfl ?_
  refine gf_callVi (st := []) (As := [.int (gf_i i)]) C wk_Fi_143 gf_cl6 (show gf_is 81 0 0 6 17 by decide) (ct_Fi_isGuard (gf_xl X) E i μ (by omega)) rfl ⟨rfl, rfl, rfl, rfl⟩ (Nat.le_of_ble_eq_true rfl) rfl dd_Fi_test_2 (fun r2 m2 hR2 hp2 => ?_)
  have hr2 := hp2.1
  refine gf_pm hp2.2 ?_
  refine gf_if_eq 17 C dd_Fi_test_5 (by decide) (by omega) (fun h5 => ?_) (fun h5 => ?_)
  · skip
    refine gf_iconst C dd_Fi_test_17 ?_
    refine gf_iret C hQ dd_Fi_test_18 (by omega) ?_
    exact ⟨fun _ => ⟨rfl, rfl⟩, fun h => absurd h (by omega)⟩
  · skip
    refine gf_iload_n C dd_Fi_test_8 2 rfl ?_
    refine gf_bipush C dd_Fi_test_9 (by decide +kernel) ?_
    refine gf_callSi (st := []) (As := [.int (gf_i r), .int (gf_i 6)]) C wk_Fi_78 (ct_Fi_isWithin (gf_xl X) E r 6 μ (by omega) (by omega)) rfl ⟨rfl, rfl, rfl, rfl⟩ (Nat.le_of_ble_eq_true rfl) rfl dd_Fi_test_11 (fun r11 m11 hR11 hp11 => ?_)
    have hr11 := hp11.1
    refine gf_pm hp11.2 ?_
    refine gf_if_ne 19 C dd_Fi_test_14 (by decide) (by omega) (fun h14 => ?_) (fun h14 => ?_)
    · skip
      have hin : 0 ≤ i ∧ i < μ 0 3 := by have := hr2.1; have := hr2.2; omega
      have hin2 : 0 ≤ r ∧ r < 6 := by have := hr11.1; have := hr11.2; omega
      clear hr2 hr11 hp2 hp11
      have hGi := hG i hin.1 hin.2
      have hrr := hrw r hin2.1 hin2.2
      have e3 : (2 + 2 * r + 1 : Int) = 3 + 2 * r := by omega
      refine gf_aload_n C dd_Fi_test_19 0 rfl ?_
      refine gf_getA (r := 41) C gf_cl6 fl_Fi_35 dd_Fi_test_20 rfl (show gf_is 81 0 0 6 17 by decide) (by decide) (by decide) ?_
      refine gf_getI (z := 1) C gf_cl5 fl_Fi_168 dd_Fi_test_23 rfl rfl (show gf_is 81 41 0 5 5 by decide) (fun hv23 => ?_)
      refine gf_bipush C dd_Fi_test_26 (by decide +kernel) ?_
      refine gf_icmp_lt 34 C dd_Fi_test_28 (by decide) (by omega) (by omega) (fun h28 => ?_) (fun h28 => ?_)
      · skip
        refine gf_aload_n C dd_Fi_test_34 0 rfl ?_
        refine gf_aload_n C dd_Fi_test_35 0 rfl ?_
        refine gf_getA (r := 1) C gf_cl6 fl_Fi_11 dd_Fi_test_36 rfl (show gf_is 81 0 0 6 17 by decide) (by decide) (by decide) ?_
        refine gf_iload_n C dd_Fi_test_39 2 rfl ?_
        have ha40 := gf_row_of (r := r) (by omega)
        refine gf_aald C dd_Fi_test_40 (show gf_is 81 1 4 3 6 by decide) (by decide) (by omega) ha40.1 (by first | omega | exact ha40.2.1.1 | exact ha40.2.1) ?_
        refine gf_callVi (st := []) (As := [.ref (gf_ad E (2 + 2 * r))]) C wk_Fi_241 gf_cl6 (show gf_is 81 0 0 6 17 by decide) (ct_Fi_refusedExample (gf_xl X) E (2 + 2 * r) μ ha40.2 (by omega)) rfl ⟨rfl, rfl, rfl, rfl⟩ (Nat.le_of_ble_eq_true rfl) rfl dd_Fi_test_41 (fun r41 m41 hR41 hp41 => ?_)
        refine gf_istore_n (lv' := [(3, .int (gf_i r41)), (0, .ref (gf_ad E 0)), (1, .int (gf_i i)), (2, .int (gf_i r))]) C dd_Fi_test_44 (by decide) rfl ?_
        refine gf_iload_n C dd_Fi_test_45 0 rfl ?_
        refine gf_if_eq 51 C dd_Fi_test_46 (by decide) (by omega) (fun h46 => ?_) (fun h46 => ?_)
        · skip
          rw [e3] at hp41
          have hth : μ (2 + 2 * r) 1 ≠ -1 := fun h => by have := (hp41.1 h).1; omega
          have hx2 := hp41.2 hth
          have hsz : 2 ≤ μ (2 + 2 * r) 1 ∧ μ (2 + 2 * r) 1 ≤ 9 := by
            rcases Classical.em (2 ≤ μ (2 + 2 * r) 1 ∧ μ (2 + 2 * r) 1 ≤ 9) with h | h
            · exact h
            · have := (hx2.1 h).1; omega
          have heo : pf_eok (μ (3 + 2 * r)) (μ (2 + 2 * r) 1) := by
            rcases Classical.em (pf_eok (μ (3 + 2 * r)) (μ (2 + 2 * r) 1)) with h | h
            · exact h
            · have := ((hx2.2 hsz).1 h).1; omega
          have hmm := ((hx2.2 hsz).2 heo).2
          have hmm2 := hmm.symm
          subst hmm2
          clear hp41 hx2 hmm
          refine gf_aload_n C dd_Fi_test_51 1 rfl ?_
          refine gf_aload_n C dd_Fi_test_52 1 rfl ?_
          refine gf_getA (r := 23) C gf_cl6 fl_Fi_23 dd_Fi_test_53 rfl (show gf_is 81 0 0 6 17 by decide) (by decide) (by decide) ?_
          refine gf_iload_n C dd_Fi_test_56 2 rfl ?_
          have ha57 := gf_guard_of (r := i) (by omega)
          refine gf_aald C dd_Fi_test_57 (show gf_is 81 23 4 4 7 by decide) (by decide) (by omega) ha57.1 (by first | omega | exact ha57.2.1.1 | exact ha57.2.1) ?_
          refine gf_aload_n C dd_Fi_test_58 1 rfl ?_
          refine gf_getA (r := 1) C gf_cl6 fl_Fi_11 dd_Fi_test_59 rfl (show gf_is 81 0 0 6 17 by decide) (by decide) (by decide) ?_
          refine gf_iload_n C dd_Fi_test_62 3 rfl ?_
          have ha63 := gf_row_of (r := r) (by omega)
          refine gf_aald C dd_Fi_test_63 (show gf_is 81 1 4 3 6 by decide) (by decide) (by omega) ha63.1 (by first | omega | exact ha63.2.1.1 | exact ha63.2.1) ?_
          refine gf_callVi (st := []) (As := [.ref (gf_ad E (24 + i)), .ref (gf_ad E (2 + 2 * r))]) C wk_Fi_244 gf_cl6 (show gf_is 81 0 0 6 17 by decide) (ct_Fi_kindsBy (gf_xl X) E (24 + i) (2 + 2 * r) μ ha57.2 (by omega) hGi ha63.2 (by omega) hsz (by rw [e3]; exact heo)) rfl ⟨rfl, rfl, rfl, rfl⟩ (Nat.le_of_ble_eq_true rfl) rfl dd_Fi_test_64 (fun r64 m64 hR64 hp64 => ?_)
          obtain ⟨hka, hkb⟩ := hp64
          have hke := hka.1
          rw [e3] at hke
          have k41 : m64 41 1 = μ 41 1 := hkb 41 1 (by decide)
          have k42 : m64 42 = μ 42 := funext fun y => hkb 42 y (by decide)
          have hG64 : gf_okG m64 (24 + i) := by unfold gf_okG; rw [hkb _ 0 (by omega), hkb _ 1 (by omega), hkb _ 2 (by omega)]; exact hGi
          have hUR : ∀ f : Int, 0 ≤ (fun f => pf_maxp (pf_ksB (μ (24 + i) 1) (μ (24 + i) 2) (μ (3 + 2 * r)) (μ (2 + 2 * r) 1)) (fun kd => pf_reck kd (μ (24 + i) 1) (μ (24 + i) 2) (pf_apd (μ 42) (μ 41 1) f) (μ 41 1 + 1)) 6) f ∧ (fun f => pf_maxp (pf_ksB (μ (24 + i) 1) (μ (24 + i) 2) (μ (3 + 2 * r)) (μ (2 + 2 * r) 1)) (fun kd => pf_reck kd (μ (24 + i) 1) (μ (24 + i) 2) (pf_apd (μ 42) (μ 41 1) f) (μ 41 1 + 1)) 6) f ≤ 6 := fun f => by
            show 0 ≤ pf_maxp _ _ 6 ∧ pf_maxp _ _ 6 ≤ 6
            exact pf_maxp_R _ _ 6
          refine gf_istore (lv' := [(4, .int (gf_i r64)), (3, .int (gf_i r41)), (0, .ref (gf_ad E 0)), (1, .int (gf_i i)), (2, .int (gf_i r))]) C dd_Fi_test_67 (by decide) rfl ?_
          refine gf_iload C dd_Fi_test_69 0 rfl ?_
          refine gf_if_ne 77 C dd_Fi_test_71 (by decide) (by omega) (fun h71 => ?_) (fun h71 => ?_)
          · skip
            refine gf_iconst C dd_Fi_test_77 ?_
            refine gf_istore (lv' := [(5, .int (gf_i 0)), (4, .int (gf_i r64)), (3, .int (gf_i r41)), (0, .ref (gf_ad E 0)), (1, .int (gf_i i)), (2, .int (gf_i r))]) C dd_Fi_test_78 (by decide) rfl ?_
            refine gf_aload_n C dd_Fi_test_80 3 rfl ?_
            refine gf_aload_n C dd_Fi_test_81 3 rfl ?_
            refine gf_getA (r := 23) C gf_cl6 fl_Fi_23 dd_Fi_test_82 rfl (show gf_is 81 0 0 6 17 by decide) (by decide) (by decide) ?_
            refine gf_iload_n C dd_Fi_test_85 4 rfl ?_
            have ha86 := gf_guard_of (r := i) (by omega)
            refine gf_aald C dd_Fi_test_86 (show gf_is 81 23 4 4 7 by decide) (by decide) (by omega) ha86.1 (by first | omega | exact ha86.2.1.1 | exact ha86.2.1) ?_
            refine gf_iload C dd_Fi_test_87 1 rfl ?_
            refine gf_iconst C dd_Fi_test_89 ?_
            refine gf_callVi (st := []) (As := [.ref (gf_ad E (24 + i)), .int (gf_i r64), .int (gf_i 0)]) C wk_Fi_255 gf_cl6 (show gf_is 81 0 0 6 17 by decide) (ct_Fi_greatestPart (gf_xl X) E (24 + i) r64 0 m64 ha86.2 (by omega) hG64 (by omega) (by decide) (by rw [k41]; omega) (by rw [k41]; intro j h0 h1; rw [k42]; exact hF j h0 h1)) rfl ⟨rfl, rfl, rfl, rfl⟩ (Nat.le_of_ble_eq_true rfl) rfl dd_Fi_test_90 (fun r90 m90 hR90 hp90 => ?_)
            obtain ⟨hga, hgb⟩ := hp90
            have hge : r90 = (fun f => pf_maxp (pf_ksB (μ (24 + i) 1) (μ (24 + i) 2) (μ (3 + 2 * r)) (μ (2 + 2 * r) 1)) (fun kd => pf_reck kd (μ (24 + i) 1) (μ (24 + i) 2) (pf_apd (μ 42) (μ 41 1) f) (μ 41 1 + 1)) 6) 0 := by rw [hga.1, hke, hkb (24 + i) 1 (by omega), hkb (24 + i) 2 (by omega), k41, k42]
            have hf90 : ∀ x y : Int, ¬ (61 ≤ x ∧ x ≤ 63) → m90 x y = μ x y := fun x y h => by rw [hgb x y h]; exact hkb x y (by omega)
            refine gf_istore (lv' := [(6, .int (gf_i r90)), (5, .int (gf_i 0)), (4, .int (gf_i r64)), (3, .int (gf_i r41)), (0, .ref (gf_ad E 0)), (1, .int (gf_i i)), (2, .int (gf_i r))]) C dd_Fi_test_93 (by decide) rfl ?_
            refine gf_iconst C dd_Fi_test_95 ?_
            refine gf_istore (lv' := [(7, .int (gf_i 1)), (6, .int (gf_i r90)), (5, .int (gf_i 0)), (4, .int (gf_i r64)), (3, .int (gf_i r41)), (0, .ref (gf_ad E 0)), (1, .int (gf_i i)), (2, .int (gf_i r))]) C dd_Fi_test_96 (by decide) rfl ?_
            have L98_1 : ∀ (N : Nat) (b z f : Int) (m : gf_M) , (1 ≤ f ∧ f ≤ 10 ∧ b = (pf_fst (fun f => pf_maxp (pf_ksB (μ (24 + i) 1) (μ (24 + i) 2) (μ (3 + 2 * r)) (μ (2 + 2 * r) 1)) (fun kd => pf_reck kd (μ (24 + i) 1) (μ (24 + i) 2) (pf_apd (μ 42) (μ 41 1) f) (μ 41 1 + 1)) 6) (f - 1).toNat).1 ∧ z = (pf_fst (fun f => pf_maxp (pf_ksB (μ (24 + i) 1) (μ (24 + i) 2) (μ (3 + 2 * r)) (μ (2 + 2 * r) 1)) (fun kd => pf_reck kd (μ (24 + i) 1) (μ (24 + i) 2) (pf_apd (μ 42) (μ 41 1) f) (μ 41 1 + 1)) 6) (f - 1).toNat).2 ∧ ∀ x y : Int, ¬ (61 ≤ x ∧ x ≤ 63) → m x y = μ x y) → (10 - f).toNat < N → gf_G X E Q 9 gf_φ m 98 [(5, .int (gf_i b)), (6, .int (gf_i z)), (7, .int (gf_i f)), (0, .ref (gf_ad E 0)), (1, .int (gf_i i)), (2, .int (gf_i r)), (3, .int (gf_i r41)), (4, .int (gf_i r64))] [] := by
              intro N
              induction N with
              | zero => intro b z f m hinv hN; exact absurd hN (Nat.not_lt_zero _)
              | succ N ih98_1 =>
                intro b z f m hinv hN
                have hinv0 := hinv
                obtain ⟨hf0, hf1, hb, hz, hfr⟩ := hinv
                have hbR := pf_fst_R hUR (f - 1).toNat
                rw [← hb, ← hz] at hbR
                have e41 : m 41 1 = μ 41 1 := hfr 41 1 (by decide)
                have e42 : m 42 = μ 42 := funext fun y => hfr 42 y (by decide)
                have hGm : gf_okG m (24 + i) := by unfold gf_okG; rw [hfr _ 0 (by omega), hfr _ 1 (by omega), hfr _ 2 (by omega)]; exact hGi
                refine gf_iload C dd_Fi_test_98 2 rfl ?_
                refine gf_bipush C dd_Fi_test_100 (by decide +kernel) ?_
                refine gf_icmp_ge 142 C dd_Fi_test_102 (by decide) (by omega) (by omega) (fun h102 => ?_) (fun h102 => ?_)
                · skip
                  refine gf_aload_n C dd_Fi_test_142 3 rfl ?_
                  refine gf_iload C dd_Fi_test_143 1 rfl ?_
                  refine gf_putI (z := 12) C gf_cl6 fl_Fi_205 dd_Fi_test_145 rfl rfl rfl (by decide +kernel) (show gf_is 81 0 0 6 17 by decide) (by omega) ?_
                  refine gf_nmM (fun m145 hm145 => ?_)
                  refine gf_iload C dd_Fi_test_148 0 rfl ?_
                  refine gf_iret C hQ dd_Fi_test_150 (by omega) ?_
                  have e9 : (f - 1).toNat = 9 := by omega
                  rw [e9] at hb hz
                  exact ⟨fun h => absurd h (by omega), fun _ => ⟨fun h => absurd h (by omega), fun _ => ⟨fun h => absurd h hth, fun _ => ⟨fun h => absurd hsz h, fun _ => ⟨fun h => absurd heo h, fun _ => ⟨fun h => absurd h (by omega), fun _ => ⟨hb, by rw [← hz]; exact gf_sc_tl (fun a b h => hfr a b (by omega)) hm145⟩⟩⟩⟩⟩⟩⟩
                · skip
                  refine gf_aload_n C dd_Fi_test_105 3 rfl ?_
                  refine gf_aload_n C dd_Fi_test_106 3 rfl ?_
                  refine gf_getA (r := 23) C gf_cl6 fl_Fi_23 dd_Fi_test_107 rfl (show gf_is 81 0 0 6 17 by decide) (by decide) (by decide) ?_
                  refine gf_iload_n C dd_Fi_test_110 4 rfl ?_
                  have ha111 := gf_guard_of (r := i) (by omega)
                  refine gf_aald C dd_Fi_test_111 (show gf_is 81 23 4 4 7 by decide) (by decide) (by omega) ha111.1 (by first | omega | exact ha111.2.1.1 | exact ha111.2.1) ?_
                  refine gf_iload C dd_Fi_test_112 7 rfl ?_
                  refine gf_iload C dd_Fi_test_114 2 rfl ?_
                  refine gf_callVi (st := []) (As := [.ref (gf_ad E (24 + i)), .int (gf_i r64), .int (gf_i f)]) C wk_Fi_255 gf_cl6 (show gf_is 81 0 0 6 17 by decide) (ct_Fi_greatestPart (gf_xl X) E (24 + i) r64 f m ha111.2 (by omega) hGm (by omega) (by omega) (by rw [e41]; omega) (by rw [e41]; intro j h0 h1; rw [e42]; exact hF j h0 h1)) rfl ⟨rfl, rfl, rfl, rfl⟩ (Nat.le_of_ble_eq_true rfl) rfl dd_Fi_test_116 (fun r116 m116 hR116 hp116 => ?_)
                  obtain ⟨hga2, hgb2⟩ := hp116
                  have hge2 : r116 = (fun f => pf_maxp (pf_ksB (μ (24 + i) 1) (μ (24 + i) 2) (μ (3 + 2 * r)) (μ (2 + 2 * r) 1)) (fun kd => pf_reck kd (μ (24 + i) 1) (μ (24 + i) 2) (pf_apd (μ 42) (μ 41 1) f) (μ 41 1 + 1)) 6) f := by rw [hga2.1, hke, hfr (24 + i) 1 (by omega), hfr (24 + i) 2 (by omega), e41, e42]
                  refine gf_istore (lv' := [(8, .int (gf_i r116)), (5, .int (gf_i b)), (6, .int (gf_i z)), (7, .int (gf_i f)), (0, .ref (gf_ad E 0)), (1, .int (gf_i i)), (2, .int (gf_i r)), (3, .int (gf_i r41)), (4, .int (gf_i r64))]) C dd_Fi_test_119 (by decide) rfl ?_
                  refine gf_iload C dd_Fi_test_121 0 rfl ?_
                  refine gf_iload C dd_Fi_test_123 2 rfl ?_
                  refine gf_icmp_ge 136 C dd_Fi_test_125 (by decide) (by omega) (by omega) (fun h125 => ?_) (fun h125 => ?_)
                  · skip
                    obtain ⟨x136, hx136⟩ : ∃ y : Int, y = f + 1 := ⟨_, rfl⟩
                    refine gf_iinc (q := 3) (v := x136) (lv' := [(7, .int (gf_i x136)), (8, .int (gf_i r116)), (5, .int (gf_i b)), (6, .int (gf_i z)), (0, .ref (gf_ad E 0)), (1, .int (gf_i i)), (2, .int (gf_i r)), (3, .int (gf_i r41)), (4, .int (gf_i r64))]) C dd_Fi_test_136 rfl hx136 (by decide) rfl ?_
                    refine gf_goto 98 C dd_Fi_test_139 (by decide) ?_
                    refine gf_lsub [2, 3, 0, 4, 5, 6, 7, 8] rfl ?_
                    exact ih98_1 b z x136 m116 (by
                            have e1 : (f + 1 - 1).toNat = (f - 1).toNat + 1 := by omega
                            have hst : pf_fst (fun f => pf_maxp (pf_ksB (μ (24 + i) 1) (μ (24 + i) 2) (μ (3 + 2 * r)) (μ (2 + 2 * r) 1)) (fun kd => pf_reck kd (μ (24 + i) 1) (μ (24 + i) 2) (pf_apd (μ 42) (μ 41 1) f) (μ 41 1 + 1)) 6) (f + 1 - 1).toNat = if r116 < z then (f, r116) else (b, z) := by
                              rw [e1]
                              show (if (fun f => pf_maxp (pf_ksB (μ (24 + i) 1) (μ (24 + i) 2) (μ (3 + 2 * r)) (μ (2 + 2 * r) 1)) (fun kd => pf_reck kd (μ (24 + i) 1) (μ (24 + i) 2) (pf_apd (μ 42) (μ 41 1) f) (μ 41 1 + 1)) 6) (((f - 1).toNat : Nat) + 1 : Int) < (pf_fst _ (f - 1).toNat).2 then ((((f - 1).toNat : Nat) : Int) + 1, (fun f => pf_maxp (pf_ksB (μ (24 + i) 1) (μ (24 + i) 2) (μ (3 + 2 * r)) (μ (2 + 2 * r) 1)) (fun kd => pf_reck kd (μ (24 + i) 1) (μ (24 + i) 2) (pf_apd (μ 42) (μ 41 1) f) (μ 41 1 + 1)) 6) (((f - 1).toNat : Nat) + 1 : Int)) else pf_fst _ (f - 1).toNat) = _
                              rw [show (((f - 1).toNat : Nat) + 1 : Int) = f by omega, ← hge2, ← hz]
                              by_cases e : r116 < z
                              · rw [if_pos e, if_pos e]
                              · rw [if_neg e, if_neg e, hb, hz]
                            have hfr2 : ∀ x y : Int, ¬ (61 ≤ x ∧ x ≤ 63) → m116 x y = μ x y := fun x y h => by rw [hgb2 x y h]; exact hfr x y h
                            rw [hx136]
                            first
                            | (rw [hst, if_neg (by omega)]; exact ⟨by omega, by omega, rfl, rfl, hfr2⟩)
                            | (rw [hst, if_pos (by omega)]; exact ⟨by omega, by omega, rfl, rfl, hfr2⟩)) (by omega)
                  · skip
                    refine gf_iload C dd_Fi_test_128 3 rfl ?_
                    refine gf_istore (lv' := [(5, .int (gf_i f)), (8, .int (gf_i r116)), (6, .int (gf_i z)), (7, .int (gf_i f)), (0, .ref (gf_ad E 0)), (1, .int (gf_i i)), (2, .int (gf_i r)), (3, .int (gf_i r41)), (4, .int (gf_i r64))]) C dd_Fi_test_130 (by decide) rfl ?_
                    refine gf_iload C dd_Fi_test_132 1 rfl ?_
                    refine gf_istore (lv' := [(6, .int (gf_i r116)), (5, .int (gf_i f)), (8, .int (gf_i r116)), (7, .int (gf_i f)), (0, .ref (gf_ad E 0)), (1, .int (gf_i i)), (2, .int (gf_i r)), (3, .int (gf_i r41)), (4, .int (gf_i r64))]) C dd_Fi_test_134 (by decide) rfl ?_
                    obtain ⟨x136, hx136⟩ : ∃ y : Int, y = f + 1 := ⟨_, rfl⟩
                    refine gf_iinc (q := 3) (v := x136) (lv' := [(7, .int (gf_i x136)), (6, .int (gf_i r116)), (5, .int (gf_i f)), (8, .int (gf_i r116)), (0, .ref (gf_ad E 0)), (1, .int (gf_i i)), (2, .int (gf_i r)), (3, .int (gf_i r41)), (4, .int (gf_i r64))]) C dd_Fi_test_136 rfl hx136 (by decide) rfl ?_
                    refine gf_goto 98 C dd_Fi_test_139 (by decide) ?_
                    refine gf_lsub [2, 1, 0, 4, 5, 6, 7, 8] rfl ?_
                    exact ih98_1 f r116 x136 m116 (by
                            have e1 : (f + 1 - 1).toNat = (f - 1).toNat + 1 := by omega
                            have hst : pf_fst (fun f => pf_maxp (pf_ksB (μ (24 + i) 1) (μ (24 + i) 2) (μ (3 + 2 * r)) (μ (2 + 2 * r) 1)) (fun kd => pf_reck kd (μ (24 + i) 1) (μ (24 + i) 2) (pf_apd (μ 42) (μ 41 1) f) (μ 41 1 + 1)) 6) (f + 1 - 1).toNat = if r116 < z then (f, r116) else (b, z) := by
                              rw [e1]
                              show (if (fun f => pf_maxp (pf_ksB (μ (24 + i) 1) (μ (24 + i) 2) (μ (3 + 2 * r)) (μ (2 + 2 * r) 1)) (fun kd => pf_reck kd (μ (24 + i) 1) (μ (24 + i) 2) (pf_apd (μ 42) (μ 41 1) f) (μ 41 1 + 1)) 6) (((f - 1).toNat : Nat) + 1 : Int) < (pf_fst _ (f - 1).toNat).2 then ((((f - 1).toNat : Nat) : Int) + 1, (fun f => pf_maxp (pf_ksB (μ (24 + i) 1) (μ (24 + i) 2) (μ (3 + 2 * r)) (μ (2 + 2 * r) 1)) (fun kd => pf_reck kd (μ (24 + i) 1) (μ (24 + i) 2) (pf_apd (μ 42) (μ 41 1) f) (μ 41 1 + 1)) 6) (((f - 1).toNat : Nat) + 1 : Int)) else pf_fst _ (f - 1).toNat) = _
                              rw [show (((f - 1).toNat : Nat) + 1 : Int) = f by omega, ← hge2, ← hz]
                              by_cases e : r116 < z
                              · rw [if_pos e, if_pos e]
                              · rw [if_neg e, if_neg e, hb, hz]
                            have hfr2 : ∀ x y : Int, ¬ (61 ≤ x ∧ x ≤ 63) → m116 x y = μ x y := fun x y h => by rw [hgb2 x y h]; exact hfr x y h
                            rw [hx136]
                            first
                            | (rw [hst, if_neg (by omega)]; exact ⟨by omega, by omega, rfl, rfl, hfr2⟩)
                            | (rw [hst, if_pos (by omega)]; exact ⟨by omega, by omega, rfl, rfl, hfr2⟩)) (by omega)
            refine gf_lsub [2, 1, 0, 5, 6, 7, 4, 3] rfl ?_
            exact L98_1 _ 0 r90 1 m90 (⟨by omega, by omega, rfl, hge, hf90⟩) (Nat.lt_succ_self _)
          · skip
            refine gf_bipush C dd_Fi_test_74 (by decide +kernel) ?_
            refine gf_iret C hQ dd_Fi_test_76 (by omega) ?_
            exact ⟨fun h => absurd h (by omega), fun _ => ⟨fun h => absurd h (by omega), fun _ => ⟨fun h => absurd h hth, fun _ => ⟨fun h => absurd hsz h, fun _ => ⟨fun h => absurd heo h, fun _ => ⟨fun _ => ⟨rfl, fun a b h => hkb a b (by omega)⟩, fun h => absurd h (by omega)⟩⟩⟩⟩⟩⟩
        · skip
          refine gf_iload_n C dd_Fi_test_49 0 rfl ?_
          refine gf_iret C hQ dd_Fi_test_50 (by omega) ?_
          rw [e3] at hp41
          have hne : ¬ r41 = 0 := by omega
          exact ⟨fun h => absurd h (by omega), fun _ => ⟨fun h => absurd h (by omega), fun _ => ⟨hp41.1, fun h => ⟨(hp41.2 h).1, fun h2 => ⟨((hp41.2 h).2 h2).1, fun h3 => absurd (((hp41.2 h).2 h2).2 h3).1 hne⟩⟩⟩⟩⟩
      · skip
        refine gf_bipush C dd_Fi_test_31 (by decide +kernel) ?_
        refine gf_iret C hQ dd_Fi_test_33 (by omega) ?_
        exact ⟨fun h => absurd h (by omega), fun _ => ⟨fun _ => ⟨rfl, rfl⟩, fun h => absurd h (by omega)⟩⟩
    · skip
      refine gf_iconst C dd_Fi_test_17 ?_
      refine gf_iret C hQ dd_Fi_test_18 (by omega) ?_
      exact ⟨fun _ => ⟨rfl, rfl⟩, fun h => absurd h (by omega)⟩

theorem dd_Fi_duel_0 : decode cc_Fi_duel 0 = .ok (.aload_n 0, 1) := by decide +kernel
theorem dd_Fi_duel_1 : decode cc_Fi_duel 1 = .ok (.iload_n 1, 1) := by decide +kernel
theorem dd_Fi_duel_2 : decode cc_Fi_duel 2 = .ok (.invokevirtual 143, 3) := by decide +kernel
theorem dd_Fi_duel_5 : decode cc_Fi_duel 5 = .ok (.ifCond .eq 12, 3) := by decide +kernel
theorem dd_Fi_duel_8 : decode cc_Fi_duel 8 = .ok (.iload_n 2, 1) := by decide +kernel
theorem dd_Fi_duel_9 : decode cc_Fi_duel 9 = .ok (.ifCond .lt 8, 3) := by decide +kernel
theorem dd_Fi_duel_12 : decode cc_Fi_duel 12 = .ok (.iload_n 2, 1) := by decide +kernel
theorem dd_Fi_duel_13 : decode cc_Fi_duel 13 = .ok (.iconst 4, 1) := by decide +kernel
theorem dd_Fi_duel_14 : decode cc_Fi_duel 14 = .ok (.if_icmp .le 5, 3) := by decide +kernel
theorem dd_Fi_duel_17 : decode cc_Fi_duel 17 = .ok (.iconst (-1), 1) := by decide +kernel
theorem dd_Fi_duel_18 : decode cc_Fi_duel 18 = .ok (.ireturn, 1) := by decide +kernel
theorem dd_Fi_duel_19 : decode cc_Fi_duel 19 = .ok (.aload_n 0, 1) := by decide +kernel
theorem dd_Fi_duel_20 : decode cc_Fi_duel 20 = .ok (.getfield 56, 3) := by decide +kernel
theorem dd_Fi_duel_23 : decode cc_Fi_duel 23 = .ok (.aload_n 0, 1) := by decide +kernel
theorem dd_Fi_duel_24 : decode cc_Fi_duel 24 = .ok (.getfield 23, 3) := by decide +kernel
theorem dd_Fi_duel_27 : decode cc_Fi_duel 27 = .ok (.iload_n 1, 1) := by decide +kernel
theorem dd_Fi_duel_28 : decode cc_Fi_duel 28 = .ok (.aaload, 1) := by decide +kernel
theorem dd_Fi_duel_29 : decode cc_Fi_duel 29 = .ok (.aload_n 0, 1) := by decide +kernel
theorem dd_Fi_duel_30 : decode cc_Fi_duel 30 = .ok (.getfield 35, 3) := by decide +kernel
theorem dd_Fi_duel_33 : decode cc_Fi_duel 33 = .ok (.iload_n 2, 1) := by decide +kernel
theorem dd_Fi_duel_34 : decode cc_Fi_duel 34 = .ok (.invokevirtual 259, 3) := by decide +kernel
theorem dd_Fi_duel_37 : decode cc_Fi_duel 37 = .ok (.ireturn, 1) := by decide +kernel
set_option maxRecDepth 100000 in
set_option maxHeartbeats 4000000 in
theorem ct_Fi_duel (l : Launch) (E : gf_E) (i n : Int) (μ : gf_M) (hi : gf_R i) (hn : gf_R n) (hc7 : 0 ≤ μ 0 3 ∧ μ 0 3 ≤ 7) (hG : gf_okGs μ (μ 0 3)) (hs : 0 ≤ μ 41 1 ∧ μ 41 1 ≤ 8) (hF : gf_okF μ 42 (μ 41 1)) : gf_Mi l E yy_Fi_duel cc_Fi_duel 3 .int (gf_rm 4 102) 81 gf_ref μ [.ref (gf_ad E 0), .int (gf_i i), .int (gf_i n)] (fun q μ' => (¬ (0 ≤ i ∧ i < μ 0 3 ∧ 0 ≤ n ∧ n ≤ 4) → q = -1 ∧ μ' = μ) ∧ (0 ≤ i ∧ i < μ 0 3 ∧ 0 ≤ n ∧ n ≤ 4 → q = pf_VT (μ (24 + i) 0) (μ (24 + i) 1) (μ (24 + i) 2) (μ 41 1 + gf_min n (8 - μ 41 1)) (μ 41 1) (gf_min n (8 - μ 41 1)).toNat (pf_rec (μ (24 + i) 0) (μ (24 + i) 1) (μ (24 + i) 2) (μ 42) (μ 41 1 + gf_min n (8 - μ 41 1)) (μ 41 1).toNat) ∧ gf_sc μ' μ)) := by
  refine gf_mi (by decide +kernel) (Nat.le_of_ble_eq_true rfl) (by decide) (fun X Q hlx C hQ => ?_)
  subst hlx
  replace C : gf_C X E cc_Fi_duel 3 "GuardFigures" (gf_rm 4 102) := C
  show gf_G X E Q 3 gf_φ μ 0 [(0, .ref (gf_ad E 0)), (1, .int (gf_i i)), (2, .int (gf_i n))] []
  refine gf_aload_n C dd_Fi_duel_0 0 rfl ?_
  refine gf_iload_n C dd_Fi_duel_1 1 rfl ?_
  refine gf_callVi (st := []) (As := [.int (gf_i i)]) C wk_Fi_143 gf_cl6 (show gf_is 81 0 0 6 17 by decide) (ct_Fi_isGuard (gf_xl X) E i μ (by omega)) rfl ⟨rfl, rfl, rfl, rfl⟩ (Nat.le_of_ble_eq_true rfl) rfl dd_Fi_duel_2 (fun r2 m2 hR2 hp2 => ?_)
  have hr2 := hp2.1
  refine gf_pm hp2.2 ?_
  refine gf_if_eq 17 C dd_Fi_duel_5 (by decide) (by omega) (fun h5 => ?_) (fun h5 => ?_)
  · skip
    refine gf_iconst C dd_Fi_duel_17 ?_
    refine gf_iret C hQ dd_Fi_duel_18 (by omega) ?_
    exact ⟨fun _ => ⟨rfl, rfl⟩, fun h => absurd h (by omega)⟩
  · skip
    refine gf_iload_n C dd_Fi_duel_8 2 rfl ?_
    refine gf_if_lt 17 C dd_Fi_duel_9 (by decide) (by omega) (fun h9 => ?_) (fun h9 => ?_)
    · skip
      refine gf_iconst C dd_Fi_duel_17 ?_
      refine gf_iret C hQ dd_Fi_duel_18 (by omega) ?_
      exact ⟨fun _ => ⟨rfl, rfl⟩, fun h => absurd h (by omega)⟩
    · skip
      refine gf_iload_n C dd_Fi_duel_12 2 rfl ?_
      refine gf_iconst C dd_Fi_duel_13 ?_
      refine gf_icmp_le 19 C dd_Fi_duel_14 (by decide) (by omega) (by omega) (fun h14 => ?_) (fun h14 => ?_)
      · skip
        have hin : 0 ≤ i ∧ i < μ 0 3 := by have := hr2.1; have := hr2.2; omega
        clear hr2 hp2
        have hGi := hG i hin.1 hin.2
        refine gf_aload_n C dd_Fi_duel_19 0 rfl ?_
        refine gf_getA (r := 59) C gf_cl6 fl_Fi_56 dd_Fi_duel_20 rfl (show gf_is 81 0 0 6 17 by decide) (by decide) (by decide) ?_
        refine gf_aload_n C dd_Fi_duel_23 0 rfl ?_
        refine gf_getA (r := 23) C gf_cl6 fl_Fi_23 dd_Fi_duel_24 rfl (show gf_is 81 0 0 6 17 by decide) (by decide) (by decide) ?_
        refine gf_iload_n C dd_Fi_duel_27 1 rfl ?_
        have ha28 := gf_guard_of (r := i) (by omega)
        refine gf_aald C dd_Fi_duel_28 (show gf_is 81 23 4 4 7 by decide) (by decide) (by omega) ha28.1 (by first | omega | exact ha28.2.1.1 | exact ha28.2.1) ?_
        refine gf_aload_n C dd_Fi_duel_29 0 rfl ?_
        refine gf_getA (r := 41) C gf_cl6 fl_Fi_35 dd_Fi_duel_30 rfl (show gf_is 81 0 0 6 17 by decide) (by decide) (by decide) ?_
        refine gf_iload_n C dd_Fi_duel_33 2 rfl ?_
        refine gf_callVi (st := []) (As := [.ref (gf_ad E (24 + i)), .ref (gf_ad E 41), .int (gf_i n)]) C wk_Fi_259 gf_cl1 (show gf_is 81 59 0 1 2 by decide) (ct_Ou_endOfTurns (gf_xl X) E (24 + i) μ ha28.2 (by omega) hGi n (by omega) hs hF) rfl ⟨rfl, rfl, rfl, rfl⟩ (Nat.le_of_ble_eq_true rfl) rfl dd_Fi_duel_34 (fun r34 m34 hR34 hp34 => ?_)
        refine gf_iret C hQ dd_Fi_duel_37 (by have := hp34.1; omega) ?_
        exact ⟨fun h => absurd h (by omega), fun _ => ⟨hp34.1.1, fun a b h => hp34.2 a b (by omega)⟩⟩
      · skip
        refine gf_iconst C dd_Fi_duel_17 ?_
        refine gf_iret C hQ dd_Fi_duel_18 (by omega) ?_
        exact ⟨fun _ => ⟨rfl, rfl⟩, fun h => absurd h (by omega)⟩

theorem dd_Fi_odds_0 : decode cc_Fi_odds 0 = .ok (.aload_n 0, 1) := by decide +kernel
theorem dd_Fi_odds_1 : decode cc_Fi_odds 1 = .ok (.iload_n 1, 1) := by decide +kernel
theorem dd_Fi_odds_2 : decode cc_Fi_odds 2 = .ok (.invokevirtual 143, 3) := by decide +kernel
theorem dd_Fi_odds_5 : decode cc_Fi_odds 5 = .ok (.ifCond .eq 13, 3) := by decide +kernel
theorem dd_Fi_odds_8 : decode cc_Fi_odds 8 = .ok (.iload_n 2, 1) := by decide +kernel
theorem dd_Fi_odds_9 : decode cc_Fi_odds 9 = .ok (.ifCond .lt 9, 3) := by decide +kernel
theorem dd_Fi_odds_12 : decode cc_Fi_odds 12 = .ok (.iload_n 2, 1) := by decide +kernel
theorem dd_Fi_odds_13 : decode cc_Fi_odds 13 = .ok (.bipush 12, 2) := by decide +kernel
theorem dd_Fi_odds_15 : decode cc_Fi_odds 15 = .ok (.if_icmp .le 5, 3) := by decide +kernel
theorem dd_Fi_odds_18 : decode cc_Fi_odds 18 = .ok (.iconst (-1), 1) := by decide +kernel
theorem dd_Fi_odds_19 : decode cc_Fi_odds 19 = .ok (.ireturn, 1) := by decide +kernel
theorem dd_Fi_odds_20 : decode cc_Fi_odds 20 = .ok (.aload_n 0, 1) := by decide +kernel
theorem dd_Fi_odds_21 : decode cc_Fi_odds 21 = .ok (.getfield 56, 3) := by decide +kernel
theorem dd_Fi_odds_24 : decode cc_Fi_odds 24 = .ok (.aload_n 0, 1) := by decide +kernel
theorem dd_Fi_odds_25 : decode cc_Fi_odds 25 = .ok (.getfield 23, 3) := by decide +kernel
theorem dd_Fi_odds_28 : decode cc_Fi_odds 28 = .ok (.iload_n 1, 1) := by decide +kernel
theorem dd_Fi_odds_29 : decode cc_Fi_odds 29 = .ok (.aaload, 1) := by decide +kernel
theorem dd_Fi_odds_30 : decode cc_Fi_odds 30 = .ok (.aload_n 0, 1) := by decide +kernel
theorem dd_Fi_odds_31 : decode cc_Fi_odds 31 = .ok (.getfield 35, 3) := by decide +kernel
theorem dd_Fi_odds_34 : decode cc_Fi_odds 34 = .ok (.iload_n 2, 1) := by decide +kernel
theorem dd_Fi_odds_35 : decode cc_Fi_odds 35 = .ok (.invokevirtual 262, 3) := by decide +kernel
theorem dd_Fi_odds_38 : decode cc_Fi_odds 38 = .ok (.lstore_n 3, 1) := by decide +kernel
theorem dd_Fi_odds_39 : decode cc_Fi_odds 39 = .ok (.aload_n 0, 1) := by decide +kernel
theorem dd_Fi_odds_40 : decode cc_Fi_odds 40 = .ok (.lload_n 3, 1) := by decide +kernel
theorem dd_Fi_odds_41 : decode cc_Fi_odds 41 = .ok (.bipush 12, 2) := by decide +kernel
theorem dd_Fi_odds_43 : decode cc_Fi_odds 43 = .ok (.iload_n 2, 1) := by decide +kernel
theorem dd_Fi_odds_44 : decode cc_Fi_odds 44 = .ok (.isub, 1) := by decide +kernel
theorem dd_Fi_odds_45 : decode cc_Fi_odds 45 = .ok (.aload_n 0, 1) := by decide +kernel
theorem dd_Fi_odds_46 : decode cc_Fi_odds 46 = .ok (.getfield 35, 3) := by decide +kernel
theorem dd_Fi_odds_49 : decode cc_Fi_odds 49 = .ok (.getfield 168, 3) := by decide +kernel
theorem dd_Fi_odds_52 : decode cc_Fi_odds 52 = .ok (.invokestatic 266, 3) := by decide +kernel
theorem dd_Fi_odds_55 : decode cc_Fi_odds 55 = .ok (.lsub, 1) := by decide +kernel
theorem dd_Fi_odds_56 : decode cc_Fi_odds 56 = .ok (.invokevirtual 270, 3) := by decide +kernel
theorem dd_Fi_odds_59 : decode cc_Fi_odds 59 = .ok (.ireturn, 1) := by decide +kernel
set_option maxRecDepth 100000 in
set_option maxHeartbeats 4000000 in
theorem ct_Fi_odds (l : Launch) (E : gf_E) (i p : Int) (μ : gf_M) (hi : gf_R i) (hpR : gf_R p) (hc7 : 0 ≤ μ 0 3 ∧ μ 0 3 ≤ 7) (hG : gf_okGs μ (μ 0 3)) (hs : 0 ≤ μ 41 1 ∧ μ 41 1 ≤ 8) (hF : gf_okF μ 42 (μ 41 1)) : gf_Mi l E yy_Fi_odds cc_Fi_odds 5 .int (gf_rm 4 101) 81 gf_ref μ [.ref (gf_ad E 0), .int (gf_i i), .int (gf_i p)] (fun q μ' => (¬ (0 ≤ i ∧ i < μ 0 3 ∧ 0 ≤ p ∧ p ≤ 12) → q = -1 ∧ μ' = μ) ∧ (0 ≤ i ∧ i < μ 0 3 ∧ 0 ≤ p ∧ p ≤ 12 → q = 1 ∧ gf_sc μ' (gf_sh2 μ (pf_VO (μ (24 + i) 0) (μ (24 + i) 1) (μ (24 + i) 2) (μ 41 1) p (μ 42) (pf_eC (μ (24 + i) 0) (μ 41 1) (pf_reck (μ (24 + i) 0) (μ (24 + i) 1) (μ (24 + i) 2) (μ 42) (μ 41 1)) 1 0) (μ 41 1).toNat 0 - (12 - p) ^ (μ 41 1).toNat)))) := by
  refine gf_mi (by decide +kernel) (Nat.le_of_ble_eq_true rfl) (by decide) (fun X Q hlx C hQ => ?_)
  subst hlx
  replace C : gf_C X E cc_Fi_odds 5 "GuardFigures" (gf_rm 4 101) := C
  show gf_G X E Q 5 gf_φ μ 0 [(0, .ref (gf_ad E 0)), (1, .int (gf_i i)), (2, .int (gf_i p))] []
  refine gf_aload_n C dd_Fi_odds_0 0 rfl ?_
  refine gf_iload_n C dd_Fi_odds_1 1 rfl ?_
  refine gf_callVi (st := []) (As := [.int (gf_i i)]) C wk_Fi_143 gf_cl6 (show gf_is 81 0 0 6 17 by decide) (ct_Fi_isGuard (gf_xl X) E i μ (by omega)) rfl ⟨rfl, rfl, rfl, rfl⟩ (Nat.le_of_ble_eq_true rfl) rfl dd_Fi_odds_2 (fun r2 m2 hR2 hp2 => ?_)
  have hr2 := hp2.1
  refine gf_pm hp2.2 ?_
  refine gf_if_eq 18 C dd_Fi_odds_5 (by decide) (by omega) (fun h5 => ?_) (fun h5 => ?_)
  · skip
    refine gf_iconst C dd_Fi_odds_18 ?_
    refine gf_iret C hQ dd_Fi_odds_19 (by omega) ?_
    exact ⟨fun _ => ⟨rfl, rfl⟩, fun h => absurd h (by omega)⟩
  · skip
    refine gf_iload_n C dd_Fi_odds_8 2 rfl ?_
    refine gf_if_lt 18 C dd_Fi_odds_9 (by decide) (by omega) (fun h9 => ?_) (fun h9 => ?_)
    · skip
      refine gf_iconst C dd_Fi_odds_18 ?_
      refine gf_iret C hQ dd_Fi_odds_19 (by omega) ?_
      exact ⟨fun _ => ⟨rfl, rfl⟩, fun h => absurd h (by omega)⟩
    · skip
      refine gf_iload_n C dd_Fi_odds_12 2 rfl ?_
      refine gf_bipush C dd_Fi_odds_13 (by decide +kernel) ?_
      refine gf_icmp_le 20 C dd_Fi_odds_15 (by decide) (by omega) (by omega) (fun h15 => ?_) (fun h15 => ?_)
      · skip
        have hin : 0 ≤ i ∧ i < μ 0 3 := by have := hr2.1; have := hr2.2; omega
        clear hr2 hp2
        have hGi := hG i hin.1 hin.2
        refine gf_aload_n C dd_Fi_odds_20 0 rfl ?_
        refine gf_getA (r := 59) C gf_cl6 fl_Fi_56 dd_Fi_odds_21 rfl (show gf_is 81 0 0 6 17 by decide) (by decide) (by decide) ?_
        refine gf_aload_n C dd_Fi_odds_24 0 rfl ?_
        refine gf_getA (r := 23) C gf_cl6 fl_Fi_23 dd_Fi_odds_25 rfl (show gf_is 81 0 0 6 17 by decide) (by decide) (by decide) ?_
        refine gf_iload_n C dd_Fi_odds_28 1 rfl ?_
        have ha29 := gf_guard_of (r := i) (by omega)
        refine gf_aald C dd_Fi_odds_29 (show gf_is 81 23 4 4 7 by decide) (by decide) (by omega) ha29.1 (by first | omega | exact ha29.2.1.1 | exact ha29.2.1) ?_
        refine gf_aload_n C dd_Fi_odds_30 0 rfl ?_
        refine gf_getA (r := 41) C gf_cl6 fl_Fi_35 dd_Fi_odds_31 rfl (show gf_is 81 0 0 6 17 by decide) (by decide) (by decide) ?_
        refine gf_iload_n C dd_Fi_odds_34 2 rfl ?_
        refine gf_callVl (st := []) (As := [.ref (gf_ad E (24 + i)), .ref (gf_ad E 41), .int (gf_i p)]) C wk_Fi_262 gf_cl1 (show gf_is 81 59 0 1 2 by decide) (ct_Ou_copiesReckonedAlike (gf_xl X) E (24 + i) μ ha29.2 (by omega) hGi p (by omega) hs hF) rfl ⟨rfl, rfl, rfl, rfl⟩ (Nat.le_of_ble_eq_true rfl) rfl dd_Fi_odds_35 (fun r35 m35 hR35 hp35 => ?_)
        obtain ⟨hra, hrb⟩ := hp35
        have hre := hra.1
        have g41 : m35 41 1 = μ 41 1 := hrb 41 1 (by decide)
        refine gf_lstore_n (lv' := [(3, .long (gf_l r35)), (0, .ref (gf_ad E 0)), (1, .int (gf_i i)), (2, .int (gf_i p))]) C dd_Fi_odds_38 (by decide) rfl ?_
        refine gf_aload_n C dd_Fi_odds_39 1 rfl ?_
        refine gf_lload_n C dd_Fi_odds_40 0 rfl ?_
        refine gf_bipush C dd_Fi_odds_41 (by decide +kernel) ?_
        refine gf_iload_n C dd_Fi_odds_43 3 rfl ?_
        refine gf_isub C dd_Fi_odds_44 ?_
        refine gf_aload_n C dd_Fi_odds_45 1 rfl ?_
        refine gf_getA (r := 41) C gf_cl6 fl_Fi_35 dd_Fi_odds_46 rfl (show gf_is 81 0 0 6 17 by decide) (by decide) (by decide) ?_
        refine gf_getI (z := 1) C gf_cl5 fl_Fi_168 dd_Fi_odds_49 rfl rfl (show gf_is 81 41 0 5 5 by decide) (fun hv49 => ?_)
        refine gf_callSl (st := [.long (gf_l r35), .ref (gf_ad E 0)]) (As := [.int (gf_i (12 - p)), .int (gf_i (m35 41 1))]) C wk_Fi_266 (ct_Fi_power (gf_xl X) E (12 - p) (m35 41 1) m35 (by omega) (by omega)) rfl ⟨rfl, rfl, rfl, rfl⟩ (Nat.le_of_ble_eq_true rfl) rfl dd_Fi_odds_52 (fun r52 m52 hR52 hp52 => ?_)
        have hr52 := hp52.1
        refine gf_pm hp52.2 ?_
        refine gf_lsb C dd_Fi_odds_55 ?_
        have hge : (12 - p) ^ (μ 41 1).toNat ≤ r35 := by
          rw [hre]
          have := pf_VO_ge (K := μ (24 + i) 0) (F := μ (24 + i) 1) (S := μ (24 + i) 2) (n := μ 41 1) (p := p) (x := μ 42) (by omega) hs.1 (μ 41 1).toNat (by omega)
          rw [show (μ 41 1 - ((μ 41 1).toNat : Nat)).toNat = 0 by omega] at this
          exact this
        have hpw := hr52.1
        rw [g41] at hpw
        refine gf_callVi (st := []) (As := [.long (gf_l (r35 - r52))]) C wk_Fi_270 gf_cl6 (show gf_is 81 0 0 6 17 by decide) (ct_Fi_tellShare (gf_xl X) E (r35 - r52) m35 (by omega) (by rw [g41]; exact hs)) rfl ⟨rfl, rfl, rfl, rfl⟩ (Nat.le_of_ble_eq_true rfl) rfl dd_Fi_odds_56 (fun r56 m56 hR56 hp56 => ?_)
        refine gf_iret C hQ dd_Fi_odds_59 (by omega) ?_
        refine ⟨fun h => absurd h (by omega), fun _ => ⟨hp56.1, ?_⟩⟩
        rw [← hre, ← hpw]
        exact gf_sh2_sc (fun a b h => hrb a b (by omega)) hp56.2
      · skip
        refine gf_iconst C dd_Fi_odds_18 ?_
        refine gf_iret C hQ dd_Fi_odds_19 (by omega) ?_
        exact ⟨fun _ => ⟨rfl, rfl⟩, fun h => absurd h (by omega)⟩

theorem dd_Fi_mid_0 : decode cc_Fi_mid 0 = .ok (.aload_n 0, 1) := by decide +kernel
theorem dd_Fi_mid_1 : decode cc_Fi_mid 1 = .ok (.iload_n 1, 1) := by decide +kernel
theorem dd_Fi_mid_2 : decode cc_Fi_mid 2 = .ok (.invokevirtual 143, 3) := by decide +kernel
theorem dd_Fi_mid_5 : decode cc_Fi_mid 5 = .ok (.ifCond .eq 13, 3) := by decide +kernel
theorem dd_Fi_mid_8 : decode cc_Fi_mid 8 = .ok (.iload_n 2, 1) := by decide +kernel
theorem dd_Fi_mid_9 : decode cc_Fi_mid 9 = .ok (.ifCond .lt 9, 3) := by decide +kernel
theorem dd_Fi_mid_12 : decode cc_Fi_mid 12 = .ok (.iload_n 2, 1) := by decide +kernel
theorem dd_Fi_mid_13 : decode cc_Fi_mid 13 = .ok (.bipush 12, 2) := by decide +kernel
theorem dd_Fi_mid_15 : decode cc_Fi_mid 15 = .ok (.if_icmp .le 5, 3) := by decide +kernel
theorem dd_Fi_mid_18 : decode cc_Fi_mid 18 = .ok (.iconst (-1), 1) := by decide +kernel
theorem dd_Fi_mid_19 : decode cc_Fi_mid 19 = .ok (.ireturn, 1) := by decide +kernel
theorem dd_Fi_mid_20 : decode cc_Fi_mid 20 = .ok (.aload_n 0, 1) := by decide +kernel
theorem dd_Fi_mid_21 : decode cc_Fi_mid 21 = .ok (.aload_n 0, 1) := by decide +kernel
theorem dd_Fi_mid_22 : decode cc_Fi_mid 22 = .ok (.getfield 56, 3) := by decide +kernel
theorem dd_Fi_mid_25 : decode cc_Fi_mid 25 = .ok (.aload_n 0, 1) := by decide +kernel
theorem dd_Fi_mid_26 : decode cc_Fi_mid 26 = .ok (.getfield 23, 3) := by decide +kernel
theorem dd_Fi_mid_29 : decode cc_Fi_mid 29 = .ok (.iload_n 1, 1) := by decide +kernel
theorem dd_Fi_mid_30 : decode cc_Fi_mid 30 = .ok (.aaload, 1) := by decide +kernel
theorem dd_Fi_mid_31 : decode cc_Fi_mid 31 = .ok (.aload_n 0, 1) := by decide +kernel
theorem dd_Fi_mid_32 : decode cc_Fi_mid 32 = .ok (.getfield 35, 3) := by decide +kernel
theorem dd_Fi_mid_35 : decode cc_Fi_mid 35 = .ok (.iload_n 2, 1) := by decide +kernel
theorem dd_Fi_mid_36 : decode cc_Fi_mid 36 = .ok (.invokevirtual 274, 3) := by decide +kernel
theorem dd_Fi_mid_39 : decode cc_Fi_mid 39 = .ok (.invokevirtual 270, 3) := by decide +kernel
theorem dd_Fi_mid_42 : decode cc_Fi_mid 42 = .ok (.ireturn, 1) := by decide +kernel
set_option maxRecDepth 100000 in
set_option maxHeartbeats 4000000 in
theorem ct_Fi_mid (l : Launch) (E : gf_E) (i p : Int) (μ : gf_M) (hi : gf_R i) (hpR : gf_R p) (hc7 : 0 ≤ μ 0 3 ∧ μ 0 3 ≤ 7) (hG : gf_okGs μ (μ 0 3)) (hs : 0 ≤ μ 41 1 ∧ μ 41 1 ≤ 8) (hF : gf_okF μ 42 (μ 41 1)) : gf_Mi l E yy_Fi_mid cc_Fi_mid 3 .int (gf_rm 4 101) 81 gf_ref μ [.ref (gf_ad E 0), .int (gf_i i), .int (gf_i p)] (fun q μ' => (¬ (0 ≤ i ∧ i < μ 0 3 ∧ 0 ≤ p ∧ p ≤ 12) → q = -1 ∧ μ' = μ) ∧ (0 ≤ i ∧ i < μ 0 3 ∧ 0 ≤ p ∧ p ≤ 12 → q = 1 ∧ gf_sc μ' (gf_sh2 μ (pf_VO (μ (24 + i) 0) (μ (24 + i) 1) (μ (24 + i) 2) (μ 41 1) p (μ 42) (fun s => pf_fin (μ (24 + i) 0) s (μ 41 1)) (μ 41 1).toNat 0)))) := by
  refine gf_mi (by decide +kernel) (Nat.le_of_ble_eq_true rfl) (by decide) (fun X Q hlx C hQ => ?_)
  subst hlx
  replace C : gf_C X E cc_Fi_mid 3 "GuardFigures" (gf_rm 4 101) := C
  show gf_G X E Q 3 gf_φ μ 0 [(0, .ref (gf_ad E 0)), (1, .int (gf_i i)), (2, .int (gf_i p))] []
  refine gf_aload_n C dd_Fi_mid_0 0 rfl ?_
  refine gf_iload_n C dd_Fi_mid_1 1 rfl ?_
  refine gf_callVi (st := []) (As := [.int (gf_i i)]) C wk_Fi_143 gf_cl6 (show gf_is 81 0 0 6 17 by decide) (ct_Fi_isGuard (gf_xl X) E i μ (by omega)) rfl ⟨rfl, rfl, rfl, rfl⟩ (Nat.le_of_ble_eq_true rfl) rfl dd_Fi_mid_2 (fun r2 m2 hR2 hp2 => ?_)
  have hr2 := hp2.1
  refine gf_pm hp2.2 ?_
  refine gf_if_eq 18 C dd_Fi_mid_5 (by decide) (by omega) (fun h5 => ?_) (fun h5 => ?_)
  · skip
    refine gf_iconst C dd_Fi_mid_18 ?_
    refine gf_iret C hQ dd_Fi_mid_19 (by omega) ?_
    exact ⟨fun _ => ⟨rfl, rfl⟩, fun h => absurd h (by omega)⟩
  · skip
    refine gf_iload_n C dd_Fi_mid_8 2 rfl ?_
    refine gf_if_lt 18 C dd_Fi_mid_9 (by decide) (by omega) (fun h9 => ?_) (fun h9 => ?_)
    · skip
      refine gf_iconst C dd_Fi_mid_18 ?_
      refine gf_iret C hQ dd_Fi_mid_19 (by omega) ?_
      exact ⟨fun _ => ⟨rfl, rfl⟩, fun h => absurd h (by omega)⟩
    · skip
      refine gf_iload_n C dd_Fi_mid_12 2 rfl ?_
      refine gf_bipush C dd_Fi_mid_13 (by decide +kernel) ?_
      refine gf_icmp_le 20 C dd_Fi_mid_15 (by decide) (by omega) (by omega) (fun h15 => ?_) (fun h15 => ?_)
      · skip
        have hin : 0 ≤ i ∧ i < μ 0 3 := by have := hr2.1; have := hr2.2; omega
        clear hr2 hp2
        have hGi := hG i hin.1 hin.2
        refine gf_aload_n C dd_Fi_mid_20 0 rfl ?_
        refine gf_aload_n C dd_Fi_mid_21 0 rfl ?_
        refine gf_getA (r := 59) C gf_cl6 fl_Fi_56 dd_Fi_mid_22 rfl (show gf_is 81 0 0 6 17 by decide) (by decide) (by decide) ?_
        refine gf_aload_n C dd_Fi_mid_25 0 rfl ?_
        refine gf_getA (r := 23) C gf_cl6 fl_Fi_23 dd_Fi_mid_26 rfl (show gf_is 81 0 0 6 17 by decide) (by decide) (by decide) ?_
        refine gf_iload_n C dd_Fi_mid_29 1 rfl ?_
        have ha30 := gf_guard_of (r := i) (by omega)
        refine gf_aald C dd_Fi_mid_30 (show gf_is 81 23 4 4 7 by decide) (by decide) (by omega) ha30.1 (by first | omega | exact ha30.2.1.1 | exact ha30.2.1) ?_
        refine gf_aload_n C dd_Fi_mid_31 0 rfl ?_
        refine gf_getA (r := 41) C gf_cl6 fl_Fi_35 dd_Fi_mid_32 rfl (show gf_is 81 0 0 6 17 by decide) (by decide) (by decide) ?_
        refine gf_iload_n C dd_Fi_mid_35 2 rfl ?_
        refine gf_callVl (st := [.ref (gf_ad E 0)]) (As := [.ref (gf_ad E (24 + i)), .ref (gf_ad E 41), .int (gf_i p)]) C wk_Fi_274 gf_cl1 (show gf_is 81 59 0 1 2 by decide) (ct_Ou_reckonedOverCopies (gf_xl X) E (24 + i) μ ha30.2 (by omega) hGi p (by omega) hs hF) rfl ⟨rfl, rfl, rfl, rfl⟩ (Nat.le_of_ble_eq_true rfl) rfl dd_Fi_mid_36 (fun r36 m36 hR36 hp36 => ?_)
        obtain ⟨hra, hrb⟩ := hp36
        have hre := hra.1
        have g41 : m36 41 1 = μ 41 1 := hrb 41 1 (by decide)
        refine gf_callVi (st := []) (As := [.long (gf_l r36)]) C wk_Fi_270 gf_cl6 (show gf_is 81 0 0 6 17 by decide) (ct_Fi_tellShare (gf_xl X) E r36 m36 (by omega) (by rw [g41]; exact hs)) rfl ⟨rfl, rfl, rfl, rfl⟩ (Nat.le_of_ble_eq_true rfl) rfl dd_Fi_mid_39 (fun r39 m39 hR39 hp39 => ?_)
        refine gf_iret C hQ dd_Fi_mid_42 (by omega) ?_
        refine ⟨fun h => absurd h (by omega), fun _ => ⟨hp39.1, ?_⟩⟩
        rw [← hre]
        exact gf_sh2_sc (fun a b h => hrb a b (by omega)) hp39.2
      · skip
        refine gf_iconst C dd_Fi_mid_18 ?_
        refine gf_iret C hQ dd_Fi_mid_19 (by omega) ?_
        exact ⟨fun _ => ⟨rfl, rfl⟩, fun h => absurd h (by omega)⟩

theorem dd_Fi_lots_0 : decode cc_Fi_lots 0 = .ok (.iload_n 1, 1) := by decide +kernel
theorem dd_Fi_lots_1 : decode cc_Fi_lots 1 = .ok (.iconst 1, 1) := by decide +kernel
theorem dd_Fi_lots_2 : decode cc_Fi_lots 2 = .ok (.if_icmp .lt 21, 3) := by decide +kernel
theorem dd_Fi_lots_5 : decode cc_Fi_lots 5 = .ok (.iload_n 1, 1) := by decide +kernel
theorem dd_Fi_lots_6 : decode cc_Fi_lots 6 = .ok (.bipush 20, 2) := by decide +kernel
theorem dd_Fi_lots_8 : decode cc_Fi_lots 8 = .ok (.if_icmp .gt 15, 3) := by decide +kernel
theorem dd_Fi_lots_11 : decode cc_Fi_lots 11 = .ok (.iload_n 2, 1) := by decide +kernel
theorem dd_Fi_lots_12 : decode cc_Fi_lots 12 = .ok (.iconst 1, 1) := by decide +kernel
theorem dd_Fi_lots_13 : decode cc_Fi_lots 13 = .ok (.if_icmp .lt 10, 3) := by decide +kernel
theorem dd_Fi_lots_16 : decode cc_Fi_lots 16 = .ok (.iload_n 2, 1) := by decide +kernel
theorem dd_Fi_lots_17 : decode cc_Fi_lots 17 = .ok (.ldc_w 277, 3) := by decide +kernel
theorem dd_Fi_lots_20 : decode cc_Fi_lots 20 = .ok (.if_icmp .lt 5, 3) := by decide +kernel
theorem dd_Fi_lots_23 : decode cc_Fi_lots 23 = .ok (.iconst (-1), 1) := by decide +kernel
theorem dd_Fi_lots_24 : decode cc_Fi_lots 24 = .ok (.ireturn, 1) := by decide +kernel
theorem dd_Fi_lots_25 : decode cc_Fi_lots 25 = .ok (.aload_n 0, 1) := by decide +kernel
theorem dd_Fi_lots_26 : decode cc_Fi_lots 26 = .ok (.getfield 131, 3) := by decide +kernel
theorem dd_Fi_lots_29 : decode cc_Fi_lots 29 = .ok (.ifCond .ne 6, 3) := by decide +kernel
theorem dd_Fi_lots_32 : decode cc_Fi_lots 32 = .ok (.bipush (-4), 2) := by decide +kernel
theorem dd_Fi_lots_34 : decode cc_Fi_lots 34 = .ok (.ireturn, 1) := by decide +kernel
theorem dd_Fi_lots_35 : decode cc_Fi_lots 35 = .ok (.aload_n 0, 1) := by decide +kernel
theorem dd_Fi_lots_36 : decode cc_Fi_lots 36 = .ok (.getfield 35, 3) := by decide +kernel
theorem dd_Fi_lots_39 : decode cc_Fi_lots 39 = .ok (.getfield 172, 3) := by decide +kernel
theorem dd_Fi_lots_42 : decode cc_Fi_lots 42 = .ok (.iload_n 1, 1) := by decide +kernel
theorem dd_Fi_lots_43 : decode cc_Fi_lots 43 = .ok (.iadd, 1) := by decide +kernel
theorem dd_Fi_lots_44 : decode cc_Fi_lots 44 = .ok (.bipush 40, 2) := by decide +kernel
theorem dd_Fi_lots_46 : decode cc_Fi_lots 46 = .ok (.if_icmp .le 6, 3) := by decide +kernel
theorem dd_Fi_lots_49 : decode cc_Fi_lots 49 = .ok (.bipush (-2), 2) := by decide +kernel
theorem dd_Fi_lots_51 : decode cc_Fi_lots 51 = .ok (.ireturn, 1) := by decide +kernel
theorem dd_Fi_lots_52 : decode cc_Fi_lots 52 = .ok (.iload_n 2, 1) := by decide +kernel
theorem dd_Fi_lots_53 : decode cc_Fi_lots 53 = .ok (.i2l, 1) := by decide +kernel
theorem dd_Fi_lots_54 : decode cc_Fi_lots 54 = .ok (.lstore_n 3, 1) := by decide +kernel
theorem dd_Fi_lots_55 : decode cc_Fi_lots 55 = .ok (.iconst 0, 1) := by decide +kernel
theorem dd_Fi_lots_56 : decode cc_Fi_lots 56 = .ok (.istore 5, 2) := by decide +kernel
theorem dd_Fi_lots_58 : decode cc_Fi_lots 58 = .ok (.iload 5, 2) := by decide +kernel
theorem dd_Fi_lots_60 : decode cc_Fi_lots 60 = .ok (.iload_n 1, 1) := by decide +kernel
theorem dd_Fi_lots_61 : decode cc_Fi_lots 61 = .ok (.if_icmp .ge 35, 3) := by decide +kernel
theorem dd_Fi_lots_64 : decode cc_Fi_lots 64 = .ok (.lload_n 3, 1) := by decide +kernel
theorem dd_Fi_lots_65 : decode cc_Fi_lots 65 = .ok (.ldc2_w 278, 3) := by decide +kernel
theorem dd_Fi_lots_68 : decode cc_Fi_lots 68 = .ok (.lmul, 1) := by decide +kernel
theorem dd_Fi_lots_69 : decode cc_Fi_lots 69 = .ok (.ldc2_w 280, 3) := by decide +kernel
theorem dd_Fi_lots_72 : decode cc_Fi_lots 72 = .ok (.lrem, 1) := by decide +kernel
theorem dd_Fi_lots_73 : decode cc_Fi_lots 73 = .ok (.lstore_n 3, 1) := by decide +kernel
theorem dd_Fi_lots_74 : decode cc_Fi_lots 74 = .ok (.aload_n 0, 1) := by decide +kernel
theorem dd_Fi_lots_75 : decode cc_Fi_lots 75 = .ok (.getfield 35, 3) := by decide +kernel
theorem dd_Fi_lots_78 : decode cc_Fi_lots 78 = .ok (.invokevirtual 175, 3) := by decide +kernel
theorem dd_Fi_lots_81 : decode cc_Fi_lots 81 = .ok (.aload_n 0, 1) := by decide +kernel
theorem dd_Fi_lots_82 : decode cc_Fi_lots 82 = .ok (.getfield 35, 3) := by decide +kernel
theorem dd_Fi_lots_85 : decode cc_Fi_lots 85 = .ok (.lload_n 3, 1) := by decide +kernel
theorem dd_Fi_lots_86 : decode cc_Fi_lots 86 = .ok (.l2i, 1) := by decide +kernel
theorem dd_Fi_lots_87 : decode cc_Fi_lots 87 = .ok (.invokevirtual 282, 3) := by decide +kernel
theorem dd_Fi_lots_90 : decode cc_Fi_lots 90 = .ok (.iinc 5 1, 3) := by decide +kernel
theorem dd_Fi_lots_93 : decode cc_Fi_lots 93 = .ok (.goto (-35), 3) := by decide +kernel
theorem dd_Fi_lots_96 : decode cc_Fi_lots 96 = .ok (.aload_n 0, 1) := by decide +kernel
theorem dd_Fi_lots_97 : decode cc_Fi_lots 97 = .ok (.getfield 35, 3) := by decide +kernel
theorem dd_Fi_lots_100 : decode cc_Fi_lots 100 = .ok (.getfield 168, 3) := by decide +kernel
theorem dd_Fi_lots_103 : decode cc_Fi_lots 103 = .ok (.ireturn, 1) := by decide +kernel
set_option maxRecDepth 100000 in
set_option maxHeartbeats 4000000 in
theorem ct_Fi_lots (l : Launch) (E : gf_E) (n s : Int) (μ : gf_M) (hn : gf_R n) (hsR : gf_R s) (hc7 : 0 ≤ μ 0 3 ∧ μ 0 3 ≤ 7) (hs : 0 ≤ μ 41 1 ∧ μ 41 1 ≤ 8) (hd : 0 ≤ μ 41 2 ∧ μ 41 2 ≤ 40) (hF : gf_okF μ 42 (μ 41 1)) : gf_Mi l E yy_Fi_lots cc_Fi_lots 6 .int (gf_rm 2 45) 81 gf_ref μ [.ref (gf_ad E 0), .int (gf_i n), .int (gf_i s)] (fun q μ' => (¬ (1 ≤ n ∧ n ≤ 20 ∧ 1 ≤ s ∧ s ≤ 2147483646) → q = -1 ∧ μ' = μ) ∧ (1 ≤ n ∧ n ≤ 20 ∧ 1 ≤ s ∧ s ≤ 2147483646 → (μ 0 3 = 0 → q = -4 ∧ μ' = μ) ∧ (μ 0 3 ≠ 0 → (40 < μ 41 2 + n → q = -2 ∧ μ' = μ) ∧ (μ 41 2 + n ≤ 40 → q = pf_lots μ s n.toNat 41 1 ∧ μ' = pf_lots μ s n.toNat)))) := by
  refine gf_mi (by decide +kernel) (Nat.le_of_ble_eq_true rfl) (by decide) (fun X Q hlx C hQ => ?_)
  subst hlx
  replace C : gf_C X E cc_Fi_lots 6 "GuardFigures" (gf_rm 2 45) := C
  show gf_G X E Q 6 gf_φ μ 0 [(0, .ref (gf_ad E 0)), (1, .int (gf_i n)), (2, .int (gf_i s))] []
  refine gf_iload_n C dd_Fi_lots_0 1 rfl ?_
  refine gf_iconst C dd_Fi_lots_1 ?_
  refine gf_icmp_lt 23 C dd_Fi_lots_2 (by decide) (by omega) (by omega) (fun h2 => ?_) (fun h2 => ?_)
  · skip
    refine gf_iconst C dd_Fi_lots_23 ?_
    refine gf_iret C hQ dd_Fi_lots_24 (by omega) ?_
    exact ⟨fun _ => ⟨rfl, rfl⟩, fun h => absurd h (by omega)⟩
  · skip
    refine gf_iload_n C dd_Fi_lots_5 1 rfl ?_
    refine gf_bipush C dd_Fi_lots_6 (by decide +kernel) ?_
    refine gf_icmp_gt 23 C dd_Fi_lots_8 (by decide) (by omega) (by omega) (fun h8 => ?_) (fun h8 => ?_)
    · skip
      refine gf_iconst C dd_Fi_lots_23 ?_
      refine gf_iret C hQ dd_Fi_lots_24 (by omega) ?_
      exact ⟨fun _ => ⟨rfl, rfl⟩, fun h => absurd h (by omega)⟩
    · skip
      refine gf_iload_n C dd_Fi_lots_11 2 rfl ?_
      refine gf_iconst C dd_Fi_lots_12 ?_
      refine gf_icmp_lt 23 C dd_Fi_lots_13 (by decide) (by omega) (by omega) (fun h13 => ?_) (fun h13 => ?_)
      · skip
        refine gf_iconst C dd_Fi_lots_23 ?_
        refine gf_iret C hQ dd_Fi_lots_24 (by omega) ?_
        exact ⟨fun _ => ⟨rfl, rfl⟩, fun h => absurd h (by omega)⟩
      · skip
        refine gf_iload_n C dd_Fi_lots_16 2 rfl ?_
        refine gf_ldcw 2147483647 C dd_Fi_lots_17 ck_Fi_277 (by decide +kernel) ?_
        refine gf_icmp_lt 25 C dd_Fi_lots_20 (by decide) (by omega) (by omega) (fun h20 => ?_) (fun h20 => ?_)
        · skip
          refine gf_aload_n C dd_Fi_lots_25 0 rfl ?_
          refine gf_getI (z := 3) C gf_cl6 fl_Fi_131 dd_Fi_lots_26 rfl rfl (show gf_is 81 0 0 6 17 by decide) (fun hv26 => ?_)
          refine gf_if_ne 35 C dd_Fi_lots_29 (by decide) (by omega) (fun h29 => ?_) (fun h29 => ?_)
          · skip
            refine gf_aload_n C dd_Fi_lots_35 0 rfl ?_
            refine gf_getA (r := 41) C gf_cl6 fl_Fi_35 dd_Fi_lots_36 rfl (show gf_is 81 0 0 6 17 by decide) (by decide) (by decide) ?_
            refine gf_getI (z := 2) C gf_cl5 fl_Fi_172 dd_Fi_lots_39 rfl rfl (show gf_is 81 41 0 5 5 by decide) (fun hv39 => ?_)
            refine gf_iload_n C dd_Fi_lots_42 1 rfl ?_
            refine gf_iadd C dd_Fi_lots_43 ?_
            refine gf_bipush C dd_Fi_lots_44 (by decide +kernel) ?_
            refine gf_icmp_le 52 C dd_Fi_lots_46 (by decide) (by omega) (by omega) (fun h46 => ?_) (fun h46 => ?_)
            · skip
              refine gf_iload_n C dd_Fi_lots_52 2 rfl ?_
              refine gf_gi2l C dd_Fi_lots_53 (by omega) ?_
              refine gf_lstore_n (lv' := [(3, .long (gf_l s)), (0, .ref (gf_ad E 0)), (1, .int (gf_i n)), (2, .int (gf_i s))]) C dd_Fi_lots_54 (by decide) rfl ?_
              refine gf_iconst C dd_Fi_lots_55 ?_
              refine gf_istore (lv' := [(5, .int (gf_i 0)), (3, .long (gf_l s)), (0, .ref (gf_ad E 0)), (1, .int (gf_i n)), (2, .int (gf_i s))]) C dd_Fi_lots_56 (by decide) rfl ?_
              have L58_1 : ∀ (N : Nat) (x d : Int) (m : gf_M) , (0 ≤ d ∧ d ≤ n ∧ x = pf_lot s d.toNat ∧ m = pf_lots μ s d.toNat ∧ (0 ≤ m 41 1 ∧ m 41 1 ≤ 8) ∧ m 41 2 = μ 41 2 + d ∧ gf_okF m 42 (m 41 1)) → (20 - d).toNat < N → gf_G X E Q 6 gf_φ m 58 [(3, .long (gf_l x)), (5, .int (gf_i d)), (0, .ref (gf_ad E 0)), (1, .int (gf_i n)), (2, .int (gf_i s))] [] := by
                intro N
                induction N with
                | zero => intro x d m hinv hN; exact absurd hN (Nat.not_lt_zero _)
                | succ N ih58_1 =>
                  intro x d m hinv hN
                  have hinv0 := hinv
                  obtain ⟨hd0, hd1, hx, hm, hz, hdd, hFm⟩ := hinv
                  have hlR := pf_lot_R (s := s) (by omega) d.toNat
                  rw [← hx] at hlR
                  refine gf_iload C dd_Fi_lots_58 1 rfl ?_
                  refine gf_iload_n C dd_Fi_lots_60 3 rfl ?_
                  refine gf_icmp_ge 96 C dd_Fi_lots_61 (by decide) (by omega) (by omega) (fun h61 => ?_) (fun h61 => ?_)
                  · skip
                    refine gf_aload_n C dd_Fi_lots_96 2 rfl ?_
                    refine gf_getA (r := 41) C gf_cl6 fl_Fi_35 dd_Fi_lots_97 rfl (show gf_is 81 0 0 6 17 by decide) (by decide) (by decide) ?_
                    refine gf_getI (z := 1) C gf_cl5 fl_Fi_168 dd_Fi_lots_100 rfl rfl (show gf_is 81 41 0 5 5 by decide) (fun hv100 => ?_)
                    refine gf_iret C hQ dd_Fi_lots_103 (by omega) ?_
                    have en : d.toNat = n.toNat := by omega
                    rw [en] at hm
                    exact ⟨fun h => absurd h (by omega), fun _ => ⟨fun h => absurd h (by omega), fun _ => ⟨fun h => absurd h (by omega), fun _ => ⟨by rw [hm], hm⟩⟩⟩⟩
                  · skip
                    refine gf_lload_n C dd_Fi_lots_64 0 rfl ?_
                    refine gf_ldc2 48271 C dd_Fi_lots_65 ck_Fi_278 (by decide +kernel) ?_
                    refine gf_lmul C dd_Fi_lots_68 ?_
                    refine gf_ldc2 2147483647 C dd_Fi_lots_69 ck_Fi_280 (by decide +kernel) ?_
                    refine gf_lrem C dd_Fi_lots_72 (by omega) ?_
                    refine gf_nml (fun x73 hx73 => ?_)
                    refine gf_lstore_n (lv' := [(3, .long (gf_l x73)), (5, .int (gf_i d)), (0, .ref (gf_ad E 0)), (1, .int (gf_i n)), (2, .int (gf_i s))]) C dd_Fi_lots_73 (by decide) rfl ?_
                    refine gf_aload_n C dd_Fi_lots_74 2 rfl ?_
                    refine gf_getA (r := 41) C gf_cl6 fl_Fi_35 dd_Fi_lots_75 rfl (show gf_is 81 0 0 6 17 by decide) (by decide) (by decide) ?_
                    refine gf_callVv (st := []) (As := []) C wk_Fi_175 gf_cl5 (show gf_is 81 41 0 5 5 by decide) (ct_Wr_remember (gf_xl X) E 41 m gf_oWr41 hz (by omega) hFm) rfl ⟨rfl, rfl, rfl, rfl⟩ (Nat.le_of_ble_eq_true rfl) rfl dd_Fi_lots_78 (fun m78 hp78 => ?_)
                    have hm78 : m78 = gf_rmb m := hp78
                    have r41 : m78 41 1 = m 41 1 := by rw [hm78]; exact gf_rmb_f m (by decide) (by decide)
                    have r42 : ∀ j : Int, m78 42 j = m 42 j := fun j => by rw [hm78]; exact gf_rmb_f m (by decide) (by omega)
                    refine gf_aload_n C dd_Fi_lots_81 2 rfl ?_
                    refine gf_getA (r := 41) C gf_cl6 fl_Fi_35 dd_Fi_lots_82 rfl (show gf_is 81 0 0 6 17 by decide) (by decide) (by decide) ?_
                    refine gf_lload_n C dd_Fi_lots_85 0 rfl ?_
                    refine gf_gl2i C dd_Fi_lots_86 ?_
                    refine gf_callVv (st := []) (As := [.int (gf_i x73)]) C wk_Fi_282 gf_cl5 (show gf_is 81 41 0 5 5 by decide) (ct_Wr_doByLot (gf_xl X) E 41 m78 gf_oWr41 x73 (by rw [r41]; exact hz) (by omega)) rfl ⟨rfl, rfl, rfl, rfl⟩ (Nat.le_of_ble_eq_true rfl) rfl dd_Fi_lots_87 (fun m87 hp87 => ?_)
                    obtain ⟨x90, hx90⟩ : ∃ y : Int, y = d + 1 := ⟨_, rfl⟩
                    refine gf_iinc (q := 1) (v := x90) (lv' := [(5, .int (gf_i x90)), (3, .long (gf_l x73)), (0, .ref (gf_ad E 0)), (1, .int (gf_i n)), (2, .int (gf_i s))]) C dd_Fi_lots_90 rfl hx90 (by decide) rfl ?_
                    refine gf_goto 58 C dd_Fi_lots_93 (by decide) ?_
                    refine gf_lsub [1, 0, 2, 3, 4] rfl ?_
                    exact ih58_1 x73 x90 m87 (by
                            have e1 : (d + 1).toNat = d.toNat + 1 := by omega
                            have hl2 : x73 = pf_lot s (d.toNat + 1) := by
                              rw [hx73, hx]
                              rfl
                            have hm2 : m87 = pf_lots μ s (d.toNat + 1) := by
                              rw [hp87, hm78, hl2]
                              show pf_lotW (gf_rmb m) 41 _ = pf_lotW (gf_rmb (pf_lots μ s d.toNat)) 41 _
                              rw [hm]
                            have hok := pf_lotW_ok (μ := m78) (lot := x73) (by omega) (by rw [r41]; exact hz) (by rw [r41]; intro j h0 h1; rw [r42]; exact hFm j h0 h1)
                            rw [← hp87] at hok
                            refine ⟨by omega, by omega, by rw [hx90, e1]; exact hl2, by rw [hx90, e1]; exact hm2, hok.1, ?_, hok.2⟩
                            rw [hp87, pf_lotW_41, hm78]
                            unfold gf_rmb
                            rw [gf_up_s]
                            omega) (by omega)
              refine gf_lsub [1, 0, 2, 3, 4] rfl ?_
              exact L58_1 _ s 0 μ (⟨by omega, by omega, rfl, rfl, hs, by omega, hF⟩) (Nat.lt_succ_self _)
            · skip
              refine gf_bipush C dd_Fi_lots_49 (by decide +kernel) ?_
              refine gf_iret C hQ dd_Fi_lots_51 (by omega) ?_
              exact ⟨fun h => absurd h (by omega), fun _ => ⟨fun h => absurd h (by omega), fun _ => ⟨fun _ => ⟨rfl, rfl⟩, fun h => absurd h (by omega)⟩⟩⟩
          · skip
            refine gf_bipush C dd_Fi_lots_32 (by decide +kernel) ?_
            refine gf_iret C hQ dd_Fi_lots_34 (by omega) ?_
            exact ⟨fun h => absurd h (by omega), fun _ => ⟨fun _ => ⟨rfl, rfl⟩, fun h => absurd h (by omega)⟩⟩
        · skip
          refine gf_iconst C dd_Fi_lots_23 ?_
          refine gf_iret C hQ dd_Fi_lots_24 (by omega) ?_
          exact ⟨fun _ => ⟨rfl, rfl⟩, fun h => absurd h (by omega)⟩
