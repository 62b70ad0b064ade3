/-! GuardFigures: a house, the guard that notices most, the fewest who notice all, the digest -/
def pf_PR (μ : gf_M) (t : Int) : Int × List (Int × Int × Int) := pf_pr (μ (16 + 2 * t)) (μ (15 + 2 * t) 1) 61 0 []
theorem pf_fst_s {U : Int → Int} {i : Int} (h : 1 ≤ i) : pf_fst U i.toNat = if U i < (pf_fst U (i - 1).toNat).2 then (i, U i) else pf_fst U (i - 1).toNat := by
  rw [show i.toNat = (i - 1).toNat + 1 by omega]
  show (if U (((i - 1).toNat : Nat) + 1) < (pf_fst U (i - 1).toNat).2 then ((((i - 1).toNat : Nat) : Int) + 1, U (((i - 1).toNat : Nat) + 1)) else pf_fst U (i - 1).toNat) = _
  rw [show (((i - 1).toNat : Nat) : Int) + 1 = i by omega]
def pf_ua (μ : gf_M) (j : Int) : Int := (((pf_T (μ 42) (μ 41 1)).filter (pf_uf μ j.toNat)).length : Int)
theorem gf_iushr {X : gf_X} {E : gf_E} {Q : State → Prop} {nL : Nat} {φ : gf_F} {μ : gf_M} {pc : Nat} {lv : List (Nat × Value)} {st : List Value} {cc : ByteArray} {own : String} {rm : Room} {x y : Int} (C : gf_C X E cc nL own rm) (d : decode cc pc = .ok (.iushr, 1)) (h : 0 ≤ x ∧ x ≤ 2147483647 ∧ 0 ≤ y ∧ y ≤ 31) (kk : gf_G X E Q nL φ μ (pc + 1) lv (.int (gf_i (gf_shr x y)) :: st)) : gf_G X E Q nL φ μ pc lv (.int (gf_i y) :: .int (gf_i x) :: st) := by
  intro H locs ls hl hW hS
  have e0 : ∀ n : Nat, n < 32 → (((Int32.ofInt n).toUInt32 &&& Int32.toUInt32 31).toBitVec % 32).toNat = n := by decide +kernel
  have e0 := e0 y.toNat (by omega)
  rw [show ((y.toNat : Nat) : Int) = y by omega] at e0
  refine lv_iushr C.1 C.2.1 d ?_ (kk H locs ls hl hW hS)
  rw [gf_iN h.1]
  have := pk_ushrN (n := x.toNat) (by omega) (gf_i y) y.toNat e0
  have e3 : nI x.toNat = Int32.ofNat x.toNat := rfl
  rw [← e3, this]
  have hq : gf_shr x y = ((x.toNat / 2 ^ y.toNat : Nat) : Int) := by
    unfold gf_shr
    rw [Int.natCast_ediv]
    congr 1
    omega
  rw [hq, gf_iN (Int.natCast_nonneg _)]
  rfl
def pf_b1 (x : Int) : Int := x - gf_and (gf_shr x 1) 1431655765
def pf_b2 (x : Int) : Int := gf_and x 858993459 + gf_and (gf_shr x 2) 858993459
def pf_b3 (x : Int) : Int := gf_and (x + gf_shr x 4) 252645135
def pf_b4 (x : Int) : Int := x + gf_shr x 8
def pf_b5 (x : Int) : Int := x + gf_shr x 16
/-- how many bits -/
def pf_pc (x : Int) : Int := gf_and (pf_b5 (pf_b4 (pf_b3 (pf_b2 (pf_b1 x))))) 63
theorem pf_pc_R : ∀ n : Nat, n < 128 → (0 ≤ gf_shr n 1 ∧ 0 ≤ pf_b1 n ∧ pf_b1 n ≤ 127 ∧ 0 ≤ gf_shr (pf_b1 n) 2) ∧ (0 ≤ pf_b2 (pf_b1 n) ∧ pf_b2 (pf_b1 n) ≤ 255 ∧ 0 ≤ gf_shr (pf_b2 (pf_b1 n)) 4) ∧ (0 ≤ pf_b3 (pf_b2 (pf_b1 n)) ∧ pf_b3 (pf_b2 (pf_b1 n)) ≤ 255) ∧ (0 ≤ pf_b4 (pf_b3 (pf_b2 (pf_b1 n))) ∧ pf_b4 (pf_b3 (pf_b2 (pf_b1 n))) ≤ 255) ∧ (0 ≤ pf_b5 (pf_b4 (pf_b3 (pf_b2 (pf_b1 n)))) ∧ pf_b5 (pf_b4 (pf_b3 (pf_b2 (pf_b1 n)))) ≤ 255) ∧ 0 ≤ pf_pc n ∧ pf_pc n ≤ 7 := by decide +kernel
/-- whether some notice all -/
def pf_cvd (μ : gf_M) (s : Int) : Prop := ∀ q ∈ pf_T (μ 42) (μ 41 1), gf_and ((pf_nb (pf_no μ (μ 42) (μ 41 1) q.2) 0 (μ 0 3).toNat : Nat) : Int) s ≠ 0
noncomputable def pf_cov (P : Int → Prop) : Nat → Int
  | 0 => -9
  | n + 1 => @ite _ ((pf_cov P n = -9 ∨ pf_pc n < pf_pc (pf_cov P n)) ∧ P n) (Classical.propDecidable _) (n : Int) (pf_cov P n)
theorem pf_cov_R (P : Int → Prop) : ∀ n : Nat, pf_cov P n = -9 ∨ (0 ≤ pf_cov P n ∧ pf_cov P n < n)
  | 0 => Or.inl rfl
  | n + 1 => by
    unfold pf_cov
    split
    · right; omega
    · have := pf_cov_R P n; omega
theorem pf_cov_s (P : Int → Prop) {s : Int} (h : 0 ≤ s) (Q : Prop) [Decidable Q] (hQ : Q ↔ ((pf_cov P s.toNat = -9 ∨ pf_pc s < pf_pc (pf_cov P s.toNat)) ∧ P s)) : pf_cov P (s.toNat + 1) = if Q then s else pf_cov P s.toNat := by
  show @ite _ ((pf_cov P s.toNat = -9 ∨ pf_pc ((s.toNat : Nat) : Int) < pf_pc (pf_cov P s.toNat)) ∧ P ((s.toNat : Nat) : Int)) (Classical.propDecidable _) ((s.toNat : Nat) : Int) (pf_cov P s.toNat) = _
  rw [show ((s.toNat : Nat) : Int) = s by omega]
  by_cases hq : Q
  · rw [if_pos hq, if_pos (hQ.mp hq)]
  · rw [if_neg hq, if_neg (fun h => hq (hQ.mpr h))]
theorem gf_shl1_7 {c : Int} (h : 0 ≤ c ∧ c ≤ 7) : 1 ≤ gf_shl 1 c ∧ gf_shl 1 c ≤ 128 := by
  have : ∀ n : Nat, n ≤ 7 → 1 ≤ gf_shl 1 n ∧ gf_shl 1 n ≤ 128 := by decide
  have := this c.toNat (by omega)
  rw [show ((c.toNat : Nat) : Int) = c by omega] at this
  exact this
theorem dd_Fi_house_0 : decode cc_Fi_house 0 = .ok (.iload_n 1, 1) := by decide +kernel
theorem dd_Fi_house_1 : decode cc_Fi_house 1 = .ok (.iconst 4, 1) := by decide +kernel
theorem dd_Fi_house_2 : decode cc_Fi_house 2 = .ok (.invokestatic 78, 3) := by decide +kernel
theorem dd_Fi_house_5 : decode cc_Fi_house 5 = .ok (.ifCond .ne 5, 3) := by decide +kernel
theorem dd_Fi_house_8 : decode cc_Fi_house 8 = .ok (.iconst (-1), 1) := by decide +kernel
theorem dd_Fi_house_9 : decode cc_Fi_house 9 = .ok (.ireturn, 1) := by decide +kernel
theorem dd_Fi_house_10 : decode cc_Fi_house 10 = .ok (.aload_n 0, 1) := by decide +kernel
theorem dd_Fi_house_11 : decode cc_Fi_house 11 = .ok (.getfield 18, 3) := by decide +kernel
theorem dd_Fi_house_14 : decode cc_Fi_house 14 = .ok (.iload_n 1, 1) := by decide +kernel
theorem dd_Fi_house_15 : decode cc_Fi_house 15 = .ok (.aaload, 1) := by decide +kernel
theorem dd_Fi_house_16 : decode cc_Fi_house 16 = .ok (.invokevirtual 100, 3) := by decide +kernel
theorem dd_Fi_house_19 : decode cc_Fi_house 19 = .ok (.ifCond .ne 9, 3) := by decide +kernel
theorem dd_Fi_house_22 : decode cc_Fi_house 22 = .ok (.aload_n 0, 1) := by decide +kernel
theorem dd_Fi_house_23 : decode cc_Fi_house 23 = .ok (.iconst 1, 1) := by decide +kernel
theorem dd_Fi_house_24 : decode cc_Fi_house 24 = .ok (.invokevirtual 104, 3) := by decide +kernel
theorem dd_Fi_house_27 : decode cc_Fi_house 27 = .ok (.ireturn, 1) := by decide +kernel
theorem dd_Fi_house_28 : decode cc_Fi_house 28 = .ok (.aload_n 0, 1) := by decide +kernel
theorem dd_Fi_house_29 : decode cc_Fi_house 29 = .ok (.getfield 42, 3) := by decide +kernel
theorem dd_Fi_house_32 : decode cc_Fi_house 32 = .ok (.aload_n 0, 1) := by decide +kernel
theorem dd_Fi_house_33 : decode cc_Fi_house 33 = .ok (.getfield 18, 3) := by decide +kernel
theorem dd_Fi_house_36 : decode cc_Fi_house 36 = .ok (.iload_n 1, 1) := by decide +kernel
theorem dd_Fi_house_37 : decode cc_Fi_house 37 = .ok (.aaload, 1) := by decide +kernel
theorem dd_Fi_house_38 : decode cc_Fi_house 38 = .ok (.invokevirtual 124, 3) := by decide +kernel
theorem dd_Fi_house_41 : decode cc_Fi_house 41 = .ok (.bipush (-9), 2) := by decide +kernel
theorem dd_Fi_house_43 : decode cc_Fi_house 43 = .ok (.if_icmp .eq 6, 3) := by decide +kernel
theorem dd_Fi_house_46 : decode cc_Fi_house 46 = .ok (.bipush (-4), 2) := by decide +kernel
theorem dd_Fi_house_48 : decode cc_Fi_house 48 = .ok (.ireturn, 1) := by decide +kernel
theorem dd_Fi_house_49 : decode cc_Fi_house 49 = .ok (.aload_n 0, 1) := by decide +kernel
theorem dd_Fi_house_50 : decode cc_Fi_house 50 = .ok (.aload_n 0, 1) := by decide +kernel
theorem dd_Fi_house_51 : decode cc_Fi_house 51 = .ok (.getfield 42, 3) := by decide +kernel
theorem dd_Fi_house_54 : decode cc_Fi_house 54 = .ok (.getfield 128, 3) := by decide +kernel
theorem dd_Fi_house_57 : decode cc_Fi_house 57 = .ok (.putfield 131, 3) := by decide +kernel
theorem dd_Fi_house_60 : decode cc_Fi_house 60 = .ok (.iconst 0, 1) := by decide +kernel
theorem dd_Fi_house_61 : decode cc_Fi_house 61 = .ok (.istore_n 2, 1) := by decide +kernel
theorem dd_Fi_house_62 : decode cc_Fi_house 62 = .ok (.iload_n 2, 1) := by decide +kernel
theorem dd_Fi_house_63 : decode cc_Fi_house 63 = .ok (.aload_n 0, 1) := by decide +kernel
theorem dd_Fi_house_64 : decode cc_Fi_house 64 = .ok (.getfield 131, 3) := by decide +kernel
theorem dd_Fi_house_67 : decode cc_Fi_house 67 = .ok (.if_icmp .ge 27, 3) := by decide +kernel
theorem dd_Fi_house_70 : decode cc_Fi_house 70 = .ok (.aload_n 0, 1) := by decide +kernel
theorem dd_Fi_house_71 : decode cc_Fi_house 71 = .ok (.getfield 23, 3) := by decide +kernel
theorem dd_Fi_house_74 : decode cc_Fi_house 74 = .ok (.iload_n 2, 1) := by decide +kernel
theorem dd_Fi_house_75 : decode cc_Fi_house 75 = .ok (.aaload, 1) := by decide +kernel
theorem dd_Fi_house_76 : decode cc_Fi_house 76 = .ok (.aload_n 0, 1) := by decide +kernel
theorem dd_Fi_house_77 : decode cc_Fi_house 77 = .ok (.getfield 42, 3) := by decide +kernel
theorem dd_Fi_house_80 : decode cc_Fi_house 80 = .ok (.getfield 132, 3) := by decide +kernel
theorem dd_Fi_house_83 : decode cc_Fi_house 83 = .ok (.iload_n 2, 1) := by decide +kernel
theorem dd_Fi_house_84 : decode cc_Fi_house 84 = .ok (.aaload, 1) := by decide +kernel
theorem dd_Fi_house_85 : decode cc_Fi_house 85 = .ok (.invokevirtual 133, 3) := by decide +kernel
theorem dd_Fi_house_88 : decode cc_Fi_house 88 = .ok (.iinc 2 1, 3) := by decide +kernel
theorem dd_Fi_house_91 : decode cc_Fi_house 91 = .ok (.goto (-29), 3) := by decide +kernel
theorem dd_Fi_house_94 : decode cc_Fi_house 94 = .ok (.aload_n 0, 1) := by decide +kernel
theorem dd_Fi_house_95 : decode cc_Fi_house 95 = .ok (.getfield 35, 3) := by decide +kernel
theorem dd_Fi_house_98 : decode cc_Fi_house 98 = .ok (.invokevirtual 137, 3) := by decide +kernel
theorem dd_Fi_house_101 : decode cc_Fi_house 101 = .ok (.iconst 0, 1) := by decide +kernel
theorem dd_Fi_house_102 : decode cc_Fi_house 102 = .ok (.istore_n 2, 1) := by decide +kernel
theorem dd_Fi_house_103 : decode cc_Fi_house 103 = .ok (.iload_n 2, 1) := by decide +kernel
theorem dd_Fi_house_104 : decode cc_Fi_house 104 = .ok (.iconst 3, 1) := by decide +kernel
theorem dd_Fi_house_105 : decode cc_Fi_house 105 = .ok (.if_icmp .ge 19, 3) := by decide +kernel
theorem dd_Fi_house_108 : decode cc_Fi_house 108 = .ok (.aload_n 0, 1) := by decide +kernel
theorem dd_Fi_house_109 : decode cc_Fi_house 109 = .ok (.getfield 30, 3) := by decide +kernel
theorem dd_Fi_house_112 : decode cc_Fi_house 112 = .ok (.iload_n 2, 1) := by decide +kernel
theorem dd_Fi_house_113 : decode cc_Fi_house 113 = .ok (.aaload, 1) := by decide +kernel
theorem dd_Fi_house_114 : decode cc_Fi_house 114 = .ok (.iconst 0, 1) := by decide +kernel
theorem dd_Fi_house_115 : decode cc_Fi_house 115 = .ok (.putfield 140, 3) := by decide +kernel
theorem dd_Fi_house_118 : decode cc_Fi_house 118 = .ok (.iinc 2 1, 3) := by decide +kernel
theorem dd_Fi_house_121 : decode cc_Fi_house 121 = .ok (.goto (-18), 3) := by decide +kernel
theorem dd_Fi_house_124 : decode cc_Fi_house 124 = .ok (.aload_n 0, 1) := by decide +kernel
theorem dd_Fi_house_125 : decode cc_Fi_house 125 = .ok (.getfield 131, 3) := by decide +kernel
theorem dd_Fi_house_128 : decode cc_Fi_house 128 = .ok (.ireturn, 1) := by decide +kernel
set_option maxRecDepth 100000 in
set_option maxHeartbeats 4000000 in
theorem ct_Fi_house (l : Launch) (E : gf_E) (t : Int) (μ : gf_M) (ht : gf_R t) (htx : ∀ t : Int, 0 ≤ t → t < 4 → -1 ≤ μ (15 + 2 * t) 1 ∧ μ (15 + 2 * t) 1 ≤ 60)(htb : ∀ t j : Int, 0 ≤ t → t < 4 → 0 ≤ j → j < μ (15 + 2 * t) 1 → -128 ≤ μ (16 + 2 * t) j ∧ μ (16 + 2 * t) j ≤ 127) : gf_Mi l E yy_Fi_house cc_Fi_house 3 .int (gf_rm 3 69) 81 gf_ref μ [.ref (gf_ad E 0), .int (gf_i t)] (fun q μ' => (¬ (0 ≤ t ∧ t < 4) → q = -1 ∧ μ' = μ) ∧ (0 ≤ t ∧ t < 4 → (μ (15 + 2 * t) 1 = -1 → q = -3 ∧ μ' = gf_fd μ 1) ∧ (μ (15 + 2 * t) 1 ≠ -1 → ((pf_PR μ t).1 ≠ -9 → q = -4 ∧ gf_sc μ' μ) ∧ ((pf_PR μ t).1 = -9 → q = ((pf_PR μ t).2.length : Int) ∧ (2 ≤ q ∧ q ≤ 7) ∧ μ' 0 3 = q ∧ gf_hold μ' 24 (pf_PR μ t).2 ∧ μ' 41 1 = 0 ∧ μ' 41 2 = 0 ∧ (∀ k : Int, 0 ≤ k → k < 3 → μ' (32 + 3 * k) 4 = 0) ∧ ∀ a b : Int, ¬ (44 ≤ a ∧ a ≤ 63) → ¬ (a = 0 ∧ b = 3) → ¬ (24 ≤ a ∧ a ≤ 30) → ¬ (a = 41 ∧ (b = 1 ∨ b = 2)) → ¬ (b = 4 ∧ (a = 32 ∨ a = 35 ∨ a = 38)) → μ' a b = μ a b)))) := by
  refine gf_mi (by decide +kernel) (Nat.le_of_ble_eq_true rfl) (by decide) (fun X Q hlx C hQ => ?_)
  subst hlx
  replace C : gf_C X E cc_Fi_house 3 "GuardFigures" (gf_rm 3 69) := C
  show gf_G X E Q 3 gf_φ μ 0 [(0, .ref (gf_ad E 0)), (1, .int (gf_i t))] []
  refine gf_iload_n C dd_Fi_house_0 1 rfl ?_
  refine gf_iconst C dd_Fi_house_1 ?_
  refine gf_callSi (st := []) (As := [.int (gf_i t), .int (gf_i 4)]) C wk_Fi_78 (ct_Fi_isWithin (gf_xl X) E t 4 μ (by omega) (by omega)) rfl ⟨rfl, rfl, rfl, rfl⟩ (Nat.le_of_ble_eq_true rfl) rfl dd_Fi_house_2 (fun r2 m2 hR2 hp2 => ?_)
  have hr2 := hp2.1
  refine gf_pm hp2.2 ?_
  refine gf_if_ne 10 C dd_Fi_house_5 (by decide) (by omega) (fun h5 => ?_) (fun h5 => ?_)
  · skip
    have hin : 0 ≤ t ∧ t < 4 := by have := hr2.1; have := hr2.2; omega
    have htt := htx t hin.1 hin.2
    refine gf_aload_n C dd_Fi_house_10 0 rfl ?_
    refine gf_getA (r := 14) C gf_cl6 fl_Fi_18 dd_Fi_house_11 rfl (show gf_is 81 0 0 6 17 by decide) (by decide) (by decide) ?_
    refine gf_iload_n C dd_Fi_house_14 1 rfl ?_
    have ha15 := gf_text_of (r := t) (by omega)
    refine gf_aald C dd_Fi_house_15 (show gf_is 81 14 4 3 4 by decide) (by decide) (by omega) ha15.1 (by first | omega | exact ha15.2.1.1 | exact ha15.2.1) ?_
    refine gf_callVi (st := []) (As := []) C wk_Fi_100 gf_cl3 ha15.2.1 (ct_Ro_isThere (gf_xl X) E (15 + 2 * t) 60 μ ha15.2) rfl ⟨rfl, rfl, rfl, rfl⟩ (Nat.le_of_ble_eq_true rfl) rfl dd_Fi_house_16 (fun r16 m16 hR16 hp16 => ?_)
    have hr16 := hp16.1
    refine gf_pm hp16.2 ?_
    refine gf_if_ne 28 C dd_Fi_house_19 (by decide) (by omega) (fun h19 => ?_) (fun h19 => ?_)
    · skip
      refine gf_aload_n C dd_Fi_house_28 0 rfl ?_
      refine gf_getA (r := 44) C gf_cl6 fl_Fi_42 dd_Fi_house_29 rfl (show gf_is 81 0 0 6 17 by decide) (by decide) (by decide) ?_
      refine gf_aload_n C dd_Fi_house_32 0 rfl ?_
      refine gf_getA (r := 14) C gf_cl6 fl_Fi_18 dd_Fi_house_33 rfl (show gf_is 81 0 0 6 17 by decide) (by decide) (by decide) ?_
      refine gf_iload_n C dd_Fi_house_36 1 rfl ?_
      have ha37 := gf_text_of (r := t) (by omega)
      refine gf_aald C dd_Fi_house_37 (show gf_is 81 14 4 3 4 by decide) (by decide) (by omega) ha37.1 (by first | omega | exact ha37.2.1.1 | exact ha37.2.1) ?_
      have e16 : (15 + 2 * t + 1 : Int) = 16 + 2 * t := by omega
      refine gf_callVi (st := []) (As := [.ref (gf_ad E (15 + 2 * t))]) C wk_Fi_124 gf_cl2 (show gf_is 81 44 0 2 2 by decide) (ct_Re_read (gf_xl X) E (15 + 2 * t) μ ha37.2 (by omega) (by omega) (fun j h0 h1 => by rw [e16]; exact htb t j hin.1 hin.2 h0 h1)) rfl ⟨rfl, rfl, rfl, rfl⟩ (Nat.le_of_ble_eq_true rfl) rfl dd_Fi_house_38 (fun r38 m38 hR38 hp38 => ?_)
      obtain ⟨hpa, hpb, hpc⟩ := hp38
      rw [e16] at hpa hpb
      replace hpa : r38 = (pf_PR μ t).1 := hpa
      refine gf_bipush C dd_Fi_house_41 (by decide +kernel) ?_
      refine gf_icmp_eq 49 C dd_Fi_house_43 (by decide) (by omega) (by omega) (fun h43 => ?_) (fun h43 => ?_)
      · skip
        obtain ⟨hL, hL2, hL7, hH⟩ := hpb h43
        replace hL : m38 44 1 = ((pf_PR μ t).2.length : Int) := hL
        replace hH : gf_hold m38 46 (pf_PR μ t).2 := hH
        refine gf_aload_n C dd_Fi_house_49 0 rfl ?_
        refine gf_aload_n C dd_Fi_house_50 0 rfl ?_
        refine gf_getA (r := 44) C gf_cl6 fl_Fi_42 dd_Fi_house_51 rfl (show gf_is 81 0 0 6 17 by decide) (by decide) (by decide) ?_
        refine gf_getI (z := 1) C gf_cl2 fl_Fi_128 dd_Fi_house_54 rfl rfl (show gf_is 81 44 0 2 2 by decide) (fun hv54 => ?_)
        refine gf_putI (z := 3) C gf_cl6 fl_Fi_131 dd_Fi_house_57 rfl rfl rfl (by decide +kernel) (show gf_is 81 0 0 6 17 by decide) (by omega) ?_
        refine gf_nmM (fun m57 hm57 => ?_)
        have c57 : m57 0 3 = m38 44 1 := by rw [hm57]; exact gf_up_s
        have f57 : ∀ a b : Int, ¬ (a = 0 ∧ b = 3) → m57 a b = m38 a b := fun a b h => by rw [hm57]; exact gf_up_o h
        refine gf_iconst C dd_Fi_house_60 ?_
        refine gf_istore_n (lv' := [(2, .int (gf_i 0)), (0, .ref (gf_ad E 0)), (1, .int (gf_i t))]) C dd_Fi_house_61 (by decide) rfl ?_
        have L62_1 : ∀ (N : Nat) (i : Int) (m : gf_M) , (0 ≤ i ∧ i ≤ m57 0 3 ∧ (∀ j z : Int, 0 ≤ j → j < i → 0 ≤ z → z ≤ 2 → m (24 + j) z = m57 (46 + j) z) ∧ ∀ a b : Int, ¬ (24 ≤ a ∧ a ≤ 30) → m a b = m57 a b) → (7 - i).toNat < N → gf_G X E Q 3 gf_φ m 62 [(2, .int (gf_i i)), (0, .ref (gf_ad E 0)), (1, .int (gf_i t))] [] := by
          intro N
          induction N with
          | zero => intro i m hinv hN; exact absurd hN (Nat.not_lt_zero _)
          | succ N ih62_1 =>
            intro i m hinv hN
            have hinv0 := hinv
            obtain ⟨hi0, hi1, hcp, hfr⟩ := hinv
            have e03 : m 0 3 = m57 0 3 := hfr 0 3 (by decide)
            refine gf_iload_n C dd_Fi_house_62 0 rfl ?_
            refine gf_aload_n C dd_Fi_house_63 1 rfl ?_
            refine gf_getI (z := 3) C gf_cl6 fl_Fi_131 dd_Fi_house_64 rfl rfl (show gf_is 81 0 0 6 17 by decide) (fun hv64 => ?_)
            refine gf_icmp_ge 94 C dd_Fi_house_67 (by decide) (by omega) (by omega) (fun h67 => ?_) (fun h67 => ?_)
            · skip
              refine gf_aload_n C dd_Fi_house_94 1 rfl ?_
              refine gf_getA (r := 41) C gf_cl6 fl_Fi_35 dd_Fi_house_95 rfl (show gf_is 81 0 0 6 17 by decide) (by decide) (by decide) ?_
              refine gf_callVv (st := []) (As := []) C wk_Fi_137 gf_cl5 (show gf_is 81 41 0 5 5 by decide) (ct_Wr_clear (gf_xl X) E 41 m gf_oWr41) rfl ⟨rfl, rfl, rfl, rfl⟩ (Nat.le_of_ble_eq_true rfl) rfl dd_Fi_house_98 (fun m98 hp98 => ?_)
              refine gf_iconst C dd_Fi_house_101 ?_
              refine gf_istore_n (lv' := [(2, .int (gf_i 0)), (0, .ref (gf_ad E 0)), (1, .int (gf_i t))]) C dd_Fi_house_102 (by decide) rfl ?_
              have L103_2 : ∀ (N : Nat) (k : Int) (n : gf_M) , (0 ≤ k ∧ k ≤ 3 ∧ (∀ j : Int, 0 ≤ j → j < k → n (32 + 3 * j) 4 = 0) ∧ ∀ a b : Int, ¬ (b = 4 ∧ (a = 32 ∨ a = 35 ∨ a = 38)) → n a b = m98 a b) → (3 - k).toNat < N → gf_G X E Q 3 gf_φ n 103 [(2, .int (gf_i k)), (0, .ref (gf_ad E 0)), (1, .int (gf_i t))] [] := by
                intro N
                induction N with
                | zero => intro k n hinv hN; exact absurd hN (Nat.not_lt_zero _)
                | succ N ih103_2 =>
                  intro k n hinv hN
                  have hinv0 := hinv
                  obtain ⟨hk0, hk1, hkp, hkf⟩ := hinv
                  refine gf_iload_n C dd_Fi_house_103 0 rfl ?_
                  refine gf_iconst C dd_Fi_house_104 ?_
                  refine gf_icmp_ge 124 C dd_Fi_house_105 (by decide) (by omega) (by omega) (fun h105 => ?_) (fun h105 => ?_)
                  · skip
                    refine gf_aload_n C dd_Fi_house_124 1 rfl ?_
                    refine gf_getI (z := 3) C gf_cl6 fl_Fi_131 dd_Fi_house_125 rfl rfl (show gf_is 81 0 0 6 17 by decide) (fun hv125 => ?_)
                    refine gf_iret C hQ dd_Fi_house_128 (by omega) ?_
                    have g98 : ∀ a b : Int, ¬ (a = 41 ∧ (b = 1 ∨ b = 2)) → m98 a b = m a b := fun a b h => by rw [hp98, gf_up_o (by omega), gf_up_o (by omega)]
                    have g03 : n 0 3 = ((pf_PR μ t).2.length : Int) := by rw [hkf 0 3 (by decide), g98 0 3 (by decide), e03, c57, hL]
                    refine ⟨fun h => absurd h (by omega), fun _ => ⟨fun h => absurd h (by omega), fun _ => ⟨fun h => absurd (by omega) h, fun _ => ⟨g03, by omega, rfl, ?_, ?_, ?_, fun j h0 h1 => hkp j h0 (by omega), fun a b h1 h2 h3 h4 h5 => ?_⟩⟩⟩⟩
                    · intro j q hq
                      have hj : (j : Int) < (pf_PR μ t).2.length := by
                        have := (List.getElem?_eq_some_iff.mp hq).1
                        omega
                      have h2 := hH j q hq
                      have e : ∀ z : Int, 0 ≤ z → z ≤ 2 → n (24 + j) z = m38 (46 + j) z := fun z z0 z2 => by
                        rw [hkf _ _ (by omega), g98 _ _ (by omega), hcp j z (by omega) (by omega) z0 z2, f57 _ _ (by omega)]
                      rw [e 0 (by decide) (by decide), e 1 (by decide) (by decide), e 2 (by decide) (by decide)]
                      exact h2
                    · rw [hkf 41 1 (by decide), hp98, gf_up_j (by decide), gf_up_s]
                    · rw [hkf 41 2 (by decide), hp98, gf_up_s]
                    · rw [hkf a b h5, g98 a b h4, hfr a b h3, f57 a b h2, hpc a b (by omega)]
                  · skip
                    refine gf_aload_n C dd_Fi_house_108 1 rfl ?_
                    refine gf_getA (r := 31) C gf_cl6 fl_Fi_30 dd_Fi_house_109 rfl (show gf_is 81 0 0 6 17 by decide) (by decide) (by decide) ?_
                    refine gf_iload_n C dd_Fi_house_112 0 rfl ?_
                    have ha113 := gf_kept_of (r := k) (by omega)
                    refine gf_aald C dd_Fi_house_113 (show gf_is 81 31 4 5 3 by decide) (by decide) (by omega) ha113.1 (by first | omega | exact ha113.2.1.1 | exact ha113.2.1) ?_
                    refine gf_iconst C dd_Fi_house_114 ?_
                    refine gf_putZ (z := 4) C gf_cl5 fl_Fi_140 dd_Fi_house_115 rfl rfl rfl (by decide +kernel) ha113.2.1 (by omega) ?_
                    refine gf_nmM (fun m115 hm115 => ?_)
                    obtain ⟨x118, hx118⟩ : ∃ y : Int, y = k + 1 := ⟨_, rfl⟩
                    refine gf_iinc (q := 0) (v := x118) (lv' := [(2, .int (gf_i x118)), (0, .ref (gf_ad E 0)), (1, .int (gf_i t))]) C dd_Fi_house_118 rfl hx118 (by decide) rfl ?_
                    refine gf_goto 103 C dd_Fi_house_121 (by decide) ?_
                    refine gf_lsub [0, 1, 2] rfl ?_
                    exact ih103_2 x118 m115 (by
                            refine ⟨by omega, by omega, fun j h0 h1 => ?_, fun a b h => by rw [hm115, gf_up_o (by omega)]; exact hkf a b h⟩
                            rw [hm115]
                            by_cases e : j = k
                            · subst e; exact gf_up_s
                            · rw [gf_up_k (by omega)]; exact hkp j h0 (by omega)) (by omega)
              refine gf_lsub [0, 1, 2] rfl ?_
              exact L103_2 _ 0 m98 (⟨by omega, by omega, fun j h0 h1 => by omega, fun a b _ => rfl⟩) (Nat.lt_succ_self _)
            · skip
              refine gf_aload_n C dd_Fi_house_70 1 rfl ?_
              refine gf_getA (r := 23) C gf_cl6 fl_Fi_23 dd_Fi_house_71 rfl (show gf_is 81 0 0 6 17 by decide) (by decide) (by decide) ?_
              refine gf_iload_n C dd_Fi_house_74 0 rfl ?_
              have ha75 := gf_guard_of (r := i) (by omega)
              refine gf_aald C dd_Fi_house_75 (show gf_is 81 23 4 4 7 by decide) (by decide) (by omega) ha75.1 (by first | omega | exact ha75.2.1.1 | exact ha75.2.1) ?_
              refine gf_aload_n C dd_Fi_house_76 1 rfl ?_
              refine gf_getA (r := 44) C gf_cl6 fl_Fi_42 dd_Fi_house_77 rfl (show gf_is 81 0 0 6 17 by decide) (by decide) (by decide) ?_
              refine gf_getA (r := 45) C gf_cl2 fl_Fi_132 dd_Fi_house_80 rfl (show gf_is 81 44 0 2 2 by decide) (by decide) (by decide) ?_
              refine gf_iload_n C dd_Fi_house_83 0 rfl ?_
              have ha84 := gf_rguard_of (r := i) (by omega)
              refine gf_aald C dd_Fi_house_84 (show gf_is 81 45 4 4 7 by decide) (by decide) (by omega) ha84.1 (by first | omega | exact ha84.2.1.1 | exact ha84.2.1) ?_
              refine gf_callVv (st := []) (As := [.ref (gf_ad E (46 + i))]) C wk_Fi_133 gf_cl0 ha75.2 (ct_Gd_resemble (gf_xl X) E (24 + i) (46 + i) m ha75.2 ha84.2) rfl ⟨rfl, rfl, rfl, rfl⟩ (Nat.le_of_ble_eq_true rfl) rfl dd_Fi_house_85 (fun m85 hp85 => ?_)
              obtain ⟨x88, hx88⟩ : ∃ y : Int, y = i + 1 := ⟨_, rfl⟩
              refine gf_iinc (q := 0) (v := x88) (lv' := [(2, .int (gf_i x88)), (0, .ref (gf_ad E 0)), (1, .int (gf_i t))]) C dd_Fi_house_88 rfl hx88 (by decide) rfl ?_
              refine gf_goto 62 C dd_Fi_house_91 (by decide) ?_
              refine gf_lsub [0, 1, 2] rfl ?_
              exact ih62_1 x88 m85 (by
                      refine ⟨by omega, by omega, fun j z h0 h1 z0 z2 => ?_, fun a b h => by rw [hp85, gf_up_k (by omega), gf_up_k (by omega), gf_up_k (by omega)]; exact hfr a b h⟩
                      by_cases e : j = i
                      · subst e
                        rcases (show z = 0 ∨ z = 1 ∨ z = 2 by omega) with h | h | h
                        · subst h; rw [hp85, gf_up_j (by decide), gf_up_j (by decide), gf_up_s]; exact hfr _ _ (by omega)
                        · subst h; rw [hp85, gf_up_j (by decide), gf_up_s]; exact hfr _ _ (by omega)
                        · subst h; rw [hp85, gf_up_s]; exact hfr _ _ (by omega)
                      · rw [hp85, gf_up_k (by omega), gf_up_k (by omega), gf_up_k (by omega)]
                        exact hcp j z h0 (by omega) z0 z2) (by omega)
        refine gf_lsub [0, 1, 2] rfl ?_
        exact L62_1 _ 0 m57 (⟨by omega, by omega, fun j z h0 h1 => by omega, fun a b _ => rfl⟩) (Nat.lt_succ_self _)
      · skip
        refine gf_bipush C dd_Fi_house_46 (by decide +kernel) ?_
        refine gf_iret C hQ dd_Fi_house_48 (by omega) ?_
        exact ⟨fun h => absurd h (by omega), fun _ => ⟨fun h => absurd h (by omega), fun _ => ⟨fun _ => ⟨rfl, fun a b h => hpc a b (by omega)⟩, fun h => absurd h (by omega)⟩⟩⟩
    · skip
      refine gf_aload_n C dd_Fi_house_22 0 rfl ?_
      refine gf_iconst C dd_Fi_house_23 ?_
      refine gf_callVi (st := []) (As := [.int (gf_i 1)]) C wk_Fi_104 gf_cl6 (show gf_is 81 0 0 6 17 by decide) (ct_Fi_found (gf_xl X) E 1 μ (by omega)) rfl ⟨rfl, rfl, rfl, rfl⟩ (Nat.le_of_ble_eq_true rfl) rfl dd_Fi_house_24 (fun r24 m24 hR24 hp24 => ?_)
      refine gf_iret C hQ dd_Fi_house_27 (by omega) ?_
      exact ⟨fun h => absurd h (by omega), fun _ => ⟨fun _ => hp24, fun h => absurd h (by omega)⟩⟩
  · skip
    refine gf_iconst C dd_Fi_house_8 ?_
    refine gf_iret C hQ dd_Fi_house_9 (by omega) ?_
    exact ⟨fun _ => ⟨rfl, rfl⟩, fun h => absurd h (by omega)⟩

theorem dd_Fi_best_0 : decode cc_Fi_best 0 = .ok (.aload_n 0, 1) := by decide +kernel
theorem dd_Fi_best_1 : decode cc_Fi_best 1 = .ok (.getfield 131, 3) := by decide +kernel
theorem dd_Fi_best_4 : decode cc_Fi_best 4 = .ok (.ifCond .ne 6, 3) := by decide +kernel
theorem dd_Fi_best_7 : decode cc_Fi_best 7 = .ok (.bipush (-4), 2) := by decide +kernel
theorem dd_Fi_best_9 : decode cc_Fi_best 9 = .ok (.ireturn, 1) := by decide +kernel
theorem dd_Fi_best_10 : decode cc_Fi_best 10 = .ok (.aload_n 0, 1) := by decide +kernel
theorem dd_Fi_best_11 : decode cc_Fi_best 11 = .ok (.getfield 49, 3) := by decide +kernel
theorem dd_Fi_best_14 : decode cc_Fi_best 14 = .ok (.aload_n 0, 1) := by decide +kernel
theorem dd_Fi_best_15 : decode cc_Fi_best 15 = .ok (.getfield 35, 3) := by decide +kernel
theorem dd_Fi_best_18 : decode cc_Fi_best 18 = .ok (.aload_n 0, 1) := by decide +kernel
theorem dd_Fi_best_19 : decode cc_Fi_best 19 = .ok (.getfield 23, 3) := by decide +kernel
theorem dd_Fi_best_22 : decode cc_Fi_best 22 = .ok (.iconst 0, 1) := by decide +kernel
theorem dd_Fi_best_23 : decode cc_Fi_best 23 = .ok (.aload_n 0, 1) := by decide +kernel
theorem dd_Fi_best_24 : decode cc_Fi_best 24 = .ok (.getfield 131, 3) := by decide +kernel
theorem dd_Fi_best_27 : decode cc_Fi_best 27 = .ok (.invokevirtual 198, 3) := by decide +kernel
theorem dd_Fi_best_30 : decode cc_Fi_best 30 = .ok (.iconst 0, 1) := by decide +kernel
theorem dd_Fi_best_31 : decode cc_Fi_best 31 = .ok (.istore_n 1, 1) := by decide +kernel
theorem dd_Fi_best_32 : decode cc_Fi_best 32 = .ok (.aload_n 0, 1) := by decide +kernel
theorem dd_Fi_best_33 : decode cc_Fi_best 33 = .ok (.getfield 49, 3) := by decide +kernel
theorem dd_Fi_best_36 : decode cc_Fi_best 36 = .ok (.iconst 0, 1) := by decide +kernel
theorem dd_Fi_best_37 : decode cc_Fi_best 37 = .ok (.invokevirtual 202, 3) := by decide +kernel
theorem dd_Fi_best_40 : decode cc_Fi_best 40 = .ok (.istore_n 2, 1) := by decide +kernel
theorem dd_Fi_best_41 : decode cc_Fi_best 41 = .ok (.iconst 1, 1) := by decide +kernel
theorem dd_Fi_best_42 : decode cc_Fi_best 42 = .ok (.istore_n 3, 1) := by decide +kernel
theorem dd_Fi_best_43 : decode cc_Fi_best 43 = .ok (.iload_n 3, 1) := by decide +kernel
theorem dd_Fi_best_44 : decode cc_Fi_best 44 = .ok (.aload_n 0, 1) := by decide +kernel
theorem dd_Fi_best_45 : decode cc_Fi_best 45 = .ok (.getfield 131, 3) := by decide +kernel
theorem dd_Fi_best_48 : decode cc_Fi_best 48 = .ok (.if_icmp .ge 30, 3) := by decide +kernel
theorem dd_Fi_best_51 : decode cc_Fi_best 51 = .ok (.aload_n 0, 1) := by decide +kernel
theorem dd_Fi_best_52 : decode cc_Fi_best 52 = .ok (.getfield 49, 3) := by decide +kernel
theorem dd_Fi_best_55 : decode cc_Fi_best 55 = .ok (.iload_n 3, 1) := by decide +kernel
theorem dd_Fi_best_56 : decode cc_Fi_best 56 = .ok (.invokevirtual 202, 3) := by decide +kernel
theorem dd_Fi_best_59 : decode cc_Fi_best 59 = .ok (.istore 4, 2) := by decide +kernel
theorem dd_Fi_best_61 : decode cc_Fi_best 61 = .ok (.iload 4, 2) := by decide +kernel
theorem dd_Fi_best_63 : decode cc_Fi_best 63 = .ok (.iload_n 2, 1) := by decide +kernel
theorem dd_Fi_best_64 : decode cc_Fi_best 64 = .ok (.if_icmp .ge 8, 3) := by decide +kernel
theorem dd_Fi_best_67 : decode cc_Fi_best 67 = .ok (.iload_n 3, 1) := by decide +kernel
theorem dd_Fi_best_68 : decode cc_Fi_best 68 = .ok (.istore_n 1, 1) := by decide +kernel
theorem dd_Fi_best_69 : decode cc_Fi_best 69 = .ok (.iload 4, 2) := by decide +kernel
theorem dd_Fi_best_71 : decode cc_Fi_best 71 = .ok (.istore_n 2, 1) := by decide +kernel
theorem dd_Fi_best_72 : decode cc_Fi_best 72 = .ok (.iinc 3 1, 3) := by decide +kernel
theorem dd_Fi_best_75 : decode cc_Fi_best 75 = .ok (.goto (-32), 3) := by decide +kernel
theorem dd_Fi_best_78 : decode cc_Fi_best 78 = .ok (.aload_n 0, 1) := by decide +kernel
theorem dd_Fi_best_79 : decode cc_Fi_best 79 = .ok (.iload_n 2, 1) := by decide +kernel
theorem dd_Fi_best_80 : decode cc_Fi_best 80 = .ok (.putfield 205, 3) := by decide +kernel
theorem dd_Fi_best_83 : decode cc_Fi_best 83 = .ok (.iload_n 1, 1) := by decide +kernel
theorem dd_Fi_best_84 : decode cc_Fi_best 84 = .ok (.ireturn, 1) := by decide +kernel
set_option maxRecDepth 100000 in
set_option maxHeartbeats 4000000 in
theorem ct_Fi_best (l : Launch) (E : gf_E) (μ : gf_M) (hc7 : 0 ≤ μ 0 3 ∧ μ 0 3 ≤ 7) (hG : gf_okGs μ (μ 0 3)) (hs : 0 ≤ μ 41 1 ∧ μ 41 1 ≤ 8) (hF : gf_okF μ 42 (μ 41 1)) : gf_Mi l E yy_Fi_best cc_Fi_best 5 .int (gf_rm 4 95) 81 gf_ref μ [.ref (gf_ad E 0)] (fun q μ' => (μ 0 3 = 0 → q = -4 ∧ μ' = μ) ∧ (μ 0 3 ≠ 0 → q = (pf_fst (pf_ua μ) (μ 0 3 - 1).toNat).1 ∧ gf_sc μ' (gf_tl μ (pf_fst (pf_ua μ) (μ 0 3 - 1).toNat).2))) := by
  refine gf_mi (by decide +kernel) (Nat.le_of_ble_eq_true rfl) (by decide) (fun X Q hlx C hQ => ?_)
  subst hlx
  replace C : gf_C X E cc_Fi_best 5 "GuardFigures" (gf_rm 4 95) := C
  show gf_G X E Q 5 gf_φ μ 0 [(0, .ref (gf_ad E 0))] []
  have h88 := pf_T_88 hs hF
  refine gf_aload_n C dd_Fi_best_0 0 rfl ?_
  refine gf_getI (z := 3) C gf_cl6 fl_Fi_131 dd_Fi_best_1 rfl rfl (show gf_is 81 0 0 6 17 by decide) (fun hv1 => ?_)
  refine gf_if_ne 10 C dd_Fi_best_4 (by decide) (by omega) (fun h4 => ?_) (fun h4 => ?_)
  · skip
    refine gf_aload_n C dd_Fi_best_10 0 rfl ?_
    refine gf_getA (r := 53) C gf_cl6 fl_Fi_49 dd_Fi_best_11 rfl (show gf_is 81 0 0 6 17 by decide) (by decide) (by decide) ?_
    refine gf_aload_n C dd_Fi_best_14 0 rfl ?_
    refine gf_getA (r := 41) C gf_cl6 fl_Fi_35 dd_Fi_best_15 rfl (show gf_is 81 0 0 6 17 by decide) (by decide) (by decide) ?_
    refine gf_aload_n C dd_Fi_best_18 0 rfl ?_
    refine gf_getA (r := 23) C gf_cl6 fl_Fi_23 dd_Fi_best_19 rfl (show gf_is 81 0 0 6 17 by decide) (by decide) (by decide) ?_
    refine gf_iconst C dd_Fi_best_22 ?_
    refine gf_aload_n C dd_Fi_best_23 0 rfl ?_
    refine gf_getI (z := 3) C gf_cl6 fl_Fi_131 dd_Fi_best_24 rfl rfl (show gf_is 81 0 0 6 17 by decide) (fun hv24 => ?_)
    refine gf_callVv (st := []) (As := [.ref (gf_ad E 41), .ref (gf_ad E 23), .int (gf_i 0), .int (gf_i (μ 0 3))]) C wk_Fi_198 gf_cl4 (show gf_is 81 53 0 4 6 by decide) (ct_Wa_lookI (gf_xl X) E 0 (μ 0 3) (μ 0 3) μ (by omega) (by omega) (by omega) (by omega) hG hs hF) rfl ⟨rfl, rfl, rfl, rfl⟩ (Nat.le_of_ble_eq_true rfl) rfl dd_Fi_best_27 (fun m27 hp27 => ?_)
    have hfr : ∀ x y : Int, ¬ (53 ≤ x ∧ x ≤ 58) → m27 x y = μ x y := hp27.2.2.2.2.2
    have e03 : m27 0 3 = μ 0 3 := hfr 0 3 (by decide)
    refine gf_iconst C dd_Fi_best_30 ?_
    refine gf_istore_n (lv' := [(1, .int (gf_i 0)), (0, .ref (gf_ad E 0))]) C dd_Fi_best_31 (by decide) rfl ?_
    refine gf_aload_n C dd_Fi_best_32 1 rfl ?_
    refine gf_getA (r := 53) C gf_cl6 fl_Fi_49 dd_Fi_best_33 rfl (show gf_is 81 0 0 6 17 by decide) (by decide) (by decide) ?_
    refine gf_iconst C dd_Fi_best_36 ?_
    refine gf_callVi (st := []) (As := [.int (gf_i 0)]) C wk_Fi_202 gf_cl4 (show gf_is 81 53 0 4 6 by decide) (ct_Wa_unseen2 (gf_xl X) E 0 m27 μ (0 : Int).toNat (μ 0 3).toNat hp27 (by omega) (by omega) h88) rfl ⟨rfl, rfl, rfl, rfl⟩ (Nat.le_of_ble_eq_true rfl) rfl dd_Fi_best_37 (fun r37 m37 hR37 hp37 => ?_)
    have hr37 := hp37.1
    refine gf_pm hp37.2 ?_
    refine gf_istore_n (lv' := [(2, .int (gf_i r37)), (1, .int (gf_i 0)), (0, .ref (gf_ad E 0))]) C dd_Fi_best_40 (by decide) rfl ?_
    refine gf_iconst C dd_Fi_best_41 ?_
    refine gf_istore_n (lv' := [(3, .int (gf_i 1)), (2, .int (gf_i r37)), (1, .int (gf_i 0)), (0, .ref (gf_ad E 0))]) C dd_Fi_best_42 (by decide) rfl ?_
    have L43_1 : ∀ (N : Nat) (b f i : Int) , (1 ≤ i ∧ i ≤ μ 0 3 ∧ b = (pf_fst (pf_ua μ) (i - 1).toNat).1 ∧ f = (pf_fst (pf_ua μ) (i - 1).toNat).2 ∧ (0 ≤ f ∧ f ≤ 255) ∧ 0 ≤ b ∧ b ≤ 7) → (7 - i).toNat < N → gf_G X E Q 5 gf_φ m27 43 [(1, .int (gf_i b)), (2, .int (gf_i f)), (3, .int (gf_i i)), (0, .ref (gf_ad E 0))] [] := by
      intro N
      induction N with
      | zero => intro b f i hinv hN; exact absurd hN (Nat.not_lt_zero _)
      | succ N ih43_1 =>
        intro b f i hinv hN
        have hinv0 := hinv
        obtain ⟨hi1, hi2, hb, hf, hfR, hbR⟩ := hinv
        refine gf_iload_n C dd_Fi_best_43 2 rfl ?_
        refine gf_aload_n C dd_Fi_best_44 3 rfl ?_
        refine gf_getI (z := 3) C gf_cl6 fl_Fi_131 dd_Fi_best_45 rfl rfl (show gf_is 81 0 0 6 17 by decide) (fun hv45 => ?_)
        refine gf_icmp_ge 78 C dd_Fi_best_48 (by decide) (by omega) (by omega) (fun h48 => ?_) (fun h48 => ?_)
        · skip
          refine gf_aload_n C dd_Fi_best_78 3 rfl ?_
          refine gf_iload_n C dd_Fi_best_79 1 rfl ?_
          refine gf_putI (z := 12) C gf_cl6 fl_Fi_205 dd_Fi_best_80 rfl rfl rfl (by decide +kernel) (show gf_is 81 0 0 6 17 by decide) (by omega) ?_
          refine gf_nmM (fun m80 hm80 => ?_)
          refine gf_iload_n C dd_Fi_best_83 0 rfl ?_
          refine gf_iret C hQ dd_Fi_best_84 (by omega) ?_
          have ei : i = μ 0 3 := by omega
          rw [ei] at hb hf
          refine ⟨fun h => absurd h (by omega), fun _ => ⟨hb, ?_⟩⟩
          rw [← hf]
          exact gf_sc_tl (fun a b h => hfr a b (by omega)) hm80
        · skip
          refine gf_aload_n C dd_Fi_best_51 3 rfl ?_
          refine gf_getA (r := 53) C gf_cl6 fl_Fi_49 dd_Fi_best_52 rfl (show gf_is 81 0 0 6 17 by decide) (by decide) (by decide) ?_
          refine gf_iload_n C dd_Fi_best_55 2 rfl ?_
          refine gf_callVi (st := []) (As := [.int (gf_i i)]) C wk_Fi_202 gf_cl4 (show gf_is 81 53 0 4 6 by decide) (ct_Wa_unseen2 (gf_xl X) E i m27 μ (0 : Int).toNat (μ 0 3).toNat hp27 (by omega) (by omega) h88) rfl ⟨rfl, rfl, rfl, rfl⟩ (Nat.le_of_ble_eq_true rfl) rfl dd_Fi_best_56 (fun r56 m56 hR56 hp56 => ?_)
          have hr56 := hp56.1
          refine gf_pm hp56.2 ?_
          refine gf_istore (lv' := [(4, .int (gf_i r56)), (1, .int (gf_i b)), (2, .int (gf_i f)), (3, .int (gf_i i)), (0, .ref (gf_ad E 0))]) C dd_Fi_best_59 (by decide) rfl ?_
          refine gf_iload C dd_Fi_best_61 0 rfl ?_
          refine gf_iload_n C dd_Fi_best_63 2 rfl ?_
          refine gf_icmp_ge 72 C dd_Fi_best_64 (by decide) (by omega) (by omega) (fun h64 => ?_) (fun h64 => ?_)
          · skip
            obtain ⟨x72, hx72⟩ : ∃ y : Int, y = i + 1 := ⟨_, rfl⟩
            refine gf_iinc (q := 3) (v := x72) (lv' := [(3, .int (gf_i x72)), (4, .int (gf_i r56)), (1, .int (gf_i b)), (2, .int (gf_i f)), (0, .ref (gf_ad E 0))]) C dd_Fi_best_72 rfl hx72 (by decide) rfl ?_
            refine gf_goto 43 C dd_Fi_best_75 (by decide) ?_
            refine gf_lsub [2, 3, 0, 4] rfl ?_
            exact ih43_1 b f x72 (by
                    have hu : r56 = pf_ua μ i := hr56.1
                    refine ⟨by omega, by omega, ?_, ?_, by omega, by omega⟩
                    all_goals rw [show x72 - 1 = i by omega, pf_fst_s hi1, ← hu, ← hf]
                    all_goals first | (rw [if_pos (by omega)]; done) | (rw [if_neg (by omega)]; first | exact hb | exact hf)) (by omega)
          · skip
            refine gf_iload_n C dd_Fi_best_67 3 rfl ?_
            refine gf_istore_n (lv' := [(1, .int (gf_i i)), (4, .int (gf_i r56)), (2, .int (gf_i f)), (3, .int (gf_i i)), (0, .ref (gf_ad E 0))]) C dd_Fi_best_68 (by decide) rfl ?_
            refine gf_iload C dd_Fi_best_69 1 rfl ?_
            refine gf_istore_n (lv' := [(2, .int (gf_i r56)), (1, .int (gf_i i)), (4, .int (gf_i r56)), (3, .int (gf_i i)), (0, .ref (gf_ad E 0))]) C dd_Fi_best_71 (by decide) rfl ?_
            obtain ⟨x72, hx72⟩ : ∃ y : Int, y = i + 1 := ⟨_, rfl⟩
            refine gf_iinc (q := 3) (v := x72) (lv' := [(3, .int (gf_i x72)), (2, .int (gf_i r56)), (1, .int (gf_i i)), (4, .int (gf_i r56)), (0, .ref (gf_ad E 0))]) C dd_Fi_best_72 rfl hx72 (by decide) rfl ?_
            refine gf_goto 43 C dd_Fi_best_75 (by decide) ?_
            refine gf_lsub [2, 1, 0, 4] rfl ?_
            exact ih43_1 i r56 x72 (by
                    have hu : r56 = pf_ua μ i := hr56.1
                    refine ⟨by omega, by omega, ?_, ?_, by omega, by omega⟩
                    all_goals rw [show x72 - 1 = i by omega, pf_fst_s hi1, ← hu, ← hf]
                    all_goals first | (rw [if_pos (by omega)]; done) | (rw [if_neg (by omega)]; first | exact hb | exact hf)) (by omega)
    refine gf_lsub [2, 1, 0, 3] rfl ?_
    exact L43_1 _ 0 r37 1 (⟨by omega, by omega, rfl, hr37.1, by omega, by omega⟩) (Nat.lt_succ_self _)
  · skip
    refine gf_bipush C dd_Fi_best_7 (by decide +kernel) ?_
    refine gf_iret C hQ dd_Fi_best_9 (by omega) ?_
    exact ⟨fun _ => ⟨rfl, rfl⟩, fun h => absurd h (by omega)⟩

theorem dd_In_bitCount_0 : decode cc_In_bitCount 0 = .ok (.iload_n 0, 1) := by decide +kernel
theorem dd_In_bitCount_1 : decode cc_In_bitCount 1 = .ok (.iload_n 0, 1) := by decide +kernel
theorem dd_In_bitCount_2 : decode cc_In_bitCount 2 = .ok (.iconst 1, 1) := by decide +kernel
theorem dd_In_bitCount_3 : decode cc_In_bitCount 3 = .ok (.iushr, 1) := by decide +kernel
theorem dd_In_bitCount_4 : decode cc_In_bitCount 4 = .ok (.ldc_w 265, 3) := by decide +kernel
theorem dd_In_bitCount_7 : decode cc_In_bitCount 7 = .ok (.iand, 1) := by decide +kernel
theorem dd_In_bitCount_8 : decode cc_In_bitCount 8 = .ok (.isub, 1) := by decide +kernel
theorem dd_In_bitCount_9 : decode cc_In_bitCount 9 = .ok (.istore_n 0, 1) := by decide +kernel
theorem dd_In_bitCount_10 : decode cc_In_bitCount 10 = .ok (.iload_n 0, 1) := by decide +kernel
theorem dd_In_bitCount_11 : decode cc_In_bitCount 11 = .ok (.ldc_w 266, 3) := by decide +kernel
theorem dd_In_bitCount_14 : decode cc_In_bitCount 14 = .ok (.iand, 1) := by decide +kernel
theorem dd_In_bitCount_15 : decode cc_In_bitCount 15 = .ok (.iload_n 0, 1) := by decide +kernel
theorem dd_In_bitCount_16 : decode cc_In_bitCount 16 = .ok (.iconst 2, 1) := by decide +kernel
theorem dd_In_bitCount_17 : decode cc_In_bitCount 17 = .ok (.iushr, 1) := by decide +kernel
theorem dd_In_bitCount_18 : decode cc_In_bitCount 18 = .ok (.ldc_w 266, 3) := by decide +kernel
theorem dd_In_bitCount_21 : decode cc_In_bitCount 21 = .ok (.iand, 1) := by decide +kernel
theorem dd_In_bitCount_22 : decode cc_In_bitCount 22 = .ok (.iadd, 1) := by decide +kernel
theorem dd_In_bitCount_23 : decode cc_In_bitCount 23 = .ok (.istore_n 0, 1) := by decide +kernel
theorem dd_In_bitCount_24 : decode cc_In_bitCount 24 = .ok (.iload_n 0, 1) := by decide +kernel
theorem dd_In_bitCount_25 : decode cc_In_bitCount 25 = .ok (.iload_n 0, 1) := by decide +kernel
theorem dd_In_bitCount_26 : decode cc_In_bitCount 26 = .ok (.iconst 4, 1) := by decide +kernel
theorem dd_In_bitCount_27 : decode cc_In_bitCount 27 = .ok (.iushr, 1) := by decide +kernel
theorem dd_In_bitCount_28 : decode cc_In_bitCount 28 = .ok (.iadd, 1) := by decide +kernel
theorem dd_In_bitCount_29 : decode cc_In_bitCount 29 = .ok (.ldc_w 267, 3) := by decide +kernel
theorem dd_In_bitCount_32 : decode cc_In_bitCount 32 = .ok (.iand, 1) := by decide +kernel
theorem dd_In_bitCount_33 : decode cc_In_bitCount 33 = .ok (.istore_n 0, 1) := by decide +kernel
theorem dd_In_bitCount_34 : decode cc_In_bitCount 34 = .ok (.iload_n 0, 1) := by decide +kernel
theorem dd_In_bitCount_35 : decode cc_In_bitCount 35 = .ok (.iload_n 0, 1) := by decide +kernel
theorem dd_In_bitCount_36 : decode cc_In_bitCount 36 = .ok (.bipush 8, 2) := by decide +kernel
theorem dd_In_bitCount_38 : decode cc_In_bitCount 38 = .ok (.iushr, 1) := by decide +kernel
theorem dd_In_bitCount_39 : decode cc_In_bitCount 39 = .ok (.iadd, 1) := by decide +kernel
theorem dd_In_bitCount_40 : decode cc_In_bitCount 40 = .ok (.istore_n 0, 1) := by decide +kernel
theorem dd_In_bitCount_41 : decode cc_In_bitCount 41 = .ok (.iload_n 0, 1) := by decide +kernel
theorem dd_In_bitCount_42 : decode cc_In_bitCount 42 = .ok (.iload_n 0, 1) := by decide +kernel
theorem dd_In_bitCount_43 : decode cc_In_bitCount 43 = .ok (.bipush 16, 2) := by decide +kernel
theorem dd_In_bitCount_45 : decode cc_In_bitCount 45 = .ok (.iushr, 1) := by decide +kernel
theorem dd_In_bitCount_46 : decode cc_In_bitCount 46 = .ok (.iadd, 1) := by decide +kernel
theorem dd_In_bitCount_47 : decode cc_In_bitCount 47 = .ok (.istore_n 0, 1) := by decide +kernel
theorem dd_In_bitCount_48 : decode cc_In_bitCount 48 = .ok (.iload_n 0, 1) := by decide +kernel
theorem dd_In_bitCount_49 : decode cc_In_bitCount 49 = .ok (.bipush 63, 2) := by decide +kernel
theorem dd_In_bitCount_51 : decode cc_In_bitCount 51 = .ok (.iand, 1) := by decide +kernel
theorem dd_In_bitCount_52 : decode cc_In_bitCount 52 = .ok (.ireturn, 1) := by decide +kernel
set_option maxRecDepth 100000 in
set_option maxHeartbeats 4000000 in
theorem ct_In_bitCount (l : Launch) (E : gf_E) (x : Int) (μ : gf_M) (hx : 0 ≤ x ∧ x < 128) : gf_Mi l E yy_In_bitCount cc_In_bitCount 1 .int (gf_rm 0 0) 81 gf_ref μ [.int (gf_i x)] (fun r μ' => (r = pf_pc x ∧ 0 ≤ r ∧ r ≤ 7) ∧ μ' = μ) := by
  refine gf_mi (by decide +kernel) (Nat.le_of_ble_eq_true rfl) (by decide) (fun X Q hlx C hQ => ?_)
  subst hlx
  replace C : gf_C X E cc_In_bitCount 1 "java/lang/Integer" (gf_rm 0 0) := C
  show gf_G X E Q 1 gf_φ μ 0 [(0, .int (gf_i x))] []
  have hB := pf_pc_R x.toNat (by omega)
  rw [show ((x.toNat : Nat) : Int) = x by omega] at hB
  obtain ⟨⟨b1, b2, b3, b4⟩, ⟨b5, b6, b7⟩, ⟨b8, b9⟩, ⟨b10, b11⟩, ⟨b12, b13⟩, b14, b15⟩ := hB
  refine gf_iload_n C dd_In_bitCount_0 0 rfl ?_
  refine gf_iload_n C dd_In_bitCount_1 0 rfl ?_
  refine gf_iconst C dd_In_bitCount_2 ?_
  refine gf_iushr C dd_In_bitCount_3 (by omega) ?_
  refine gf_ldcw 1431655765 C dd_In_bitCount_4 ck_In_265 (by decide +kernel) ?_
  refine gf_iand C dd_In_bitCount_7 (by omega) ?_
  refine gf_isub C dd_In_bitCount_8 ?_
  refine gf_nm (fun x9 hx9 => ?_)
  refine gf_istore_n (lv' := [(0, .int (gf_i x9))]) C dd_In_bitCount_9 (by decide) rfl ?_
  have k9 : x9 = pf_b1 x := hx9
  rw [← k9] at b2 b3 b4 b5 b6 b7 b8 b9 b10 b11 b12 b13
  refine gf_iload_n C dd_In_bitCount_10 0 rfl ?_
  refine gf_ldcw 858993459 C dd_In_bitCount_11 ck_In_266 (by decide +kernel) ?_
  refine gf_iand C dd_In_bitCount_14 (by omega) ?_
  refine gf_iload_n C dd_In_bitCount_15 0 rfl ?_
  refine gf_iconst C dd_In_bitCount_16 ?_
  refine gf_iushr C dd_In_bitCount_17 (by omega) ?_
  refine gf_ldcw 858993459 C dd_In_bitCount_18 ck_In_266 (by decide +kernel) ?_
  refine gf_iand C dd_In_bitCount_21 (by omega) ?_
  refine gf_iadd C dd_In_bitCount_22 ?_
  refine gf_nm (fun x23 hx23 => ?_)
  refine gf_istore_n (lv' := [(0, .int (gf_i x23))]) C dd_In_bitCount_23 (by decide) rfl ?_
  have k23 : x23 = pf_b2 x9 := hx23
  rw [← k23] at b5 b6 b7 b8 b9 b10 b11 b12 b13
  refine gf_iload_n C dd_In_bitCount_24 0 rfl ?_
  refine gf_iload_n C dd_In_bitCount_25 0 rfl ?_
  refine gf_iconst C dd_In_bitCount_26 ?_
  refine gf_iushr C dd_In_bitCount_27 (by omega) ?_
  refine gf_iadd C dd_In_bitCount_28 ?_
  refine gf_ldcw 252645135 C dd_In_bitCount_29 ck_In_267 (by decide +kernel) ?_
  refine gf_iand C dd_In_bitCount_32 (by omega) ?_
  refine gf_nm (fun x33 hx33 => ?_)
  refine gf_istore_n (lv' := [(0, .int (gf_i x33))]) C dd_In_bitCount_33 (by decide) rfl ?_
  have k33 : x33 = pf_b3 x23 := hx33
  rw [← k33] at b8 b9 b10 b11 b12 b13
  refine gf_iload_n C dd_In_bitCount_34 0 rfl ?_
  refine gf_iload_n C dd_In_bitCount_35 0 rfl ?_
  refine gf_bipush C dd_In_bitCount_36 (by decide +kernel) ?_
  refine gf_iushr C dd_In_bitCount_38 (by omega) ?_
  refine gf_iadd C dd_In_bitCount_39 ?_
  refine gf_nm (fun x40 hx40 => ?_)
  refine gf_istore_n (lv' := [(0, .int (gf_i x40))]) C dd_In_bitCount_40 (by decide) rfl ?_
  have k40 : x40 = pf_b4 x33 := hx40
  rw [← k40] at b10 b11 b12 b13
  refine gf_iload_n C dd_In_bitCount_41 0 rfl ?_
  refine gf_iload_n C dd_In_bitCount_42 0 rfl ?_
  refine gf_bipush C dd_In_bitCount_43 (by decide +kernel) ?_
  refine gf_iushr C dd_In_bitCount_45 (by omega) ?_
  refine gf_iadd C dd_In_bitCount_46 ?_
  refine gf_nm (fun x47 hx47 => ?_)
  refine gf_istore_n (lv' := [(0, .int (gf_i x47))]) C dd_In_bitCount_47 (by decide) rfl ?_
  have k47 : x47 = pf_b5 x40 := hx47
  rw [← k47] at b12 b13
  have hfin : gf_and x47 63 = pf_pc x := by rw [k47, k40, k33, k23, k9]; rfl
  refine gf_iload_n C dd_In_bitCount_48 0 rfl ?_
  refine gf_bipush C dd_In_bitCount_49 (by decide +kernel) ?_
  refine gf_iand C dd_In_bitCount_51 (by omega) ?_
  refine gf_iret C hQ dd_In_bitCount_52 (by rw [hfin]; omega) ?_
  exact ⟨⟨hfin, by rw [hfin]; omega, by rw [hfin]; omega⟩, rfl⟩

theorem dd_Fi_cover_0 : decode cc_Fi_cover 0 = .ok (.aload_n 0, 1) := by decide +kernel
theorem dd_Fi_cover_1 : decode cc_Fi_cover 1 = .ok (.getfield 131, 3) := by decide +kernel
theorem dd_Fi_cover_4 : decode cc_Fi_cover 4 = .ok (.ifCond .ne 6, 3) := by decide +kernel
theorem dd_Fi_cover_7 : decode cc_Fi_cover 7 = .ok (.bipush (-4), 2) := by decide +kernel
theorem dd_Fi_cover_9 : decode cc_Fi_cover 9 = .ok (.ireturn, 1) := by decide +kernel
theorem dd_Fi_cover_10 : decode cc_Fi_cover 10 = .ok (.aload_n 0, 1) := by decide +kernel
theorem dd_Fi_cover_11 : decode cc_Fi_cover 11 = .ok (.getfield 49, 3) := by decide +kernel
theorem dd_Fi_cover_14 : decode cc_Fi_cover 14 = .ok (.aload_n 0, 1) := by decide +kernel
theorem dd_Fi_cover_15 : decode cc_Fi_cover 15 = .ok (.getfield 35, 3) := by decide +kernel
theorem dd_Fi_cover_18 : decode cc_Fi_cover 18 = .ok (.aload_n 0, 1) := by decide +kernel
theorem dd_Fi_cover_19 : decode cc_Fi_cover 19 = .ok (.getfield 23, 3) := by decide +kernel
theorem dd_Fi_cover_22 : decode cc_Fi_cover 22 = .ok (.iconst 0, 1) := by decide +kernel
theorem dd_Fi_cover_23 : decode cc_Fi_cover 23 = .ok (.aload_n 0, 1) := by decide +kernel
theorem dd_Fi_cover_24 : decode cc_Fi_cover 24 = .ok (.getfield 131, 3) := by decide +kernel
theorem dd_Fi_cover_27 : decode cc_Fi_cover 27 = .ok (.invokevirtual 198, 3) := by decide +kernel
theorem dd_Fi_cover_30 : decode cc_Fi_cover 30 = .ok (.bipush (-9), 2) := by decide +kernel
theorem dd_Fi_cover_32 : decode cc_Fi_cover 32 = .ok (.istore_n 1, 1) := by decide +kernel
theorem dd_Fi_cover_33 : decode cc_Fi_cover 33 = .ok (.iconst 0, 1) := by decide +kernel
theorem dd_Fi_cover_34 : decode cc_Fi_cover 34 = .ok (.istore_n 2, 1) := by decide +kernel
theorem dd_Fi_cover_35 : decode cc_Fi_cover 35 = .ok (.iload_n 2, 1) := by decide +kernel
theorem dd_Fi_cover_36 : decode cc_Fi_cover 36 = .ok (.iconst 1, 1) := by decide +kernel
theorem dd_Fi_cover_37 : decode cc_Fi_cover 37 = .ok (.aload_n 0, 1) := by decide +kernel
theorem dd_Fi_cover_38 : decode cc_Fi_cover 38 = .ok (.getfield 131, 3) := by decide +kernel
theorem dd_Fi_cover_41 : decode cc_Fi_cover 41 = .ok (.ishl, 1) := by decide +kernel
theorem dd_Fi_cover_42 : decode cc_Fi_cover 42 = .ok (.if_icmp .ge 49, 3) := by decide +kernel
theorem dd_Fi_cover_45 : decode cc_Fi_cover 45 = .ok (.iload_n 1, 1) := by decide +kernel
theorem dd_Fi_cover_46 : decode cc_Fi_cover 46 = .ok (.bipush (-9), 2) := by decide +kernel
theorem dd_Fi_cover_48 : decode cc_Fi_cover 48 = .ok (.if_icmp .eq 14, 3) := by decide +kernel
theorem dd_Fi_cover_51 : decode cc_Fi_cover 51 = .ok (.iload_n 2, 1) := by decide +kernel
theorem dd_Fi_cover_52 : decode cc_Fi_cover 52 = .ok (.invokestatic 208, 3) := by decide +kernel
theorem dd_Fi_cover_55 : decode cc_Fi_cover 55 = .ok (.iload_n 1, 1) := by decide +kernel
theorem dd_Fi_cover_56 : decode cc_Fi_cover 56 = .ok (.invokestatic 208, 3) := by decide +kernel
theorem dd_Fi_cover_59 : decode cc_Fi_cover 59 = .ok (.if_icmp .ge 7, 3) := by decide +kernel
theorem dd_Fi_cover_62 : decode cc_Fi_cover 62 = .ok (.iconst 1, 1) := by decide +kernel
theorem dd_Fi_cover_63 : decode cc_Fi_cover 63 = .ok (.goto 4, 3) := by decide +kernel
theorem dd_Fi_cover_66 : decode cc_Fi_cover 66 = .ok (.iconst 0, 1) := by decide +kernel
theorem dd_Fi_cover_67 : decode cc_Fi_cover 67 = .ok (.istore_n 3, 1) := by decide +kernel
theorem dd_Fi_cover_68 : decode cc_Fi_cover 68 = .ok (.iload_n 3, 1) := by decide +kernel
theorem dd_Fi_cover_69 : decode cc_Fi_cover 69 = .ok (.ifCond .eq 16, 3) := by decide +kernel
theorem dd_Fi_cover_72 : decode cc_Fi_cover 72 = .ok (.aload_n 0, 1) := by decide +kernel
theorem dd_Fi_cover_73 : decode cc_Fi_cover 73 = .ok (.getfield 49, 3) := by decide +kernel
theorem dd_Fi_cover_76 : decode cc_Fi_cover 76 = .ok (.iload_n 2, 1) := by decide +kernel
theorem dd_Fi_cover_77 : decode cc_Fi_cover 77 = .ok (.invokevirtual 213, 3) := by decide +kernel
theorem dd_Fi_cover_80 : decode cc_Fi_cover 80 = .ok (.ifCond .eq 5, 3) := by decide +kernel
theorem dd_Fi_cover_83 : decode cc_Fi_cover 83 = .ok (.iload_n 2, 1) := by decide +kernel
theorem dd_Fi_cover_84 : decode cc_Fi_cover 84 = .ok (.istore_n 1, 1) := by decide +kernel
theorem dd_Fi_cover_85 : decode cc_Fi_cover 85 = .ok (.iinc 2 1, 3) := by decide +kernel
theorem dd_Fi_cover_88 : decode cc_Fi_cover 88 = .ok (.goto (-53), 3) := by decide +kernel
theorem dd_Fi_cover_91 : decode cc_Fi_cover 91 = .ok (.iload_n 1, 1) := by decide +kernel
theorem dd_Fi_cover_92 : decode cc_Fi_cover 92 = .ok (.bipush (-9), 2) := by decide +kernel
theorem dd_Fi_cover_94 : decode cc_Fi_cover 94 = .ok (.if_icmp .eq 14, 3) := by decide +kernel
theorem dd_Fi_cover_97 : decode cc_Fi_cover 97 = .ok (.aload_n 0, 1) := by decide +kernel
theorem dd_Fi_cover_98 : decode cc_Fi_cover 98 = .ok (.aload_n 0, 1) := by decide +kernel
theorem dd_Fi_cover_99 : decode cc_Fi_cover 99 = .ok (.getfield 49, 3) := by decide +kernel
theorem dd_Fi_cover_102 : decode cc_Fi_cover 102 = .ok (.getfield 216, 3) := by decide +kernel
theorem dd_Fi_cover_105 : decode cc_Fi_cover 105 = .ok (.putfield 205, 3) := by decide +kernel
theorem dd_Fi_cover_108 : decode cc_Fi_cover 108 = .ok (.iload_n 1, 1) := by decide +kernel
theorem dd_Fi_cover_109 : decode cc_Fi_cover 109 = .ok (.ireturn, 1) := by decide +kernel
set_option maxRecDepth 100000 in
set_option maxHeartbeats 4000000 in
theorem ct_Fi_cover (l : Launch) (E : gf_E) (μ : gf_M) (hc7 : 0 ≤ μ 0 3 ∧ μ 0 3 ≤ 7) (hG : gf_okGs μ (μ 0 3)) (hs : 0 ≤ μ 41 1 ∧ μ 41 1 ≤ 8) (hF : gf_okF μ 42 (μ 41 1)) : gf_Mi l E yy_Fi_cover cc_Fi_cover 4 .int (gf_rm 4 95) 81 gf_ref μ [.ref (gf_ad E 0)] (fun q μ' => (μ 0 3 = 0 → q = -4 ∧ μ' = μ) ∧ (μ 0 3 ≠ 0 → q = pf_cov (pf_cvd μ) (gf_shl 1 (μ 0 3)).toNat ∧ (q = -9 → gf_sc μ' μ) ∧ (q ≠ -9 → gf_sc μ' (gf_tl μ ((pf_T (μ 42) (μ 41 1)).length : Int))))) := by
  refine gf_mi (by decide +kernel) (Nat.le_of_ble_eq_true rfl) (by decide) (fun X Q hlx C hQ => ?_)
  subst hlx
  replace C : gf_C X E cc_Fi_cover 4 "GuardFigures" (gf_rm 4 95) := C
  show gf_G X E Q 4 gf_φ μ 0 [(0, .ref (gf_ad E 0))] []
  have h88 := pf_T_88 hs hF
  have hsh := gf_shl1_7 hc7
  refine gf_aload_n C dd_Fi_cover_0 0 rfl ?_
  refine gf_getI (z := 3) C gf_cl6 fl_Fi_131 dd_Fi_cover_1 rfl rfl (show gf_is 81 0 0 6 17 by decide) (fun hv1 => ?_)
  refine gf_if_ne 10 C dd_Fi_cover_4 (by decide) (by omega) (fun h4 => ?_) (fun h4 => ?_)
  · skip
    refine gf_aload_n C dd_Fi_cover_10 0 rfl ?_
    refine gf_getA (r := 53) C gf_cl6 fl_Fi_49 dd_Fi_cover_11 rfl (show gf_is 81 0 0 6 17 by decide) (by decide) (by decide) ?_
    refine gf_aload_n C dd_Fi_cover_14 0 rfl ?_
    refine gf_getA (r := 41) C gf_cl6 fl_Fi_35 dd_Fi_cover_15 rfl (show gf_is 81 0 0 6 17 by decide) (by decide) (by decide) ?_
    refine gf_aload_n C dd_Fi_cover_18 0 rfl ?_
    refine gf_getA (r := 23) C gf_cl6 fl_Fi_23 dd_Fi_cover_19 rfl (show gf_is 81 0 0 6 17 by decide) (by decide) (by decide) ?_
    refine gf_iconst C dd_Fi_cover_22 ?_
    refine gf_aload_n C dd_Fi_cover_23 0 rfl ?_
    refine gf_getI (z := 3) C gf_cl6 fl_Fi_131 dd_Fi_cover_24 rfl rfl (show gf_is 81 0 0 6 17 by decide) (fun hv24 => ?_)
    refine gf_callVv (st := []) (As := [.ref (gf_ad E 41), .ref (gf_ad E 23), .int (gf_i 0), .int (gf_i (μ 0 3))]) C wk_Fi_198 gf_cl4 (show gf_is 81 53 0 4 6 by decide) (ct_Wa_lookI (gf_xl X) E 0 (μ 0 3) (μ 0 3) μ (by omega) (by omega) (by omega) (by omega) hG hs hF) rfl ⟨rfl, rfl, rfl, rfl⟩ (Nat.le_of_ble_eq_true rfl) rfl dd_Fi_cover_27 (fun m27 hp27 => ?_)
    have hfr : ∀ x y : Int, ¬ (53 ≤ x ∧ x ≤ 58) → m27 x y = μ x y := hp27.2.2.2.2.2
    have e03 : m27 0 3 = μ 0 3 := hfr 0 3 (by decide)
    have e532 : m27 53 2 = ((pf_T (μ 42) (μ 41 1)).length : Int) := hp27.1
    have hmk : ∀ (t : Nat) (q : Int × (Int → Int)), (pf_T (μ 42) (μ 41 1))[t]? = some q → m27 55 t = ((pf_nb (pf_no μ (μ 42) (μ 41 1) q.2) 0 (μ 0 3).toNat : Nat) : Int) := fun t q h => (hp27.2.1 t q h).2
    have hex : ∀ t : Int, 0 ≤ t → t < m27 53 2 → ∃ q, (pf_T (μ 42) (μ 41 1))[t.toNat]? = some q ∧ m27 55 t = ((pf_nb (pf_no μ (μ 42) (μ 41 1) q.2) 0 (μ 0 3).toNat : Nat) : Int) := fun t h0 h1 => by
      have hl : t.toNat < (pf_T (μ 42) (μ 41 1)).length := by omega
      refine ⟨_, List.getElem?_eq_getElem hl, ?_⟩
      have := hmk t.toNat _ (List.getElem?_eq_getElem hl)
      rw [show ((t.toNat : Nat) : Int) = t by omega] at this
      exact this
    have hcv : ∀ s : Int, (∀ t : Int, 0 ≤ t → t < m27 53 2 → gf_and (m27 55 t) s ≠ 0) ↔ pf_cvd μ s := by
      intro s
      constructor
      · intro h q hq
        obtain ⟨t, ht, he⟩ := List.mem_iff_getElem.mp hq
        rw [← hmk t q (List.getElem?_eq_some_iff.mpr ⟨ht, he⟩)]
        exact h t (by omega) (by omega)
      · intro h t h0 h1
        obtain ⟨q, hq, he⟩ := hex t h0 h1
        rw [he]
        exact h q (List.mem_of_getElem? hq)
    refine gf_bipush C dd_Fi_cover_30 (by decide +kernel) ?_
    refine gf_istore_n (lv' := [(1, .int (gf_i (-9))), (0, .ref (gf_ad E 0))]) C dd_Fi_cover_32 (by decide) rfl ?_
    refine gf_iconst C dd_Fi_cover_33 ?_
    refine gf_istore_n (lv' := [(2, .int (gf_i 0)), (1, .int (gf_i (-9))), (0, .ref (gf_ad E 0))]) C dd_Fi_cover_34 (by decide) rfl ?_
    have L35_1 : ∀ (N : Nat) (f s : Int) , (0 ≤ s ∧ s ≤ gf_shl 1 (μ 0 3) ∧ f = pf_cov (pf_cvd μ) s.toNat) → (128 - s).toNat < N → gf_G X E Q 4 gf_φ m27 35 [(1, .int (gf_i f)), (2, .int (gf_i s)), (0, .ref (gf_ad E 0))] [] := by
      intro N
      induction N with
      | zero => intro f s hinv hN; exact absurd hN (Nat.not_lt_zero _)
      | succ N ih35_1 =>
        intro f s hinv hN
        have hinv0 := hinv
        obtain ⟨hs0, hs1, hf⟩ := hinv
        have hfR := pf_cov_R (pf_cvd μ) s.toNat
        rw [← hf] at hfR
        have esh : gf_shl 1 (m27 0 3) = gf_shl 1 (μ 0 3) := by rw [e03]
        refine gf_iload_n C dd_Fi_cover_35 1 rfl ?_
        refine gf_iconst C dd_Fi_cover_36 ?_
        refine gf_aload_n C dd_Fi_cover_37 2 rfl ?_
        refine gf_getI (z := 3) C gf_cl6 fl_Fi_131 dd_Fi_cover_38 rfl rfl (show gf_is 81 0 0 6 17 by decide) (fun hv38 => ?_)
        refine gf_ishl C dd_Fi_cover_41 (by omega) ?_
        refine gf_icmp_ge 91 C dd_Fi_cover_42 (by decide) (by omega) (by omega) (fun h42 => ?_) (fun h42 => ?_)
        · skip
          refine gf_iload_n C dd_Fi_cover_91 0 rfl ?_
          refine gf_bipush C dd_Fi_cover_92 (by decide +kernel) ?_
          refine gf_icmp_eq 108 C dd_Fi_cover_94 (by decide) (by omega) (by omega) (fun h94 => ?_) (fun h94 => ?_)
          · skip
            refine gf_iload_n C dd_Fi_cover_108 0 rfl ?_
            refine gf_iret C hQ dd_Fi_cover_109 (by omega) ?_
            have es : s.toNat = (gf_shl 1 (μ 0 3)).toNat := by omega
            rw [es] at hf
            refine ⟨fun h => absurd h (by omega), fun _ => ⟨hf, fun h => ?_, fun h => ?_⟩⟩
            · first | exact fun a b h => hfr a b (by omega) | (exfalso; omega)
            · first | (rw [← e532]; exact gf_sc_tl (fun a b h => hfr a b (by omega)) hm105) | (exfalso; omega)
          · skip
            refine gf_aload_n C dd_Fi_cover_97 2 rfl ?_
            refine gf_aload_n C dd_Fi_cover_98 2 rfl ?_
            refine gf_getA (r := 53) C gf_cl6 fl_Fi_49 dd_Fi_cover_99 rfl (show gf_is 81 0 0 6 17 by decide) (by decide) (by decide) ?_
            refine gf_getI (z := 2) C gf_cl4 fl_Fi_216 dd_Fi_cover_102 rfl rfl (show gf_is 81 53 0 4 6 by decide) (fun hv102 => ?_)
            refine gf_putI (z := 12) C gf_cl6 fl_Fi_205 dd_Fi_cover_105 rfl rfl rfl (by decide +kernel) (show gf_is 81 0 0 6 17 by decide) (by omega) ?_
            refine gf_nmM (fun m105 hm105 => ?_)
            refine gf_iload_n C dd_Fi_cover_108 0 rfl ?_
            refine gf_iret C hQ dd_Fi_cover_109 (by omega) ?_
            have es : s.toNat = (gf_shl 1 (μ 0 3)).toNat := by omega
            rw [es] at hf
            refine ⟨fun h => absurd h (by omega), fun _ => ⟨hf, fun h => ?_, fun h => ?_⟩⟩
            · first | exact fun a b h => hfr a b (by omega) | (exfalso; omega)
            · first | (rw [← e532]; exact gf_sc_tl (fun a b h => hfr a b (by omega)) hm105) | (exfalso; omega)
        · skip
          refine gf_iload_n C dd_Fi_cover_45 0 rfl ?_
          refine gf_bipush C dd_Fi_cover_46 (by decide +kernel) ?_
          refine gf_icmp_eq 62 C dd_Fi_cover_48 (by decide) (by omega) (by omega) (fun h48 => ?_) (fun h48 => ?_)
          · skip
            refine gf_iconst C dd_Fi_cover_62 ?_
            refine gf_goto 67 C dd_Fi_cover_63 (by decide) ?_
            refine gf_istore_n (lv' := [(3, .int (gf_i 1)), (1, .int (gf_i f)), (2, .int (gf_i s)), (0, .ref (gf_ad E 0))]) C dd_Fi_cover_67 (by decide) rfl ?_
            skip
            refine gf_iload_n C dd_Fi_cover_68 0 rfl ?_
            refine gf_if_eq 85 C dd_Fi_cover_69 (by decide) (by omega) (fun h69 => ?_) (fun h69 => ?_)
            · skip
              obtain ⟨x85, hx85⟩ : ∃ y : Int, y = s + 1 := ⟨_, rfl⟩
              refine gf_iinc (q := 2) (v := x85) (lv' := [(2, .int (gf_i x85)), (3, .int (gf_i 1)), (1, .int (gf_i f)), (0, .ref (gf_ad E 0))]) C dd_Fi_cover_85 rfl hx85 (by decide) rfl ?_
              refine gf_goto 35 C dd_Fi_cover_88 (by decide) ?_
              refine gf_lsub [2, 0, 3] rfl ?_
              exact ih35_1 f x85 (by
                      have e1 : x85.toNat = s.toNat + 1 := by omega
                      refine ⟨by omega, by omega, ?_⟩
                      rw [e1]
                      first
                      | (have hcc := (hcv s).mp (hr77.1.mp (by omega))
                         rw [pf_cov_s (pf_cvd μ) hs0 True (by rw [← hf]; exact ⟨fun _ => ⟨by first | exact Or.inl h48 | (right; rw [← hr52.1, ← hr56.1]; omega), hcc⟩, fun _ => trivial⟩), if_pos trivial]
                         done)
                      | (have hcc : ¬ pf_cvd μ s := fun h => by have := hr77.1.mpr ((hcv s).mpr h); omega
                         rw [pf_cov_s (pf_cvd μ) hs0 False ⟨fun h => h.elim, fun h => hcc h.2⟩, if_neg id]
                         exact hf)
                      | (exfalso; omega)
                      | (rw [pf_cov_s (pf_cvd μ) hs0 False ⟨fun h => h.elim, fun h => by rw [← hf, ← hr52.1, ← hr56.1] at h; omega⟩, if_neg id]
                         exact hf)
                      | (exfalso; omega)) (by omega)
            · skip
              refine gf_aload_n C dd_Fi_cover_72 3 rfl ?_
              refine gf_getA (r := 53) C gf_cl6 fl_Fi_49 dd_Fi_cover_73 rfl (show gf_is 81 0 0 6 17 by decide) (by decide) (by decide) ?_
              refine gf_iload_n C dd_Fi_cover_76 2 rfl ?_
              refine gf_callVi (st := []) (As := [.int (gf_i s)]) C wk_Fi_213 gf_cl4 (show gf_is 81 53 0 4 6 by decide) (ct_Wa_isCoveredBy (gf_xl X) E s m27 (by omega) (by omega) (fun t h0 h1 => by obtain ⟨q, _, he⟩ := hex t h0 h1; omega)) rfl ⟨rfl, rfl, rfl, rfl⟩ (Nat.le_of_ble_eq_true rfl) rfl dd_Fi_cover_77 (fun r77 m77 hR77 hp77 => ?_)
              have hr77 := hp77.1
              refine gf_pm hp77.2 ?_
              refine gf_if_eq 85 C dd_Fi_cover_80 (by decide) (by omega) (fun h80 => ?_) (fun h80 => ?_)
              · skip
                obtain ⟨x85, hx85⟩ : ∃ y : Int, y = s + 1 := ⟨_, rfl⟩
                refine gf_iinc (q := 2) (v := x85) (lv' := [(2, .int (gf_i x85)), (3, .int (gf_i 1)), (1, .int (gf_i f)), (0, .ref (gf_ad E 0))]) C dd_Fi_cover_85 rfl hx85 (by decide) rfl ?_
                refine gf_goto 35 C dd_Fi_cover_88 (by decide) ?_
                refine gf_lsub [2, 0, 3] rfl ?_
                exact ih35_1 f x85 (by
                        have e1 : x85.toNat = s.toNat + 1 := by omega
                        refine ⟨by omega, by omega, ?_⟩
                        rw [e1]
                        first
                        | (have hcc := (hcv s).mp (hr77.1.mp (by omega))
                           rw [pf_cov_s (pf_cvd μ) hs0 True (by rw [← hf]; exact ⟨fun _ => ⟨by first | exact Or.inl h48 | (right; rw [← hr52.1, ← hr56.1]; omega), hcc⟩, fun _ => trivial⟩), if_pos trivial]
                           done)
                        | (have hcc : ¬ pf_cvd μ s := fun h => by have := hr77.1.mpr ((hcv s).mpr h); omega
                           rw [pf_cov_s (pf_cvd μ) hs0 False ⟨fun h => h.elim, fun h => hcc h.2⟩, if_neg id]
                           exact hf)
                        | (exfalso; omega)
                        | (rw [pf_cov_s (pf_cvd μ) hs0 False ⟨fun h => h.elim, fun h => by rw [← hf, ← hr52.1, ← hr56.1] at h; omega⟩, if_neg id]
                           exact hf)
                        | (exfalso; omega)) (by omega)
              · skip
                refine gf_iload_n C dd_Fi_cover_83 2 rfl ?_
                refine gf_istore_n (lv' := [(1, .int (gf_i s)), (3, .int (gf_i 1)), (2, .int (gf_i s)), (0, .ref (gf_ad E 0))]) C dd_Fi_cover_84 (by decide) rfl ?_
                obtain ⟨x85, hx85⟩ : ∃ y : Int, y = s + 1 := ⟨_, rfl⟩
                refine gf_iinc (q := 2) (v := x85) (lv' := [(2, .int (gf_i x85)), (1, .int (gf_i s)), (3, .int (gf_i 1)), (0, .ref (gf_ad E 0))]) C dd_Fi_cover_85 rfl hx85 (by decide) rfl ?_
                refine gf_goto 35 C dd_Fi_cover_88 (by decide) ?_
                refine gf_lsub [1, 0, 3] rfl ?_
                exact ih35_1 s x85 (by
                        have e1 : x85.toNat = s.toNat + 1 := by omega
                        refine ⟨by omega, by omega, ?_⟩
                        rw [e1]
                        first
                        | (have hcc := (hcv s).mp (hr77.1.mp (by omega))
                           rw [pf_cov_s (pf_cvd μ) hs0 True (by rw [← hf]; exact ⟨fun _ => ⟨by first | exact Or.inl h48 | (right; rw [← hr52.1, ← hr56.1]; omega), hcc⟩, fun _ => trivial⟩), if_pos trivial]
                           done)
                        | (have hcc : ¬ pf_cvd μ s := fun h => by have := hr77.1.mpr ((hcv s).mpr h); omega
                           rw [pf_cov_s (pf_cvd μ) hs0 False ⟨fun h => h.elim, fun h => hcc h.2⟩, if_neg id]
                           exact hf)
                        | (exfalso; omega)
                        | (rw [pf_cov_s (pf_cvd μ) hs0 False ⟨fun h => h.elim, fun h => by rw [← hf, ← hr52.1, ← hr56.1] at h; omega⟩, if_neg id]
                           exact hf)
                        | (exfalso; omega)) (by omega)
          · skip
            refine gf_iload_n C dd_Fi_cover_51 1 rfl ?_
            refine gf_callSi (st := []) (As := [.int (gf_i s)]) C wk_Fi_208 (ct_In_bitCount (gf_xl X) E s m27 (by omega)) rfl ⟨rfl, rfl, rfl, rfl⟩ (Nat.le_of_ble_eq_true rfl) rfl dd_Fi_cover_52 (fun r52 m52 hR52 hp52 => ?_)
            have hr52 := hp52.1
            refine gf_pm hp52.2 ?_
            refine gf_iload_n C dd_Fi_cover_55 0 rfl ?_
            refine gf_callSi (st := [.int (gf_i r52)]) (As := [.int (gf_i f)]) C wk_Fi_208 (ct_In_bitCount (gf_xl X) E f m27 (by omega)) rfl ⟨rfl, rfl, rfl, rfl⟩ (Nat.le_of_ble_eq_true rfl) rfl dd_Fi_cover_56 (fun r56 m56 hR56 hp56 => ?_)
            have hr56 := hp56.1
            refine gf_pm hp56.2 ?_
            refine gf_icmp_ge 66 C dd_Fi_cover_59 (by decide) (by omega) (by omega) (fun h59 => ?_) (fun h59 => ?_)
            · skip
              refine gf_iconst C dd_Fi_cover_66 ?_
              refine gf_istore_n (lv' := [(3, .int (gf_i 0)), (1, .int (gf_i f)), (2, .int (gf_i s)), (0, .ref (gf_ad E 0))]) C dd_Fi_cover_67 (by decide) rfl ?_
              skip
              refine gf_iload_n C dd_Fi_cover_68 0 rfl ?_
              refine gf_if_eq 85 C dd_Fi_cover_69 (by decide) (by omega) (fun h69 => ?_) (fun h69 => ?_)
              · skip
                obtain ⟨x85, hx85⟩ : ∃ y : Int, y = s + 1 := ⟨_, rfl⟩
                refine gf_iinc (q := 2) (v := x85) (lv' := [(2, .int (gf_i x85)), (3, .int (gf_i 0)), (1, .int (gf_i f)), (0, .ref (gf_ad E 0))]) C dd_Fi_cover_85 rfl hx85 (by decide) rfl ?_
                refine gf_goto 35 C dd_Fi_cover_88 (by decide) ?_
                refine gf_lsub [2, 0, 3] rfl ?_
                exact ih35_1 f x85 (by
                        have e1 : x85.toNat = s.toNat + 1 := by omega
                        refine ⟨by omega, by omega, ?_⟩
                        rw [e1]
                        first
                        | (have hcc := (hcv s).mp (hr77.1.mp (by omega))
                           rw [pf_cov_s (pf_cvd μ) hs0 True (by rw [← hf]; exact ⟨fun _ => ⟨by first | exact Or.inl h48 | (right; rw [← hr52.1, ← hr56.1]; omega), hcc⟩, fun _ => trivial⟩), if_pos trivial]
                           done)
                        | (have hcc : ¬ pf_cvd μ s := fun h => by have := hr77.1.mpr ((hcv s).mpr h); omega
                           rw [pf_cov_s (pf_cvd μ) hs0 False ⟨fun h => h.elim, fun h => hcc h.2⟩, if_neg id]
                           exact hf)
                        | (exfalso; omega)
                        | (rw [pf_cov_s (pf_cvd μ) hs0 False ⟨fun h => h.elim, fun h => by rw [← hf, ← hr52.1, ← hr56.1] at h; omega⟩, if_neg id]
                           exact hf)
                        | (exfalso; omega)) (by omega)
              · skip
                refine gf_aload_n C dd_Fi_cover_72 3 rfl ?_
                refine gf_getA (r := 53) C gf_cl6 fl_Fi_49 dd_Fi_cover_73 rfl (show gf_is 81 0 0 6 17 by decide) (by decide) (by decide) ?_
                refine gf_iload_n C dd_Fi_cover_76 2 rfl ?_
                refine gf_callVi (st := []) (As := [.int (gf_i s)]) C wk_Fi_213 gf_cl4 (show gf_is 81 53 0 4 6 by decide) (ct_Wa_isCoveredBy (gf_xl X) E s m27 (by omega) (by omega) (fun t h0 h1 => by obtain ⟨q, _, he⟩ := hex t h0 h1; omega)) rfl ⟨rfl, rfl, rfl, rfl⟩ (Nat.le_of_ble_eq_true rfl) rfl dd_Fi_cover_77 (fun r77 m77 hR77 hp77 => ?_)
                have hr77 := hp77.1
                refine gf_pm hp77.2 ?_
                refine gf_if_eq 85 C dd_Fi_cover_80 (by decide) (by omega) (fun h80 => ?_) (fun h80 => ?_)
                · skip
                  obtain ⟨x85, hx85⟩ : ∃ y : Int, y = s + 1 := ⟨_, rfl⟩
                  refine gf_iinc (q := 2) (v := x85) (lv' := [(2, .int (gf_i x85)), (3, .int (gf_i 0)), (1, .int (gf_i f)), (0, .ref (gf_ad E 0))]) C dd_Fi_cover_85 rfl hx85 (by decide) rfl ?_
                  refine gf_goto 35 C dd_Fi_cover_88 (by decide) ?_
                  refine gf_lsub [2, 0, 3] rfl ?_
                  exact ih35_1 f x85 (by
                          have e1 : x85.toNat = s.toNat + 1 := by omega
                          refine ⟨by omega, by omega, ?_⟩
                          rw [e1]
                          first
                          | (have hcc := (hcv s).mp (hr77.1.mp (by omega))
                             rw [pf_cov_s (pf_cvd μ) hs0 True (by rw [← hf]; exact ⟨fun _ => ⟨by first | exact Or.inl h48 | (right; rw [← hr52.1, ← hr56.1]; omega), hcc⟩, fun _ => trivial⟩), if_pos trivial]
                             done)
                          | (have hcc : ¬ pf_cvd μ s := fun h => by have := hr77.1.mpr ((hcv s).mpr h); omega
                             rw [pf_cov_s (pf_cvd μ) hs0 False ⟨fun h => h.elim, fun h => hcc h.2⟩, if_neg id]
                             exact hf)
                          | (exfalso; omega)
                          | (rw [pf_cov_s (pf_cvd μ) hs0 False ⟨fun h => h.elim, fun h => by rw [← hf, ← hr52.1, ← hr56.1] at h; omega⟩, if_neg id]
                             exact hf)
                          | (exfalso; omega)) (by omega)
                · skip
                  refine gf_iload_n C dd_Fi_cover_83 2 rfl ?_
                  refine gf_istore_n (lv' := [(1, .int (gf_i s)), (3, .int (gf_i 0)), (2, .int (gf_i s)), (0, .ref (gf_ad E 0))]) C dd_Fi_cover_84 (by decide) rfl ?_
                  obtain ⟨x85, hx85⟩ : ∃ y : Int, y = s + 1 := ⟨_, rfl⟩
                  refine gf_iinc (q := 2) (v := x85) (lv' := [(2, .int (gf_i x85)), (1, .int (gf_i s)), (3, .int (gf_i 0)), (0, .ref (gf_ad E 0))]) C dd_Fi_cover_85 rfl hx85 (by decide) rfl ?_
                  refine gf_goto 35 C dd_Fi_cover_88 (by decide) ?_
                  refine gf_lsub [1, 0, 3] rfl ?_
                  exact ih35_1 s x85 (by
                          have e1 : x85.toNat = s.toNat + 1 := by omega
                          refine ⟨by omega, by omega, ?_⟩
                          rw [e1]
                          first
                          | (have hcc := (hcv s).mp (hr77.1.mp (by omega))
                             rw [pf_cov_s (pf_cvd μ) hs0 True (by rw [← hf]; exact ⟨fun _ => ⟨by first | exact Or.inl h48 | (right; rw [← hr52.1, ← hr56.1]; omega), hcc⟩, fun _ => trivial⟩), if_pos trivial]
                             done)
                          | (have hcc : ¬ pf_cvd μ s := fun h => by have := hr77.1.mpr ((hcv s).mpr h); omega
                             rw [pf_cov_s (pf_cvd μ) hs0 False ⟨fun h => h.elim, fun h => hcc h.2⟩, if_neg id]
                             exact hf)
                          | (exfalso; omega)
                          | (rw [pf_cov_s (pf_cvd μ) hs0 False ⟨fun h => h.elim, fun h => by rw [← hf, ← hr52.1, ← hr56.1] at h; omega⟩, if_neg id]
                             exact hf)
                          | (exfalso; omega)) (by omega)
            · skip
              refine gf_iconst C dd_Fi_cover_62 ?_
              refine gf_goto 67 C dd_Fi_cover_63 (by decide) ?_
              refine gf_istore_n (lv' := [(3, .int (gf_i 1)), (1, .int (gf_i f)), (2, .int (gf_i s)), (0, .ref (gf_ad E 0))]) C dd_Fi_cover_67 (by decide) rfl ?_
              skip
              refine gf_iload_n C dd_Fi_cover_68 0 rfl ?_
              refine gf_if_eq 85 C dd_Fi_cover_69 (by decide) (by omega) (fun h69 => ?_) (fun h69 => ?_)
              · skip
                obtain ⟨x85, hx85⟩ : ∃ y : Int, y = s + 1 := ⟨_, rfl⟩
                refine gf_iinc (q := 2) (v := x85) (lv' := [(2, .int (gf_i x85)), (3, .int (gf_i 1)), (1, .int (gf_i f)), (0, .ref (gf_ad E 0))]) C dd_Fi_cover_85 rfl hx85 (by decide) rfl ?_
                refine gf_goto 35 C dd_Fi_cover_88 (by decide) ?_
                refine gf_lsub [2, 0, 3] rfl ?_
                exact ih35_1 f x85 (by
                        have e1 : x85.toNat = s.toNat + 1 := by omega
                        refine ⟨by omega, by omega, ?_⟩
                        rw [e1]
                        first
                        | (have hcc := (hcv s).mp (hr77.1.mp (by omega))
                           rw [pf_cov_s (pf_cvd μ) hs0 True (by rw [← hf]; exact ⟨fun _ => ⟨by first | exact Or.inl h48 | (right; rw [← hr52.1, ← hr56.1]; omega), hcc⟩, fun _ => trivial⟩), if_pos trivial]
                           done)
                        | (have hcc : ¬ pf_cvd μ s := fun h => by have := hr77.1.mpr ((hcv s).mpr h); omega
                           rw [pf_cov_s (pf_cvd μ) hs0 False ⟨fun h => h.elim, fun h => hcc h.2⟩, if_neg id]
                           exact hf)
                        | (exfalso; omega)
                        | (rw [pf_cov_s (pf_cvd μ) hs0 False ⟨fun h => h.elim, fun h => by rw [← hf, ← hr52.1, ← hr56.1] at h; omega⟩, if_neg id]
                           exact hf)
                        | (exfalso; omega)) (by omega)
              · skip
                refine gf_aload_n C dd_Fi_cover_72 3 rfl ?_
                refine gf_getA (r := 53) C gf_cl6 fl_Fi_49 dd_Fi_cover_73 rfl (show gf_is 81 0 0 6 17 by decide) (by decide) (by decide) ?_
                refine gf_iload_n C dd_Fi_cover_76 2 rfl ?_
                refine gf_callVi (st := []) (As := [.int (gf_i s)]) C wk_Fi_213 gf_cl4 (show gf_is 81 53 0 4 6 by decide) (ct_Wa_isCoveredBy (gf_xl X) E s m27 (by omega) (by omega) (fun t h0 h1 => by obtain ⟨q, _, he⟩ := hex t h0 h1; omega)) rfl ⟨rfl, rfl, rfl, rfl⟩ (Nat.le_of_ble_eq_true rfl) rfl dd_Fi_cover_77 (fun r77 m77 hR77 hp77 => ?_)
                have hr77 := hp77.1
                refine gf_pm hp77.2 ?_
                refine gf_if_eq 85 C dd_Fi_cover_80 (by decide) (by omega) (fun h80 => ?_) (fun h80 => ?_)
                · skip
                  obtain ⟨x85, hx85⟩ : ∃ y : Int, y = s + 1 := ⟨_, rfl⟩
                  refine gf_iinc (q := 2) (v := x85) (lv' := [(2, .int (gf_i x85)), (3, .int (gf_i 1)), (1, .int (gf_i f)), (0, .ref (gf_ad E 0))]) C dd_Fi_cover_85 rfl hx85 (by decide) rfl ?_
                  refine gf_goto 35 C dd_Fi_cover_88 (by decide) ?_
                  refine gf_lsub [2, 0, 3] rfl ?_
                  exact ih35_1 f x85 (by
                          have e1 : x85.toNat = s.toNat + 1 := by omega
                          refine ⟨by omega, by omega, ?_⟩
                          rw [e1]
                          first
                          | (have hcc := (hcv s).mp (hr77.1.mp (by omega))
                             rw [pf_cov_s (pf_cvd μ) hs0 True (by rw [← hf]; exact ⟨fun _ => ⟨by first | exact Or.inl h48 | (right; rw [← hr52.1, ← hr56.1]; omega), hcc⟩, fun _ => trivial⟩), if_pos trivial]
                             done)
                          | (have hcc : ¬ pf_cvd μ s := fun h => by have := hr77.1.mpr ((hcv s).mpr h); omega
                             rw [pf_cov_s (pf_cvd μ) hs0 False ⟨fun h => h.elim, fun h => hcc h.2⟩, if_neg id]
                             exact hf)
                          | (exfalso; omega)
                          | (rw [pf_cov_s (pf_cvd μ) hs0 False ⟨fun h => h.elim, fun h => by rw [← hf, ← hr52.1, ← hr56.1] at h; omega⟩, if_neg id]
                             exact hf)
                          | (exfalso; omega)) (by omega)
                · skip
                  refine gf_iload_n C dd_Fi_cover_83 2 rfl ?_
                  refine gf_istore_n (lv' := [(1, .int (gf_i s)), (3, .int (gf_i 1)), (2, .int (gf_i s)), (0, .ref (gf_ad E 0))]) C dd_Fi_cover_84 (by decide) rfl ?_
                  obtain ⟨x85, hx85⟩ : ∃ y : Int, y = s + 1 := ⟨_, rfl⟩
                  refine gf_iinc (q := 2) (v := x85) (lv' := [(2, .int (gf_i x85)), (1, .int (gf_i s)), (3, .int (gf_i 1)), (0, .ref (gf_ad E 0))]) C dd_Fi_cover_85 rfl hx85 (by decide) rfl ?_
                  refine gf_goto 35 C dd_Fi_cover_88 (by decide) ?_
                  refine gf_lsub [1, 0, 3] rfl ?_
                  exact ih35_1 s x85 (by
                          have e1 : x85.toNat = s.toNat + 1 := by omega
                          refine ⟨by omega, by omega, ?_⟩
                          rw [e1]
                          first
                          | (have hcc := (hcv s).mp (hr77.1.mp (by omega))
                             rw [pf_cov_s (pf_cvd μ) hs0 True (by rw [← hf]; exact ⟨fun _ => ⟨by first | exact Or.inl h48 | (right; rw [← hr52.1, ← hr56.1]; omega), hcc⟩, fun _ => trivial⟩), if_pos trivial]
                             done)
                          | (have hcc : ¬ pf_cvd μ s := fun h => by have := hr77.1.mpr ((hcv s).mpr h); omega
                             rw [pf_cov_s (pf_cvd μ) hs0 False ⟨fun h => h.elim, fun h => hcc h.2⟩, if_neg id]
                             exact hf)
                          | (exfalso; omega)
                          | (rw [pf_cov_s (pf_cvd μ) hs0 False ⟨fun h => h.elim, fun h => by rw [← hf, ← hr52.1, ← hr56.1] at h; omega⟩, if_neg id]
                             exact hf)
                          | (exfalso; omega)) (by omega)
    refine gf_lsub [1, 0, 2] rfl ?_
    exact L35_1 _ (-9) 0 (⟨by omega, by omega, rfl⟩) (Nat.lt_succ_self _)
  · skip
    refine gf_bipush C dd_Fi_cover_7 (by decide +kernel) ?_
    refine gf_iret C hQ dd_Fi_cover_9 (by omega) ?_
    exact ⟨fun _ => ⟨rfl, rfl⟩, fun h => absurd h (by omega)⟩
