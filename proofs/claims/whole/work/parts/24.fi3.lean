/-! GuardFigures: more of what its calls share -/
theorem ct_Wa_lookI (l : Launch) (E : gf_E) (a b c : Int) (μ : gf_M) (ha : 0 ≤ a) (hab : a ≤ b) (hb : b ≤ c) (hc : c ≤ 7) (hG : gf_okGs μ c) (hs : 0 ≤ μ 41 1 ∧ μ 41 1 ≤ 8) (hF : gf_okF μ 42 (μ 41 1)) : gf_Mv l E yy_Wa_look cc_Wa_look 7 (gf_rm 3 69) 81 gf_ref 0 0 81 gf_ref μ [.ref (gf_ad E 53), .ref (gf_ad E 41), .ref (gf_ad E 23), .int (gf_i a), .int (gf_i b)] (fun μ' => gf_lk μ μ' a.toNat b.toNat) := by
  have h := ct_Wa_look l E a.toNat b.toNat c μ (by omega) (by omega) hc hG hs hF
  rwa [show ((a.toNat : Nat) : Int) = a by omega, show ((b.toNat : Nat) : Int) = b by omega] at h
/-- the slips, swaps, jumps that guard i does not notice -/
def pf_unS (μ : gf_M) (i : Nat) : List Int := (pf_sl (μ 42) (μ 41 1).toNat).filter (fun m => !pf_no μ (μ 42) (μ 41 1) (pf_cps (μ 42) m) i)
def pf_unX (μ : gf_M) (off : Int) (i : Nat) : List Int := (pf_ex (μ 42) off (μ 41 1 - off).toNat).filter (fun k => !pf_no μ (μ 42) (μ 41 1) (pf_cpx (μ 42) k off) i)
theorem pf_unS_S (μ : gf_M) (i : Nat) : ((pf_sl (μ 42) (μ 41 1).toNat).map (fun m => (m, pf_cps (μ 42) m))).filter (pf_uf μ i) = (pf_unS μ i).map (fun m => (m, pf_cps (μ 42) m)) := by
  rw [List.filter_map]; rfl
theorem pf_unX_S (μ : gf_M) (off : Int) (i : Nat) : ((pf_ex (μ 42) off (μ 41 1 - off).toNat).map (fun k => (k, pf_cpx (μ 42) k off))).filter (pf_uf μ i) = (pf_unX μ off i).map (fun k => (k, pf_cpx (μ 42) k off)) := by
  rw [List.filter_map]; rfl
theorem pf_hd (l : List Int) (c : Int → Int → Int) : (((l.map (fun m => (m, c m))).head?.map (fun q => q.1)).getD (-9)) = l.head?.getD (-9) := by
  cases l <;> rfl
/-- the example of a row: figures, and what was reckoned -/
def pf_eok (y : Int → Int) (n : Int) : Prop := (∀ j : Int, 0 ≤ j → j < n - 1 → 0 ≤ y j ∧ y j ≤ 9) ∧ 0 ≤ y (n - 1) ∧ y (n - 1) ≤ 10
def gf_sc (μ' μ : gf_M) : Prop := ∀ a b : Int, ¬ (44 ≤ a ∧ a ≤ 63) → μ' a b = μ a b
def pf_ksB (F S : Int) (y : Int → Int) (n : Int) : Int := pf_set (fun kd => decide (pf_reck kd F S y (n - 1) = y (n - 1))) 6
/-- the greatest part of some kinds that reckon alike, kind by kind -/
def pf_bit (some kd : Int) : Bool := decide (gf_and (gf_shr some kd) 1 = 1)
def pf_maxp (some : Int) (v : Int → Int) : Nat → Int
  | 0 => 0
  | j + 1 => if pf_bit some j = true then gf_max (pf_maxp some v j) (pf_cnt (fun kd => pf_bit some kd && decide (v kd = v j)) (j + 1)) else pf_maxp some v j
theorem dd_Fi_refusedExample_0 : decode cc_Fi_refusedExample 0 = .ok (.aload_n 1, 1) := by decide +kernel
theorem dd_Fi_refusedExample_1 : decode cc_Fi_refusedExample 1 = .ok (.invokevirtual 100, 3) := by decide +kernel
theorem dd_Fi_refusedExample_4 : decode cc_Fi_refusedExample 4 = .ok (.ifCond .ne 9, 3) := by decide +kernel
theorem dd_Fi_refusedExample_7 : decode cc_Fi_refusedExample 7 = .ok (.aload_n 0, 1) := by decide +kernel
theorem dd_Fi_refusedExample_8 : decode cc_Fi_refusedExample 8 = .ok (.iconst 1, 1) := by decide +kernel
theorem dd_Fi_refusedExample_9 : decode cc_Fi_refusedExample 9 = .ok (.invokevirtual 104, 3) := by decide +kernel
theorem dd_Fi_refusedExample_12 : decode cc_Fi_refusedExample 12 = .ok (.ireturn, 1) := by decide +kernel
theorem dd_Fi_refusedExample_13 : decode cc_Fi_refusedExample 13 = .ok (.aload_n 1, 1) := by decide +kernel
theorem dd_Fi_refusedExample_14 : decode cc_Fi_refusedExample 14 = .ok (.getfield 107, 3) := by decide +kernel
theorem dd_Fi_refusedExample_17 : decode cc_Fi_refusedExample 17 = .ok (.iconst 2, 1) := by decide +kernel
theorem dd_Fi_refusedExample_18 : decode cc_Fi_refusedExample 18 = .ok (.if_icmp .lt 12, 3) := by decide +kernel
theorem dd_Fi_refusedExample_21 : decode cc_Fi_refusedExample 21 = .ok (.aload_n 1, 1) := by decide +kernel
theorem dd_Fi_refusedExample_22 : decode cc_Fi_refusedExample 22 = .ok (.getfield 107, 3) := by decide +kernel
theorem dd_Fi_refusedExample_25 : decode cc_Fi_refusedExample 25 = .ok (.bipush 9, 2) := by decide +kernel
theorem dd_Fi_refusedExample_27 : decode cc_Fi_refusedExample 27 = .ok (.if_icmp .le 9, 3) := by decide +kernel
theorem dd_Fi_refusedExample_30 : decode cc_Fi_refusedExample 30 = .ok (.aload_n 0, 1) := by decide +kernel
theorem dd_Fi_refusedExample_31 : decode cc_Fi_refusedExample 31 = .ok (.iconst 5, 1) := by decide +kernel
theorem dd_Fi_refusedExample_32 : decode cc_Fi_refusedExample 32 = .ok (.invokevirtual 104, 3) := by decide +kernel
theorem dd_Fi_refusedExample_35 : decode cc_Fi_refusedExample 35 = .ok (.ireturn, 1) := by decide +kernel
theorem dd_Fi_refusedExample_36 : decode cc_Fi_refusedExample 36 = .ok (.aload_n 1, 1) := by decide +kernel
theorem dd_Fi_refusedExample_37 : decode cc_Fi_refusedExample 37 = .ok (.getfield 107, 3) := by decide +kernel
theorem dd_Fi_refusedExample_40 : decode cc_Fi_refusedExample 40 = .ok (.iconst 1, 1) := by decide +kernel
theorem dd_Fi_refusedExample_41 : decode cc_Fi_refusedExample 41 = .ok (.isub, 1) := by decide +kernel
theorem dd_Fi_refusedExample_42 : decode cc_Fi_refusedExample 42 = .ok (.istore_n 2, 1) := by decide +kernel
theorem dd_Fi_refusedExample_43 : decode cc_Fi_refusedExample 43 = .ok (.iconst 0, 1) := by decide +kernel
theorem dd_Fi_refusedExample_44 : decode cc_Fi_refusedExample 44 = .ok (.istore_n 3, 1) := by decide +kernel
theorem dd_Fi_refusedExample_45 : decode cc_Fi_refusedExample 45 = .ok (.iload_n 3, 1) := by decide +kernel
theorem dd_Fi_refusedExample_46 : decode cc_Fi_refusedExample 46 = .ok (.iload_n 2, 1) := by decide +kernel
theorem dd_Fi_refusedExample_47 : decode cc_Fi_refusedExample 47 = .ok (.if_icmp .ge 29, 3) := by decide +kernel
theorem dd_Fi_refusedExample_50 : decode cc_Fi_refusedExample 50 = .ok (.aload_n 1, 1) := by decide +kernel
theorem dd_Fi_refusedExample_51 : decode cc_Fi_refusedExample 51 = .ok (.getfield 97, 3) := by decide +kernel
theorem dd_Fi_refusedExample_54 : decode cc_Fi_refusedExample 54 = .ok (.iload_n 3, 1) := by decide +kernel
theorem dd_Fi_refusedExample_55 : decode cc_Fi_refusedExample 55 = .ok (.iaload, 1) := by decide +kernel
theorem dd_Fi_refusedExample_56 : decode cc_Fi_refusedExample 56 = .ok (.bipush 10, 2) := by decide +kernel
theorem dd_Fi_refusedExample_58 : decode cc_Fi_refusedExample 58 = .ok (.invokestatic 78, 3) := by decide +kernel
theorem dd_Fi_refusedExample_61 : decode cc_Fi_refusedExample 61 = .ok (.ifCond .ne 9, 3) := by decide +kernel
theorem dd_Fi_refusedExample_64 : decode cc_Fi_refusedExample 64 = .ok (.aload_n 0, 1) := by decide +kernel
theorem dd_Fi_refusedExample_65 : decode cc_Fi_refusedExample 65 = .ok (.iconst 3, 1) := by decide +kernel
theorem dd_Fi_refusedExample_66 : decode cc_Fi_refusedExample 66 = .ok (.invokevirtual 104, 3) := by decide +kernel
theorem dd_Fi_refusedExample_69 : decode cc_Fi_refusedExample 69 = .ok (.ireturn, 1) := by decide +kernel
theorem dd_Fi_refusedExample_70 : decode cc_Fi_refusedExample 70 = .ok (.iinc 3 1, 3) := by decide +kernel
theorem dd_Fi_refusedExample_73 : decode cc_Fi_refusedExample 73 = .ok (.goto (-28), 3) := by decide +kernel
theorem dd_Fi_refusedExample_76 : decode cc_Fi_refusedExample 76 = .ok (.aload_n 1, 1) := by decide +kernel
theorem dd_Fi_refusedExample_77 : decode cc_Fi_refusedExample 77 = .ok (.getfield 97, 3) := by decide +kernel
theorem dd_Fi_refusedExample_80 : decode cc_Fi_refusedExample 80 = .ok (.iload_n 2, 1) := by decide +kernel
theorem dd_Fi_refusedExample_81 : decode cc_Fi_refusedExample 81 = .ok (.iaload, 1) := by decide +kernel
theorem dd_Fi_refusedExample_82 : decode cc_Fi_refusedExample 82 = .ok (.invokestatic 219, 3) := by decide +kernel
theorem dd_Fi_refusedExample_85 : decode cc_Fi_refusedExample 85 = .ok (.ifCond .eq 7, 3) := by decide +kernel
theorem dd_Fi_refusedExample_88 : decode cc_Fi_refusedExample 88 = .ok (.iconst 0, 1) := by decide +kernel
theorem dd_Fi_refusedExample_89 : decode cc_Fi_refusedExample 89 = .ok (.goto 8, 3) := by decide +kernel
theorem dd_Fi_refusedExample_92 : decode cc_Fi_refusedExample 92 = .ok (.aload_n 0, 1) := by decide +kernel
theorem dd_Fi_refusedExample_93 : decode cc_Fi_refusedExample 93 = .ok (.iconst 3, 1) := by decide +kernel
theorem dd_Fi_refusedExample_94 : decode cc_Fi_refusedExample 94 = .ok (.invokevirtual 104, 3) := by decide +kernel
theorem dd_Fi_refusedExample_97 : decode cc_Fi_refusedExample 97 = .ok (.ireturn, 1) := by decide +kernel
set_option maxRecDepth 100000 in
set_option maxHeartbeats 4000000 in
theorem ct_Fi_refusedExample (l : Launch) (E : gf_E) (k : Int) (μ : gf_M) (hk : gf_oRow k 40) (hz : -1 ≤ μ k 1 ∧ μ k 1 ≤ 40) : gf_Mi l E yy_Fi_refusedExample cc_Fi_refusedExample 4 .int (gf_rm 1 21) 81 gf_ref μ [.ref (gf_ad E 0), .ref (gf_ad E k)] (fun q μ' => (μ k 1 = -1 → q = -3 ∧ μ' = gf_fd μ 1) ∧ (μ k 1 ≠ -1 → (¬ (2 ≤ μ k 1 ∧ μ k 1 ≤ 9) → q = -3 ∧ μ' = gf_fd μ 5) ∧ (2 ≤ μ k 1 ∧ μ k 1 ≤ 9 → (¬ pf_eok (μ (k + 1)) (μ k 1) → q = -3 ∧ μ' = gf_fd μ 3) ∧ (pf_eok (μ (k + 1)) (μ k 1) → q = 0 ∧ μ' = μ)))) := by
  refine gf_mi (by decide +kernel) (Nat.le_of_ble_eq_true rfl) (by decide) (fun X Q hlx C hQ => ?_)
  subst hlx
  replace C : gf_C X E cc_Fi_refusedExample 4 "GuardFigures" (gf_rm 1 21) := C
  show gf_G X E Q 4 gf_φ μ 0 [(0, .ref (gf_ad E 0)), (1, .ref (gf_ad E k))] []
  refine gf_aload_n C dd_Fi_refusedExample_0 1 rfl ?_
  refine gf_callVi (st := []) (As := []) C wk_Fi_100 gf_cl3 hk.1 (ct_Ro_isThere (gf_xl X) E k 40 μ hk) rfl ⟨rfl, rfl, rfl, rfl⟩ (Nat.le_of_ble_eq_true rfl) rfl dd_Fi_refusedExample_1 (fun r1 m1 hR1 hp1 => ?_)
  have hr1 := hp1.1
  refine gf_pm hp1.2 ?_
  refine gf_if_ne 13 C dd_Fi_refusedExample_4 (by decide) (by omega) (fun h4 => ?_) (fun h4 => ?_)
  · skip
    have hth : μ k 1 ≠ -1 := by have := hr1.1; omega
    refine gf_aload_n C dd_Fi_refusedExample_13 1 rfl ?_
    refine gf_getI (z := 1) C gf_cl3 fl_Fi_107 dd_Fi_refusedExample_14 rfl rfl hk.1 (fun hv14 => ?_)
    refine gf_iconst C dd_Fi_refusedExample_17 ?_
    refine gf_icmp_lt 30 C dd_Fi_refusedExample_18 (by decide) (by omega) (by omega) (fun h18 => ?_) (fun h18 => ?_)
    · skip
      refine gf_aload_n C dd_Fi_refusedExample_30 0 rfl ?_
      refine gf_iconst C dd_Fi_refusedExample_31 ?_
      refine gf_callVi (st := []) (As := [.int (gf_i 5)]) C wk_Fi_104 gf_cl6 (show gf_is 81 0 0 6 17 by decide) (ct_Fi_found (gf_xl X) E 5 μ (by omega)) rfl ⟨rfl, rfl, rfl, rfl⟩ (Nat.le_of_ble_eq_true rfl) rfl dd_Fi_refusedExample_32 (fun r32 m32 hR32 hp32 => ?_)
      refine gf_iret C hQ dd_Fi_refusedExample_35 (by omega) ?_
      exact ⟨fun h => absurd h hth, fun _ => ⟨fun _ => hp32, fun h => by omega⟩⟩
    · skip
      refine gf_aload_n C dd_Fi_refusedExample_21 1 rfl ?_
      refine gf_getI (z := 1) C gf_cl3 fl_Fi_107 dd_Fi_refusedExample_22 rfl rfl hk.1 (fun hv22 => ?_)
      refine gf_bipush C dd_Fi_refusedExample_25 (by decide +kernel) ?_
      refine gf_icmp_le 36 C dd_Fi_refusedExample_27 (by decide) (by omega) (by omega) (fun h27 => ?_) (fun h27 => ?_)
      · skip
        refine gf_aload_n C dd_Fi_refusedExample_36 1 rfl ?_
        refine gf_getI (z := 1) C gf_cl3 fl_Fi_107 dd_Fi_refusedExample_37 rfl rfl hk.1 (fun hv37 => ?_)
        refine gf_iconst C dd_Fi_refusedExample_40 ?_
        refine gf_isub C dd_Fi_refusedExample_41 ?_
        refine gf_nm (fun x42 hx42 => ?_)
        refine gf_istore_n (lv' := [(2, .int (gf_i x42)), (0, .ref (gf_ad E 0)), (1, .ref (gf_ad E k))]) C dd_Fi_refusedExample_42 (by decide) rfl ?_
        refine gf_iconst C dd_Fi_refusedExample_43 ?_
        refine gf_istore_n (lv' := [(3, .int (gf_i 0)), (2, .int (gf_i x42)), (0, .ref (gf_ad E 0)), (1, .ref (gf_ad E k))]) C dd_Fi_refusedExample_44 (by decide) rfl ?_
        have L45_1 : ∀ (N : Nat) (j : Int) , (0 ≤ j ∧ j ≤ x42 ∧ ∀ z : Int, 0 ≤ z → z < j → 0 ≤ μ (k + 1) z ∧ μ (k + 1) z ≤ 9) → (9 - j).toNat < N → gf_G X E Q 4 gf_φ μ 45 [(3, .int (gf_i j)), (2, .int (gf_i x42)), (0, .ref (gf_ad E 0)), (1, .ref (gf_ad E k))] [] := by
          intro N
          induction N with
          | zero => intro j hinv hN; exact absurd hN (Nat.not_lt_zero _)
          | succ N ih45_1 =>
            intro j hinv hN
            have hinv0 := hinv
            obtain ⟨hj0, hj1, hj2⟩ := hinv
            refine gf_iload_n C dd_Fi_refusedExample_45 0 rfl ?_
            refine gf_iload_n C dd_Fi_refusedExample_46 1 rfl ?_
            refine gf_icmp_ge 76 C dd_Fi_refusedExample_47 (by decide) (by omega) (by omega) (fun h47 => ?_) (fun h47 => ?_)
            · skip
              refine gf_aload_n C dd_Fi_refusedExample_76 3 rfl ?_
              refine gf_getA (r := (k + 1)) C gf_cl3 fl_Fi_97 dd_Fi_refusedExample_77 rfl hk.1 hk.2.1 (hk.2.2).1 ?_
              refine gf_iload_n C dd_Fi_refusedExample_80 1 rfl ?_
              refine gf_iald C dd_Fi_refusedExample_81 hk.2.2 (by omega) (fun hv81 => ?_)
              refine gf_callSi (st := []) (As := [.int (gf_i (μ (k + 1) x42))]) C wk_Fi_219 (ct_Fi_isCheck (gf_xl X) E (μ (k + 1) x42) μ (by omega)) rfl ⟨rfl, rfl, rfl, rfl⟩ (Nat.le_of_ble_eq_true rfl) rfl dd_Fi_refusedExample_82 (fun r82 m82 hR82 hp82 => ?_)
              have hr82 := hp82.1
              refine gf_pm hp82.2 ?_
              refine gf_if_eq 92 C dd_Fi_refusedExample_85 (by decide) (by omega) (fun h85 => ?_) (fun h85 => ?_)
              · skip
                have hbad : ¬ (0 ≤ μ (k + 1) x42 ∧ μ (k + 1) x42 ≤ 10) := by have := hr82.1; omega
                refine gf_aload_n C dd_Fi_refusedExample_92 2 rfl ?_
                refine gf_iconst C dd_Fi_refusedExample_93 ?_
                refine gf_callVi (st := []) (As := [.int (gf_i 3)]) C wk_Fi_104 gf_cl6 (show gf_is 81 0 0 6 17 by decide) (ct_Fi_found (gf_xl X) E 3 μ (by omega)) rfl ⟨rfl, rfl, rfl, rfl⟩ (Nat.le_of_ble_eq_true rfl) rfl dd_Fi_refusedExample_94 (fun r94 m94 hR94 hp94 => ?_)
                refine gf_iret C hQ dd_Fi_refusedExample_97 (by omega) ?_
                first
                  | exact ⟨fun h => absurd h hth, fun _ => ⟨fun h => by omega, fun _ => ⟨fun _ => hp94, fun h => by have := h.2; rw [← hx42] at this; omega⟩⟩⟩
                  | exact ⟨fun h => absurd h hth, fun _ => ⟨fun h => by omega, fun _ => ⟨fun h => absurd ⟨fun z h0 h1 => hj2 z h0 (by omega), by rw [← hx42]; omega⟩ h, fun _ => ⟨rfl, rfl⟩⟩⟩⟩
              · skip
                have hgd : 0 ≤ μ (k + 1) x42 ∧ μ (k + 1) x42 ≤ 10 := by have := hr82.2; omega
                refine gf_iconst C dd_Fi_refusedExample_88 ?_
                refine gf_goto 97 C dd_Fi_refusedExample_89 (by decide) ?_
                refine gf_iret C hQ dd_Fi_refusedExample_97 (by omega) ?_
                first
                  | exact ⟨fun h => absurd h hth, fun _ => ⟨fun h => by omega, fun _ => ⟨fun _ => hp94, fun h => by have := h.2; rw [← hx42] at this; omega⟩⟩⟩
                  | exact ⟨fun h => absurd h hth, fun _ => ⟨fun h => by omega, fun _ => ⟨fun h => absurd ⟨fun z h0 h1 => hj2 z h0 (by omega), by rw [← hx42]; omega⟩ h, fun _ => ⟨rfl, rfl⟩⟩⟩⟩
            · skip
              refine gf_aload_n C dd_Fi_refusedExample_50 3 rfl ?_
              refine gf_getA (r := (k + 1)) C gf_cl3 fl_Fi_97 dd_Fi_refusedExample_51 rfl hk.1 hk.2.1 (hk.2.2).1 ?_
              refine gf_iload_n C dd_Fi_refusedExample_54 0 rfl ?_
              refine gf_iald C dd_Fi_refusedExample_55 hk.2.2 (by omega) (fun hv55 => ?_)
              refine gf_bipush C dd_Fi_refusedExample_56 (by decide +kernel) ?_
              refine gf_callSi (st := []) (As := [.int (gf_i (μ (k + 1) j)), .int (gf_i 10)]) C wk_Fi_78 (ct_Fi_isWithin (gf_xl X) E (μ (k + 1) j) 10 μ (by omega) (by omega)) rfl ⟨rfl, rfl, rfl, rfl⟩ (Nat.le_of_ble_eq_true rfl) rfl dd_Fi_refusedExample_58 (fun r58 m58 hR58 hp58 => ?_)
              have hr58 := hp58.1
              refine gf_pm hp58.2 ?_
              refine gf_if_ne 70 C dd_Fi_refusedExample_61 (by decide) (by omega) (fun h61 => ?_) (fun h61 => ?_)
              · skip
                have hgd : 0 ≤ μ (k + 1) j ∧ μ (k + 1) j < 10 := by have := hr58.2; omega
                obtain ⟨x70, hx70⟩ : ∃ y : Int, y = j + 1 := ⟨_, rfl⟩
                refine gf_iinc (q := 0) (v := x70) (lv' := [(3, .int (gf_i x70)), (2, .int (gf_i x42)), (0, .ref (gf_ad E 0)), (1, .ref (gf_ad E k))]) C dd_Fi_refusedExample_70 rfl hx70 (by decide) rfl ?_
                refine gf_goto 45 C dd_Fi_refusedExample_73 (by decide) ?_
                refine gf_lsub [0, 1, 2, 3] rfl ?_
                exact ih45_1 x70 (by
                        refine ⟨by omega, by omega, fun z h0 h1 => ?_⟩
                        by_cases e : z = j
                        · rw [e]; omega
                        · exact hj2 z h0 (by omega)) (by omega)
              · skip
                have hbad : ¬ (0 ≤ μ (k + 1) j ∧ μ (k + 1) j < 10) := by have := hr58.1; omega
                refine gf_aload_n C dd_Fi_refusedExample_64 2 rfl ?_
                refine gf_iconst C dd_Fi_refusedExample_65 ?_
                refine gf_callVi (st := []) (As := [.int (gf_i 3)]) C wk_Fi_104 gf_cl6 (show gf_is 81 0 0 6 17 by decide) (ct_Fi_found (gf_xl X) E 3 μ (by omega)) rfl ⟨rfl, rfl, rfl, rfl⟩ (Nat.le_of_ble_eq_true rfl) rfl dd_Fi_refusedExample_66 (fun r66 m66 hR66 hp66 => ?_)
                refine gf_iret C hQ dd_Fi_refusedExample_69 (by omega) ?_
                exact ⟨fun h => absurd h hth, fun _ => ⟨fun h => by omega, fun _ => ⟨fun _ => hp66, fun h => by have := h.1 j (by omega) (by omega); omega⟩⟩⟩
        refine gf_lsub [0, 1, 2, 3] rfl ?_
        exact L45_1 _ 0 (⟨by omega, by omega, fun z h0 h1 => by omega⟩) (Nat.lt_succ_self _)
      · skip
        refine gf_aload_n C dd_Fi_refusedExample_30 0 rfl ?_
        refine gf_iconst C dd_Fi_refusedExample_31 ?_
        refine gf_callVi (st := []) (As := [.int (gf_i 5)]) C wk_Fi_104 gf_cl6 (show gf_is 81 0 0 6 17 by decide) (ct_Fi_found (gf_xl X) E 5 μ (by omega)) rfl ⟨rfl, rfl, rfl, rfl⟩ (Nat.le_of_ble_eq_true rfl) rfl dd_Fi_refusedExample_32 (fun r32 m32 hR32 hp32 => ?_)
        refine gf_iret C hQ dd_Fi_refusedExample_35 (by omega) ?_
        exact ⟨fun h => absurd h hth, fun _ => ⟨fun _ => hp32, fun h => by omega⟩⟩
  · skip
    have hth : μ k 1 = -1 := by have := hr1.2; omega
    refine gf_aload_n C dd_Fi_refusedExample_7 0 rfl ?_
    refine gf_iconst C dd_Fi_refusedExample_8 ?_
    refine gf_callVi (st := []) (As := [.int (gf_i 1)]) C wk_Fi_104 gf_cl6 (show gf_is 81 0 0 6 17 by decide) (ct_Fi_found (gf_xl X) E 1 μ (by omega)) rfl ⟨rfl, rfl, rfl, rfl⟩ (Nat.le_of_ble_eq_true rfl) rfl dd_Fi_refusedExample_9 (fun r9 m9 hR9 hp9 => ?_)
    refine gf_iret C hQ dd_Fi_refusedExample_12 (by omega) ?_
    exact ⟨fun _ => hp9, fun h => absurd hth h⟩

theorem dd_Fi_isSmearedNumber_0 : decode cc_Fi_isSmearedNumber 0 = .ok (.iconst 0, 1) := by decide +kernel
theorem dd_Fi_isSmearedNumber_1 : decode cc_Fi_isSmearedNumber 1 = .ok (.istore_n 1, 1) := by decide +kernel
theorem dd_Fi_isSmearedNumber_2 : decode cc_Fi_isSmearedNumber 2 = .ok (.iconst 0, 1) := by decide +kernel
theorem dd_Fi_isSmearedNumber_3 : decode cc_Fi_isSmearedNumber 3 = .ok (.istore_n 2, 1) := by decide +kernel
theorem dd_Fi_isSmearedNumber_4 : decode cc_Fi_isSmearedNumber 4 = .ok (.iload_n 2, 1) := by decide +kernel
theorem dd_Fi_isSmearedNumber_5 : decode cc_Fi_isSmearedNumber 5 = .ok (.aload_n 0, 1) := by decide +kernel
theorem dd_Fi_isSmearedNumber_6 : decode cc_Fi_isSmearedNumber 6 = .ok (.getfield 107, 3) := by decide +kernel
theorem dd_Fi_isSmearedNumber_9 : decode cc_Fi_isSmearedNumber 9 = .ok (.if_icmp .ge 41, 3) := by decide +kernel
theorem dd_Fi_isSmearedNumber_12 : decode cc_Fi_isSmearedNumber 12 = .ok (.aload_n 0, 1) := by decide +kernel
theorem dd_Fi_isSmearedNumber_13 : decode cc_Fi_isSmearedNumber 13 = .ok (.getfield 97, 3) := by decide +kernel
theorem dd_Fi_isSmearedNumber_16 : decode cc_Fi_isSmearedNumber 16 = .ok (.iload_n 2, 1) := by decide +kernel
theorem dd_Fi_isSmearedNumber_17 : decode cc_Fi_isSmearedNumber 17 = .ok (.iaload, 1) := by decide +kernel
theorem dd_Fi_isSmearedNumber_18 : decode cc_Fi_isSmearedNumber 18 = .ok (.iconst (-1), 1) := by decide +kernel
theorem dd_Fi_isSmearedNumber_19 : decode cc_Fi_isSmearedNumber 19 = .ok (.if_icmp .ne 9, 3) := by decide +kernel
theorem dd_Fi_isSmearedNumber_22 : decode cc_Fi_isSmearedNumber 22 = .ok (.iinc 1 1, 3) := by decide +kernel
theorem dd_Fi_isSmearedNumber_25 : decode cc_Fi_isSmearedNumber 25 = .ok (.goto 19, 3) := by decide +kernel
theorem dd_Fi_isSmearedNumber_28 : decode cc_Fi_isSmearedNumber 28 = .ok (.aload_n 0, 1) := by decide +kernel
theorem dd_Fi_isSmearedNumber_29 : decode cc_Fi_isSmearedNumber 29 = .ok (.getfield 97, 3) := by decide +kernel
theorem dd_Fi_isSmearedNumber_32 : decode cc_Fi_isSmearedNumber 32 = .ok (.iload_n 2, 1) := by decide +kernel
theorem dd_Fi_isSmearedNumber_33 : decode cc_Fi_isSmearedNumber 33 = .ok (.iaload, 1) := by decide +kernel
theorem dd_Fi_isSmearedNumber_34 : decode cc_Fi_isSmearedNumber 34 = .ok (.bipush 10, 2) := by decide +kernel
theorem dd_Fi_isSmearedNumber_36 : decode cc_Fi_isSmearedNumber 36 = .ok (.invokestatic 78, 3) := by decide +kernel
theorem dd_Fi_isSmearedNumber_39 : decode cc_Fi_isSmearedNumber 39 = .ok (.ifCond .ne 5, 3) := by decide +kernel
theorem dd_Fi_isSmearedNumber_42 : decode cc_Fi_isSmearedNumber 42 = .ok (.iconst 0, 1) := by decide +kernel
theorem dd_Fi_isSmearedNumber_43 : decode cc_Fi_isSmearedNumber 43 = .ok (.ireturn, 1) := by decide +kernel
theorem dd_Fi_isSmearedNumber_44 : decode cc_Fi_isSmearedNumber 44 = .ok (.iinc 2 1, 3) := by decide +kernel
theorem dd_Fi_isSmearedNumber_47 : decode cc_Fi_isSmearedNumber 47 = .ok (.goto (-43), 3) := by decide +kernel
theorem dd_Fi_isSmearedNumber_50 : decode cc_Fi_isSmearedNumber 50 = .ok (.iload_n 1, 1) := by decide +kernel
theorem dd_Fi_isSmearedNumber_51 : decode cc_Fi_isSmearedNumber 51 = .ok (.iconst 3, 1) := by decide +kernel
theorem dd_Fi_isSmearedNumber_52 : decode cc_Fi_isSmearedNumber 52 = .ok (.if_icmp .gt 7, 3) := by decide +kernel
theorem dd_Fi_isSmearedNumber_55 : decode cc_Fi_isSmearedNumber 55 = .ok (.iconst 1, 1) := by decide +kernel
theorem dd_Fi_isSmearedNumber_56 : decode cc_Fi_isSmearedNumber 56 = .ok (.goto 4, 3) := by decide +kernel
theorem dd_Fi_isSmearedNumber_59 : decode cc_Fi_isSmearedNumber 59 = .ok (.iconst 0, 1) := by decide +kernel
theorem dd_Fi_isSmearedNumber_60 : decode cc_Fi_isSmearedNumber 60 = .ok (.ireturn, 1) := by decide +kernel
set_option maxRecDepth 100000 in
set_option maxHeartbeats 4000000 in
theorem ct_Fi_isSmearedNumber (l : Launch) (E : gf_E) (k : Int) (μ : gf_M) (hk : gf_oRow k 40) (hz : 0 ≤ μ k 1 ∧ μ k 1 ≤ 40) : gf_Mi l E yy_Fi_isSmearedNumber cc_Fi_isSmearedNumber 3 .boolean (gf_rm 1 21) 81 gf_ref μ [.ref (gf_ad E k)] (fun r μ' => (((∀ j : Int, 0 ≤ j → j < μ k 1 → -1 ≤ μ (k + 1) j ∧ μ (k + 1) j ≤ 9) ∧ pf_cnt (fun j => decide (μ (k + 1) j = -1)) (μ k 1).toNat ≤ 3 → r = 1) ∧ (¬ ((∀ j : Int, 0 ≤ j → j < μ k 1 → -1 ≤ μ (k + 1) j ∧ μ (k + 1) j ≤ 9) ∧ pf_cnt (fun j => decide (μ (k + 1) j = -1)) (μ k 1).toNat ≤ 3) → r = 0)) ∧ μ' = μ) := by
  refine gf_mi (by decide +kernel) (Nat.le_of_ble_eq_true rfl) (by decide) (fun X Q hlx C hQ => ?_)
  subst hlx
  replace C : gf_C X E cc_Fi_isSmearedNumber 3 "GuardFigures" (gf_rm 1 21) := C
  show gf_G X E Q 3 gf_φ μ 0 [(0, .ref (gf_ad E k))] []
  refine gf_iconst C dd_Fi_isSmearedNumber_0 ?_
  refine gf_istore_n (lv' := [(1, .int (gf_i 0)), (0, .ref (gf_ad E k))]) C dd_Fi_isSmearedNumber_1 (by decide) rfl ?_
  refine gf_iconst C dd_Fi_isSmearedNumber_2 ?_
  refine gf_istore_n (lv' := [(2, .int (gf_i 0)), (1, .int (gf_i 0)), (0, .ref (gf_ad E k))]) C dd_Fi_isSmearedNumber_3 (by decide) rfl ?_
  have L4_1 : ∀ (N : Nat) (c j : Int) , (0 ≤ j ∧ j ≤ μ k 1 ∧ c = pf_cnt (fun j => decide (μ (k + 1) j = -1)) j.toNat ∧ ∀ z : Int, 0 ≤ z → z < j → -1 ≤ μ (k + 1) z ∧ μ (k + 1) z ≤ 9) → (40 - j).toNat < N → gf_G X E Q 3 gf_φ μ 4 [(1, .int (gf_i c)), (2, .int (gf_i j)), (0, .ref (gf_ad E k))] [] := by
    intro N
    induction N with
    | zero => intro c j hinv hN; exact absurd hN (Nat.not_lt_zero _)
    | succ N ih4_1 =>
      intro c j hinv hN
      have hinv0 := hinv
      obtain ⟨hj0, hj1, hc, hj2⟩ := hinv
      have hcR := pf_cnt_R (fun j => decide (μ (k + 1) j = -1)) j.toNat
      rw [← hc] at hcR
      refine gf_iload_n C dd_Fi_isSmearedNumber_4 1 rfl ?_
      refine gf_aload_n C dd_Fi_isSmearedNumber_5 2 rfl ?_
      refine gf_getI (z := 1) C gf_cl3 fl_Fi_107 dd_Fi_isSmearedNumber_6 rfl rfl hk.1 (fun hv6 => ?_)
      refine gf_icmp_ge 50 C dd_Fi_isSmearedNumber_9 (by decide) (by omega) (by omega) (fun h9 => ?_) (fun h9 => ?_)
      · skip
        refine gf_iload_n C dd_Fi_isSmearedNumber_50 0 rfl ?_
        refine gf_iconst C dd_Fi_isSmearedNumber_51 ?_
        refine gf_icmp_gt 59 C dd_Fi_isSmearedNumber_52 (by decide) (by omega) (by omega) (fun h52 => ?_) (fun h52 => ?_)
        · skip
          refine gf_iconst C dd_Fi_isSmearedNumber_59 ?_
          refine gf_zret C hQ dd_Fi_isSmearedNumber_60 (by omega) ?_
          have hjn : j = μ k 1 := by omega
          rw [hjn] at hc hj2
          first
            | exact ⟨⟨fun h => by omega, fun _ => rfl⟩, rfl⟩
            | exact ⟨⟨fun _ => rfl, fun h => absurd ⟨hj2, by omega⟩ h⟩, rfl⟩
        · skip
          refine gf_iconst C dd_Fi_isSmearedNumber_55 ?_
          refine gf_goto 60 C dd_Fi_isSmearedNumber_56 (by decide) ?_
          refine gf_zret C hQ dd_Fi_isSmearedNumber_60 (by omega) ?_
          have hjn : j = μ k 1 := by omega
          rw [hjn] at hc hj2
          first
            | exact ⟨⟨fun h => by omega, fun _ => rfl⟩, rfl⟩
            | exact ⟨⟨fun _ => rfl, fun h => absurd ⟨hj2, by omega⟩ h⟩, rfl⟩
      · skip
        refine gf_aload_n C dd_Fi_isSmearedNumber_12 2 rfl ?_
        refine gf_getA (r := (k + 1)) C gf_cl3 fl_Fi_97 dd_Fi_isSmearedNumber_13 rfl hk.1 hk.2.1 (hk.2.2).1 ?_
        refine gf_iload_n C dd_Fi_isSmearedNumber_16 1 rfl ?_
        refine gf_iald C dd_Fi_isSmearedNumber_17 hk.2.2 (by omega) (fun hv17 => ?_)
        refine gf_iconst C dd_Fi_isSmearedNumber_18 ?_
        refine gf_icmp_ne 28 C dd_Fi_isSmearedNumber_19 (by decide) (by omega) (by omega) (fun h19 => ?_) (fun h19 => ?_)
        · skip
          refine gf_aload_n C dd_Fi_isSmearedNumber_28 2 rfl ?_
          refine gf_getA (r := (k + 1)) C gf_cl3 fl_Fi_97 dd_Fi_isSmearedNumber_29 rfl hk.1 hk.2.1 (hk.2.2).1 ?_
          refine gf_iload_n C dd_Fi_isSmearedNumber_32 1 rfl ?_
          refine gf_iald C dd_Fi_isSmearedNumber_33 hk.2.2 (by omega) (fun hv33 => ?_)
          refine gf_bipush C dd_Fi_isSmearedNumber_34 (by decide +kernel) ?_
          refine gf_callSi (st := []) (As := [.int (gf_i (μ (k + 1) j)), .int (gf_i 10)]) C wk_Fi_78 (ct_Fi_isWithin (gf_xl X) E (μ (k + 1) j) 10 μ (by omega) (by omega)) rfl ⟨rfl, rfl, rfl, rfl⟩ (Nat.le_of_ble_eq_true rfl) rfl dd_Fi_isSmearedNumber_36 (fun r36 m36 hR36 hp36 => ?_)
          have hr36 := hp36.1
          refine gf_pm hp36.2 ?_
          refine gf_if_ne 44 C dd_Fi_isSmearedNumber_39 (by decide) (by omega) (fun h39 => ?_) (fun h39 => ?_)
          · skip
            obtain ⟨x44, hx44⟩ : ∃ y : Int, y = j + 1 := ⟨_, rfl⟩
            refine gf_iinc (q := 1) (v := x44) (lv' := [(2, .int (gf_i x44)), (1, .int (gf_i c)), (0, .ref (gf_ad E k))]) C dd_Fi_isSmearedNumber_44 rfl hx44 (by decide) rfl ?_
            refine gf_goto 4 C dd_Fi_isSmearedNumber_47 (by decide) ?_
            refine gf_lsub [1, 0, 2] rfl ?_
            exact ih4_1 c x44 (by
                    have e1 : (j + 1).toNat = j.toNat + 1 := by omega
                    have hw : -1 ≤ μ (k + 1) j ∧ μ (k + 1) j ≤ 9 := by first | omega | (have := hr36.2; omega)
                    refine ⟨by omega, by omega, ?_, fun z h0 h1 => ?_⟩
                    · rw [hx44, e1]
                      show _ = pf_cnt _ j.toNat + (if decide (μ (k + 1) ((j.toNat : Nat) : Int) = -1) = true then 1 else 0)
                      rw [show ((j.toNat : Nat) : Int) = j by omega, ← hc]
                      first | (rw [if_pos (by rw [decide_eq_true_eq]; omega)]; omega) | (rw [if_neg (by rw [decide_eq_true_eq]; omega)]; omega)
                    · by_cases e : z = j
                      · rw [e]; exact hw
                      · exact hj2 z h0 (by omega)) (by omega)
          · skip
            refine gf_iconst C dd_Fi_isSmearedNumber_42 ?_
            refine gf_zret C hQ dd_Fi_isSmearedNumber_43 (by omega) ?_
            refine ⟨⟨fun h => ?_, fun _ => rfl⟩, rfl⟩
            have := h.1 j (by omega) (by omega)
            have := hr36.1
            omega
        · skip
          obtain ⟨x22, hx22⟩ : ∃ y : Int, y = c + 1 := ⟨_, rfl⟩
          refine gf_iinc (q := 0) (v := x22) (lv' := [(1, .int (gf_i x22)), (2, .int (gf_i j)), (0, .ref (gf_ad E k))]) C dd_Fi_isSmearedNumber_22 rfl hx22 (by decide) rfl ?_
          refine gf_goto 44 C dd_Fi_isSmearedNumber_25 (by decide) ?_
          obtain ⟨x44, hx44⟩ : ∃ y : Int, y = j + 1 := ⟨_, rfl⟩
          refine gf_iinc (q := 1) (v := x44) (lv' := [(2, .int (gf_i x44)), (1, .int (gf_i x22)), (0, .ref (gf_ad E k))]) C dd_Fi_isSmearedNumber_44 rfl hx44 (by decide) rfl ?_
          refine gf_goto 4 C dd_Fi_isSmearedNumber_47 (by decide) ?_
          refine gf_lsub [1, 0, 2] rfl ?_
          exact ih4_1 x22 x44 (by
                  have e1 : (j + 1).toNat = j.toNat + 1 := by omega
                  have hw : -1 ≤ μ (k + 1) j ∧ μ (k + 1) j ≤ 9 := by first | omega | (have := hr36.2; omega)
                  refine ⟨by omega, by omega, ?_, fun z h0 h1 => ?_⟩
                  · rw [hx44, e1]
                    show _ = pf_cnt _ j.toNat + (if decide (μ (k + 1) ((j.toNat : Nat) : Int) = -1) = true then 1 else 0)
                    rw [show ((j.toNat : Nat) : Int) = j by omega, ← hc]
                    first | (rw [if_pos (by rw [decide_eq_true_eq]; omega)]; omega) | (rw [if_neg (by rw [decide_eq_true_eq]; omega)]; omega)
                  · by_cases e : z = j
                    · rw [e]; exact hw
                    · exact hj2 z h0 (by omega)) (by omega)
  refine gf_lsub [1, 0, 2] rfl ?_
  exact L4_1 _ 0 0 (⟨by omega, by omega, rfl, fun z h0 h1 => by omega⟩) (Nat.lt_succ_self _)

theorem dd_Fi_reckonsAsTold_0 : decode cc_Fi_reckonsAsTold 0 = .ok (.aload_n 1, 1) := by decide +kernel
theorem dd_Fi_reckonsAsTold_1 : decode cc_Fi_reckonsAsTold 1 = .ok (.getfield 107, 3) := by decide +kernel
theorem dd_Fi_reckonsAsTold_4 : decode cc_Fi_reckonsAsTold 4 = .ok (.iconst 1, 1) := by decide +kernel
theorem dd_Fi_reckonsAsTold_5 : decode cc_Fi_reckonsAsTold 5 = .ok (.isub, 1) := by decide +kernel
theorem dd_Fi_reckonsAsTold_6 : decode cc_Fi_reckonsAsTold 6 = .ok (.istore_n 2, 1) := by decide +kernel
theorem dd_Fi_reckonsAsTold_7 : decode cc_Fi_reckonsAsTold 7 = .ok (.aload_n 0, 1) := by decide +kernel
theorem dd_Fi_reckonsAsTold_8 : decode cc_Fi_reckonsAsTold 8 = .ok (.aload_n 1, 1) := by decide +kernel
theorem dd_Fi_reckonsAsTold_9 : decode cc_Fi_reckonsAsTold 9 = .ok (.getfield 97, 3) := by decide +kernel
theorem dd_Fi_reckonsAsTold_12 : decode cc_Fi_reckonsAsTold 12 = .ok (.iload_n 2, 1) := by decide +kernel
theorem dd_Fi_reckonsAsTold_13 : decode cc_Fi_reckonsAsTold 13 = .ok (.invokevirtual 314, 3) := by decide +kernel
theorem dd_Fi_reckonsAsTold_16 : decode cc_Fi_reckonsAsTold 16 = .ok (.aload_n 1, 1) := by decide +kernel
theorem dd_Fi_reckonsAsTold_17 : decode cc_Fi_reckonsAsTold 17 = .ok (.getfield 97, 3) := by decide +kernel
theorem dd_Fi_reckonsAsTold_20 : decode cc_Fi_reckonsAsTold 20 = .ok (.iload_n 2, 1) := by decide +kernel
theorem dd_Fi_reckonsAsTold_21 : decode cc_Fi_reckonsAsTold 21 = .ok (.iaload, 1) := by decide +kernel
theorem dd_Fi_reckonsAsTold_22 : decode cc_Fi_reckonsAsTold 22 = .ok (.if_icmp .ne 7, 3) := by decide +kernel
theorem dd_Fi_reckonsAsTold_25 : decode cc_Fi_reckonsAsTold 25 = .ok (.iconst 1, 1) := by decide +kernel
theorem dd_Fi_reckonsAsTold_26 : decode cc_Fi_reckonsAsTold 26 = .ok (.goto 4, 3) := by decide +kernel
theorem dd_Fi_reckonsAsTold_29 : decode cc_Fi_reckonsAsTold 29 = .ok (.iconst 0, 1) := by decide +kernel
theorem dd_Fi_reckonsAsTold_30 : decode cc_Fi_reckonsAsTold 30 = .ok (.ireturn, 1) := by decide +kernel
set_option maxRecDepth 100000 in
set_option maxHeartbeats 4000000 in
theorem ct_Fi_reckonsAsTold (l : Launch) (E : gf_E) (g k : Int) (μ : gf_M) (hg : gf_oGd g) (hG : gf_okG μ g) (hk : gf_oRow k 40) (hz : 2 ≤ μ k 1 ∧ μ k 1 ≤ 9) (he : pf_eok (μ (k + 1)) (μ k 1)) : gf_Mi l E yy_Fi_reckonsAsTold cc_Fi_reckonsAsTold 3 .boolean (gf_rm 3 69) 81 gf_ref μ [.ref (gf_ad E g), .ref (gf_ad E k)] (fun r μ' => ((pf_reck (μ g 0) (μ g 1) (μ g 2) (μ (k + 1)) (μ k 1 - 1) = μ (k + 1) (μ k 1 - 1) → r = 1) ∧ (pf_reck (μ g 0) (μ g 1) (μ g 2) (μ (k + 1)) (μ k 1 - 1) ≠ μ (k + 1) (μ k 1 - 1) → r = 0)) ∧ μ' = μ) := by
  refine gf_mi (by decide +kernel) (Nat.le_of_ble_eq_true rfl) (by decide) (fun X Q hlx C hQ => ?_)
  subst hlx
  replace C : gf_C X E cc_Fi_reckonsAsTold 3 "GuardFigures" (gf_rm 3 69) := C
  show gf_G X E Q 3 gf_φ μ 0 [(0, .ref (gf_ad E g)), (1, .ref (gf_ad E k))] []
  refine gf_aload_n C dd_Fi_reckonsAsTold_0 1 rfl ?_
  refine gf_getI (z := 1) C gf_cl3 fl_Fi_107 dd_Fi_reckonsAsTold_1 rfl rfl hk.1 (fun hv1 => ?_)
  refine gf_iconst C dd_Fi_reckonsAsTold_4 ?_
  refine gf_isub C dd_Fi_reckonsAsTold_5 ?_
  refine gf_nm (fun x6 hx6 => ?_)
  refine gf_istore_n (lv' := [(2, .int (gf_i x6)), (0, .ref (gf_ad E g)), (1, .ref (gf_ad E k))]) C dd_Fi_reckonsAsTold_6 (by decide) rfl ?_
  refine gf_aload_n C dd_Fi_reckonsAsTold_7 1 rfl ?_
  refine gf_aload_n C dd_Fi_reckonsAsTold_8 2 rfl ?_
  refine gf_getA (r := (k + 1)) C gf_cl3 fl_Fi_97 dd_Fi_reckonsAsTold_9 rfl hk.1 hk.2.1 (hk.2.2).1 ?_
  refine gf_iload_n C dd_Fi_reckonsAsTold_12 0 rfl ?_
  refine gf_callVi (st := []) (As := [.ref (gf_ad E (k + 1)), .int (gf_i x6)]) C wk_Fi_314 gf_cl0 hg (ct_Gd_reckon (gf_xl X) E g (k + 1) x6 40 μ hg (hG) (hk.2.2) (by omega) (fun j h0 h1 => he.1 j h0 (by omega))) rfl ⟨rfl, rfl, rfl, rfl⟩ (Nat.le_of_ble_eq_true rfl) rfl dd_Fi_reckonsAsTold_13 (fun r13 m13 hR13 hp13 => ?_)
  have hr13 := hp13.1
  refine gf_pm hp13.2 ?_
  refine gf_aload_n C dd_Fi_reckonsAsTold_16 2 rfl ?_
  refine gf_getA (r := (k + 1)) C gf_cl3 fl_Fi_97 dd_Fi_reckonsAsTold_17 rfl hk.1 hk.2.1 (hk.2.2).1 ?_
  refine gf_iload_n C dd_Fi_reckonsAsTold_20 0 rfl ?_
  refine gf_iald C dd_Fi_reckonsAsTold_21 hk.2.2 (by omega) (fun hv21 => ?_)
  refine gf_icmp_ne 29 C dd_Fi_reckonsAsTold_22 (by decide) (by omega) (by omega) (fun h22 => ?_) (fun h22 => ?_)
  · skip
    refine gf_iconst C dd_Fi_reckonsAsTold_29 ?_
    refine gf_zret C hQ dd_Fi_reckonsAsTold_30 (by omega) ?_
    have e13 := hr13.1
    rw [hx6] at e13 h22
    exact ⟨⟨fun h => by omega, fun h => by omega⟩, rfl⟩
  · skip
    refine gf_iconst C dd_Fi_reckonsAsTold_25 ?_
    refine gf_goto 30 C dd_Fi_reckonsAsTold_26 (by decide) ?_
    refine gf_zret C hQ dd_Fi_reckonsAsTold_30 (by omega) ?_
    have e13 := hr13.1
    rw [hx6] at e13 h22
    exact ⟨⟨fun h => by omega, fun h => by omega⟩, rfl⟩

theorem dd_Fi_kindsBy_0 : decode cc_Fi_kindsBy 0 = .ok (.iconst 0, 1) := by decide +kernel
theorem dd_Fi_kindsBy_1 : decode cc_Fi_kindsBy 1 = .ok (.istore_n 3, 1) := by decide +kernel
theorem dd_Fi_kindsBy_2 : decode cc_Fi_kindsBy 2 = .ok (.aload_n 0, 1) := by decide +kernel
theorem dd_Fi_kindsBy_3 : decode cc_Fi_kindsBy 3 = .ok (.getfield 60, 3) := by decide +kernel
theorem dd_Fi_kindsBy_6 : decode cc_Fi_kindsBy 6 = .ok (.aload_n 1, 1) := by decide +kernel
theorem dd_Fi_kindsBy_7 : decode cc_Fi_kindsBy 7 = .ok (.invokevirtual 133, 3) := by decide +kernel
theorem dd_Fi_kindsBy_10 : decode cc_Fi_kindsBy 10 = .ok (.iconst 0, 1) := by decide +kernel
theorem dd_Fi_kindsBy_11 : decode cc_Fi_kindsBy 11 = .ok (.istore 4, 2) := by decide +kernel
theorem dd_Fi_kindsBy_13 : decode cc_Fi_kindsBy 13 = .ok (.iload 4, 2) := by decide +kernel
theorem dd_Fi_kindsBy_15 : decode cc_Fi_kindsBy 15 = .ok (.bipush 6, 2) := by decide +kernel
theorem dd_Fi_kindsBy_17 : decode cc_Fi_kindsBy 17 = .ok (.if_icmp .ge 36, 3) := by decide +kernel
theorem dd_Fi_kindsBy_20 : decode cc_Fi_kindsBy 20 = .ok (.aload_n 0, 1) := by decide +kernel
theorem dd_Fi_kindsBy_21 : decode cc_Fi_kindsBy 21 = .ok (.getfield 60, 3) := by decide +kernel
theorem dd_Fi_kindsBy_24 : decode cc_Fi_kindsBy 24 = .ok (.iload 4, 2) := by decide +kernel
theorem dd_Fi_kindsBy_26 : decode cc_Fi_kindsBy 26 = .ok (.putfield 156, 3) := by decide +kernel
theorem dd_Fi_kindsBy_29 : decode cc_Fi_kindsBy 29 = .ok (.aload_n 0, 1) := by decide +kernel
theorem dd_Fi_kindsBy_30 : decode cc_Fi_kindsBy 30 = .ok (.getfield 60, 3) := by decide +kernel
theorem dd_Fi_kindsBy_33 : decode cc_Fi_kindsBy 33 = .ok (.aload_n 2, 1) := by decide +kernel
theorem dd_Fi_kindsBy_34 : decode cc_Fi_kindsBy 34 = .ok (.invokestatic 251, 3) := by decide +kernel
theorem dd_Fi_kindsBy_37 : decode cc_Fi_kindsBy 37 = .ok (.ifCond .eq 10, 3) := by decide +kernel
theorem dd_Fi_kindsBy_40 : decode cc_Fi_kindsBy 40 = .ok (.iload_n 3, 1) := by decide +kernel
theorem dd_Fi_kindsBy_41 : decode cc_Fi_kindsBy 41 = .ok (.iconst 1, 1) := by decide +kernel
theorem dd_Fi_kindsBy_42 : decode cc_Fi_kindsBy 42 = .ok (.iload 4, 2) := by decide +kernel
theorem dd_Fi_kindsBy_44 : decode cc_Fi_kindsBy 44 = .ok (.ishl, 1) := by decide +kernel
theorem dd_Fi_kindsBy_45 : decode cc_Fi_kindsBy 45 = .ok (.ior, 1) := by decide +kernel
theorem dd_Fi_kindsBy_46 : decode cc_Fi_kindsBy 46 = .ok (.istore_n 3, 1) := by decide +kernel
theorem dd_Fi_kindsBy_47 : decode cc_Fi_kindsBy 47 = .ok (.iinc 4 1, 3) := by decide +kernel
theorem dd_Fi_kindsBy_50 : decode cc_Fi_kindsBy 50 = .ok (.goto (-37), 3) := by decide +kernel
theorem dd_Fi_kindsBy_53 : decode cc_Fi_kindsBy 53 = .ok (.iload_n 3, 1) := by decide +kernel
theorem dd_Fi_kindsBy_54 : decode cc_Fi_kindsBy 54 = .ok (.ireturn, 1) := by decide +kernel
set_option maxRecDepth 100000 in
set_option maxHeartbeats 4000000 in
theorem ct_Fi_kindsBy (l : Launch) (E : gf_E) (g k : Int) (μ : gf_M) (hg : gf_oGd g) (hg61 : g < 61) (hG : gf_okG μ g) (hk : gf_oRow k 40) (hk12 : k ≤ 12) (hz : 2 ≤ μ k 1 ∧ μ k 1 ≤ 9) (he : pf_eok (μ (k + 1)) (μ k 1)) : gf_Mi l E yy_Fi_kindsBy cc_Fi_kindsBy 5 .int (gf_rm 4 91) 81 gf_ref μ [.ref (gf_ad E 0), .ref (gf_ad E g), .ref (gf_ad E k)] (fun r μ' => (r = pf_ksB (μ g 1) (μ g 2) (μ (k + 1)) (μ k 1) ∧ 0 ≤ r ∧ r < 64) ∧ ∀ x y : Int, x ≠ 61 → μ' x y = μ x y) := by
  refine gf_mi (by decide +kernel) (Nat.le_of_ble_eq_true rfl) (by decide) (fun X Q hlx C hQ => ?_)
  subst hlx
  replace C : gf_C X E cc_Fi_kindsBy 5 "GuardFigures" (gf_rm 4 91) := C
  show gf_G X E Q 5 gf_φ μ 0 [(0, .ref (gf_ad E 0)), (1, .ref (gf_ad E g)), (2, .ref (gf_ad E k))] []
  have nk := hk.1.1
  refine gf_iconst C dd_Fi_kindsBy_0 ?_
  refine gf_istore_n (lv' := [(3, .int (gf_i 0)), (0, .ref (gf_ad E 0)), (1, .ref (gf_ad E g)), (2, .ref (gf_ad E k))]) C dd_Fi_kindsBy_1 (by decide) rfl ?_
  refine gf_aload_n C dd_Fi_kindsBy_2 1 rfl ?_
  refine gf_getA (r := 61) C gf_cl6 fl_Fi_60 dd_Fi_kindsBy_3 rfl (show gf_is 81 0 0 6 17 by decide) (by decide) (by decide) ?_
  refine gf_aload_n C dd_Fi_kindsBy_6 2 rfl ?_
  refine gf_callVv (st := []) (As := [.ref (gf_ad E g)]) C wk_Fi_133 gf_cl0 (show gf_is 81 61 0 0 3 by decide) (ct_Gd_resemble (gf_xl X) E 61 g μ (show gf_is 81 61 0 0 3 by decide) hg) rfl ⟨rfl, rfl, rfl, rfl⟩ (Nat.le_of_ble_eq_true rfl) rfl dd_Fi_kindsBy_7 (fun m7 hp7 => ?_)
  have f7 : ∀ x y : Int, x ≠ 61 → m7 x y = μ x y := fun x y h => by rw [hp7, gf_up_k h, gf_up_k h, gf_up_k h]
  have f71 : m7 61 1 = μ g 1 := by rw [hp7, gf_up_j (by decide)]; exact gf_up_s
  have f72 : m7 61 2 = μ g 2 := by rw [hp7]; exact gf_up_s
  refine gf_iconst C dd_Fi_kindsBy_10 ?_
  refine gf_istore (lv' := [(4, .int (gf_i 0)), (3, .int (gf_i 0)), (0, .ref (gf_ad E 0)), (1, .ref (gf_ad E g)), (2, .ref (gf_ad E k))]) C dd_Fi_kindsBy_11 (by decide) rfl ?_
  have L13_1 : ∀ (N : Nat) (s kd : Int) (m : gf_M) , (0 ≤ kd ∧ kd ≤ 6 ∧ s = pf_set (fun kd => decide (pf_reck kd (μ g 1) (μ g 2) (μ (k + 1)) (μ k 1 - 1) = μ (k + 1) (μ k 1 - 1))) kd.toNat ∧ m 61 1 = μ g 1 ∧ m 61 2 = μ g 2 ∧ ∀ x y : Int, x ≠ 61 → m x y = μ x y) → (6 - kd).toNat < N → gf_G X E Q 5 gf_φ m 13 [(3, .int (gf_i s)), (4, .int (gf_i kd)), (0, .ref (gf_ad E 0)), (1, .ref (gf_ad E g)), (2, .ref (gf_ad E k))] [] := by
    intro N
    induction N with
    | zero => intro s kd m hinv hN; exact absurd hN (Nat.not_lt_zero _)
    | succ N ih13_1 =>
      intro s kd m hinv hN
      have hinv0 := hinv
      obtain ⟨hd0, hd1, hs, h611, h612, hfr⟩ := hinv
      have hsR := pf_set_R (fun kd => decide (pf_reck kd (μ g 1) (μ g 2) (μ (k + 1)) (μ k 1 - 1) = μ (k + 1) (μ k 1 - 1))) kd.toNat
      rw [← hs] at hsR
      have h210 := pf_2_10 (n := kd.toNat) (by omega)
      refine gf_iload C dd_Fi_kindsBy_13 1 rfl ?_
      refine gf_bipush C dd_Fi_kindsBy_15 (by decide +kernel) ?_
      refine gf_icmp_ge 53 C dd_Fi_kindsBy_17 (by decide) (by omega) (by omega) (fun h17 => ?_) (fun h17 => ?_)
      · skip
        refine gf_iload_n C dd_Fi_kindsBy_53 0 rfl ?_
        refine gf_iret C hQ dd_Fi_kindsBy_54 (by omega) ?_
        have e6 : kd.toNat = 6 := by omega
        rw [e6] at hs hsR
        exact ⟨⟨hs, by omega, by simpa using hsR.2⟩, hfr⟩
      · skip
        refine gf_aload_n C dd_Fi_kindsBy_20 2 rfl ?_
        refine gf_getA (r := 61) C gf_cl6 fl_Fi_60 dd_Fi_kindsBy_21 rfl (show gf_is 81 0 0 6 17 by decide) (by decide) (by decide) ?_
        refine gf_iload C dd_Fi_kindsBy_24 1 rfl ?_
        refine gf_putI (z := 0) C gf_cl0 fl_Fi_156 dd_Fi_kindsBy_26 rfl rfl rfl (by decide +kernel) (show gf_is 81 61 0 0 3 by decide) (by omega) ?_
        refine gf_nmM (fun m26 hm26 => ?_)
        have f26 : ∀ x y : Int, x ≠ 61 → m26 x y = μ x y := fun x y h => by rw [hm26, gf_up_k h]; exact hfr x y h
        have f260 : m26 61 0 = kd := by rw [hm26]; exact gf_up_s
        have f261 : m26 61 1 = μ g 1 := by rw [hm26, gf_up_j (by decide)]; exact h611
        have f262 : m26 61 2 = μ g 2 := by rw [hm26, gf_up_j (by decide)]; exact h612
        have fk1 : m26 k 1 = μ k 1 := f26 k 1 (by omega)
        have fky : m26 (k + 1) = μ (k + 1) := funext fun y => f26 (k + 1) y (by omega)
        have hG26 : gf_okG m26 61 := by unfold gf_okG; rw [f260, f261, f262]; exact ⟨by omega, hG.2.1, hG.2.2⟩
        refine gf_aload_n C dd_Fi_kindsBy_29 2 rfl ?_
        refine gf_getA (r := 61) C gf_cl6 fl_Fi_60 dd_Fi_kindsBy_30 rfl (show gf_is 81 0 0 6 17 by decide) (by decide) (by decide) ?_
        refine gf_aload_n C dd_Fi_kindsBy_33 4 rfl ?_
        refine gf_callSi (st := []) (As := [.ref (gf_ad E 61), .ref (gf_ad E k)]) C wk_Fi_251 (ct_Fi_reckonsAsTold (gf_xl X) E 61 k m26 (show gf_is 81 61 0 0 3 by decide) hG26 hk (by rw [fk1]; exact hz) (by rw [fk1, fky]; exact he)) rfl ⟨rfl, rfl, rfl, rfl⟩ (Nat.le_of_ble_eq_true rfl) rfl dd_Fi_kindsBy_34 (fun r34 m34 hR34 hp34 => ?_)
        have hr34 := hp34.1
        refine gf_pm hp34.2 ?_
        refine gf_if_eq 47 C dd_Fi_kindsBy_37 (by decide) (by omega) (fun h37 => ?_) (fun h37 => ?_)
        · skip
          obtain ⟨x47, hx47⟩ : ∃ y : Int, y = kd + 1 := ⟨_, rfl⟩
          refine gf_iinc (q := 1) (v := x47) (lv' := [(4, .int (gf_i x47)), (3, .int (gf_i s)), (0, .ref (gf_ad E 0)), (1, .ref (gf_ad E g)), (2, .ref (gf_ad E k))]) C dd_Fi_kindsBy_47 rfl hx47 (by decide) rfl ?_
          refine gf_goto 13 C dd_Fi_kindsBy_50 (by decide) ?_
          refine gf_lsub [1, 0, 2, 3, 4] rfl ?_
          exact ih13_1 s x47 m26 (by
                  have e1 : (kd + 1).toNat = kd.toNat + 1 := by omega
                  have eK : ((kd.toNat : Nat) : Int) = kd := by omega
                  rw [f260, f261, f262, fk1, fky] at hr34
                  refine ⟨by omega, by omega, ?_, f261, f262, f26⟩
                  rw [hx47, e1]
                  show _ = if decide (pf_reck ((kd.toNat : Nat) : Int) _ _ _ _ = _) = true then gf_or (pf_set _ kd.toNat) (gf_shl 1 ((kd.toNat : Nat) : Int)) else pf_set _ kd.toNat
                  rw [eK, ← hs]
                  by_cases e : pf_reck kd (μ g 1) (μ g 2) (μ (k + 1)) (μ k 1 - 1) = μ (k + 1) (μ k 1 - 1)
                  · rw [if_pos (by simpa using e)]
                    have := hr34.1 e
                    first | omega | exact hx46
                  · have := hr34.2 e
                    rw [if_neg (by simpa using e)] <;> first | omega | rfl) (by omega)
        · skip
          refine gf_iload_n C dd_Fi_kindsBy_40 0 rfl ?_
          refine gf_iconst C dd_Fi_kindsBy_41 ?_
          refine gf_iload C dd_Fi_kindsBy_42 1 rfl ?_
          refine gf_ishl C dd_Fi_kindsBy_44 (by omega) ?_
          refine gf_ior C dd_Fi_kindsBy_45 (by have := gf_shl1 (i := kd) (by omega); omega) ?_
          refine gf_nm (fun x46 hx46 => ?_)
          refine gf_istore_n (lv' := [(3, .int (gf_i x46)), (4, .int (gf_i kd)), (0, .ref (gf_ad E 0)), (1, .ref (gf_ad E g)), (2, .ref (gf_ad E k))]) C dd_Fi_kindsBy_46 (by decide) rfl ?_
          obtain ⟨x47, hx47⟩ : ∃ y : Int, y = kd + 1 := ⟨_, rfl⟩
          refine gf_iinc (q := 1) (v := x47) (lv' := [(4, .int (gf_i x47)), (3, .int (gf_i x46)), (0, .ref (gf_ad E 0)), (1, .ref (gf_ad E g)), (2, .ref (gf_ad E k))]) C dd_Fi_kindsBy_47 rfl hx47 (by decide) rfl ?_
          refine gf_goto 13 C dd_Fi_kindsBy_50 (by decide) ?_
          refine gf_lsub [1, 0, 2, 3, 4] rfl ?_
          exact ih13_1 x46 x47 m26 (by
                  have e1 : (kd + 1).toNat = kd.toNat + 1 := by omega
                  have eK : ((kd.toNat : Nat) : Int) = kd := by omega
                  rw [f260, f261, f262, fk1, fky] at hr34
                  refine ⟨by omega, by omega, ?_, f261, f262, f26⟩
                  rw [hx47, e1]
                  show _ = if decide (pf_reck ((kd.toNat : Nat) : Int) _ _ _ _ = _) = true then gf_or (pf_set _ kd.toNat) (gf_shl 1 ((kd.toNat : Nat) : Int)) else pf_set _ kd.toNat
                  rw [eK, ← hs]
                  by_cases e : pf_reck kd (μ g 1) (μ g 2) (μ (k + 1)) (μ k 1 - 1) = μ (k + 1) (μ k 1 - 1)
                  · rw [if_pos (by simpa using e)]
                    have := hr34.1 e
                    first | omega | exact hx46
                  · have := hr34.2 e
                    rw [if_neg (by simpa using e)] <;> first | omega | rfl) (by omega)
  refine gf_lsub [1, 0, 2, 3, 4] rfl ?_
  exact L13_1 _ 0 0 m7 (⟨by omega, by omega, rfl, f71, f72, f7⟩) (Nat.lt_succ_self _)

theorem dd_Fi_howManyThere_0 : decode cc_Fi_howManyThere 0 = .ok (.iconst 0, 1) := by decide +kernel
theorem dd_Fi_howManyThere_1 : decode cc_Fi_howManyThere 1 = .ok (.istore_n 1, 1) := by decide +kernel
theorem dd_Fi_howManyThere_2 : decode cc_Fi_howManyThere 2 = .ok (.iconst 0, 1) := by decide +kernel
theorem dd_Fi_howManyThere_3 : decode cc_Fi_howManyThere 3 = .ok (.istore_n 2, 1) := by decide +kernel
theorem dd_Fi_howManyThere_4 : decode cc_Fi_howManyThere 4 = .ok (.iload_n 2, 1) := by decide +kernel
theorem dd_Fi_howManyThere_5 : decode cc_Fi_howManyThere 5 = .ok (.aload_n 0, 1) := by decide +kernel
theorem dd_Fi_howManyThere_6 : decode cc_Fi_howManyThere 6 = .ok (.arraylength, 1) := by decide +kernel
theorem dd_Fi_howManyThere_7 : decode cc_Fi_howManyThere 7 = .ok (.if_icmp .ge 21, 3) := by decide +kernel
theorem dd_Fi_howManyThere_10 : decode cc_Fi_howManyThere 10 = .ok (.aload_n 0, 1) := by decide +kernel
theorem dd_Fi_howManyThere_11 : decode cc_Fi_howManyThere 11 = .ok (.iload_n 2, 1) := by decide +kernel
theorem dd_Fi_howManyThere_12 : decode cc_Fi_howManyThere 12 = .ok (.aaload, 1) := by decide +kernel
theorem dd_Fi_howManyThere_13 : decode cc_Fi_howManyThere 13 = .ok (.invokevirtual 100, 3) := by decide +kernel
theorem dd_Fi_howManyThere_16 : decode cc_Fi_howManyThere 16 = .ok (.ifCond .eq 6, 3) := by decide +kernel
theorem dd_Fi_howManyThere_19 : decode cc_Fi_howManyThere 19 = .ok (.iinc 1 1, 3) := by decide +kernel
theorem dd_Fi_howManyThere_22 : decode cc_Fi_howManyThere 22 = .ok (.iinc 2 1, 3) := by decide +kernel
theorem dd_Fi_howManyThere_25 : decode cc_Fi_howManyThere 25 = .ok (.goto (-21), 3) := by decide +kernel
theorem dd_Fi_howManyThere_28 : decode cc_Fi_howManyThere 28 = .ok (.iload_n 1, 1) := by decide +kernel
theorem dd_Fi_howManyThere_29 : decode cc_Fi_howManyThere 29 = .ok (.ireturn, 1) := by decide +kernel
set_option maxRecDepth 100000 in
set_option maxHeartbeats 4000000 in
theorem ct_Fi_howManyThere (l : Launch) (E : gf_E) (a : Int) (b : Int) (Nn : Nat) (M : Nat) (μ : gf_M) (ha : gf_is 81 a 4 3 Nn) (hN : Nn ≤ 6) (hr : ∀ r : Int, 0 ≤ r ∧ r < (Nn : Int) → gf_ref a r = b + 2 * r ∧ gf_oRow (b + 2 * r) M) : gf_Mi l E yy_Fi_howManyThere cc_Fi_howManyThere 3 .int (gf_rm 1 20) 81 gf_ref μ [.ref (gf_ad E a)] (fun r μ' => (r = pf_cnt (fun j => decide (μ (b + 2 * j) 1 ≠ -1)) Nn ∧ 0 ≤ r ∧ r ≤ 6) ∧ μ' = μ) := by
  refine gf_mi (by decide +kernel) (Nat.le_of_ble_eq_true rfl) (by decide) (fun X Q hlx C hQ => ?_)
  subst hlx
  replace C : gf_C X E cc_Fi_howManyThere 3 "GuardFigures" (gf_rm 1 20) := C
  show gf_G X E Q 3 gf_φ μ 0 [(0, .ref (gf_ad E a))] []
  refine gf_iconst C dd_Fi_howManyThere_0 ?_
  refine gf_istore_n (lv' := [(1, .int (gf_i 0)), (0, .ref (gf_ad E a))]) C dd_Fi_howManyThere_1 (by decide) rfl ?_
  refine gf_iconst C dd_Fi_howManyThere_2 ?_
  refine gf_istore_n (lv' := [(2, .int (gf_i 0)), (1, .int (gf_i 0)), (0, .ref (gf_ad E a))]) C dd_Fi_howManyThere_3 (by decide) rfl ?_
  have L4_1 : ∀ (N : Nat) (c j : Int) , (0 ≤ j ∧ j ≤ (Nn : Int) ∧ c = pf_cnt (fun j => decide (μ (b + 2 * j) 1 ≠ -1)) j.toNat) → ((Nn : Int) - j).toNat < N → gf_G X E Q 3 gf_φ μ 4 [(1, .int (gf_i c)), (2, .int (gf_i j)), (0, .ref (gf_ad E a))] [] := by
    intro N
    induction N with
    | zero => intro c j hinv hN; exact absurd hN (Nat.not_lt_zero _)
    | succ N ih4_1 =>
      intro c j hinv hN
      have hinv0 := hinv
      obtain ⟨hj0, hj1, hc⟩ := hinv
      have hcR := pf_cnt_R (fun j => decide (μ (b + 2 * j) 1 ≠ -1)) j.toNat
      rw [← hc] at hcR
      refine gf_iload_n C dd_Fi_howManyThere_4 1 rfl ?_
      refine gf_aload_n C dd_Fi_howManyThere_5 2 rfl ?_
      refine gf_alen 4 C dd_Fi_howManyThere_6 ha (by decide) ?_
      refine gf_icmp_ge 28 C dd_Fi_howManyThere_7 (by decide) (by omega) (by omega) (fun h7 => ?_) (fun h7 => ?_)
      · skip
        refine gf_iload_n C dd_Fi_howManyThere_28 0 rfl ?_
        refine gf_iret C hQ dd_Fi_howManyThere_29 (by omega) ?_
        have e6 : j.toNat = Nn := by omega
        rw [e6] at hc hcR
        exact ⟨⟨hc, by omega, by omega⟩, rfl⟩
      · skip
        refine gf_aload_n C dd_Fi_howManyThere_10 2 rfl ?_
        refine gf_iload_n C dd_Fi_howManyThere_11 1 rfl ?_
        have ha12 := hr (r := j) (by omega)
        refine gf_aald C dd_Fi_howManyThere_12 ha (by decide) (by omega) ha12.1 (by first | omega | exact ha12.2.1.1 | exact ha12.2.1) ?_
        refine gf_callVi (st := []) (As := []) C wk_Fi_100 gf_cl3 ha12.2.1 (ct_Ro_isThere (gf_xl X) E (b + 2 * j) M μ ha12.2) rfl ⟨rfl, rfl, rfl, rfl⟩ (Nat.le_of_ble_eq_true rfl) rfl dd_Fi_howManyThere_13 (fun r13 m13 hR13 hp13 => ?_)
        have hr13 := hp13.1
        refine gf_pm hp13.2 ?_
        refine gf_if_eq 22 C dd_Fi_howManyThere_16 (by decide) (by omega) (fun h16 => ?_) (fun h16 => ?_)
        · skip
          obtain ⟨x22, hx22⟩ : ∃ y : Int, y = j + 1 := ⟨_, rfl⟩
          refine gf_iinc (q := 1) (v := x22) (lv' := [(2, .int (gf_i x22)), (1, .int (gf_i c)), (0, .ref (gf_ad E a))]) C dd_Fi_howManyThere_22 rfl hx22 (by decide) rfl ?_
          refine gf_goto 4 C dd_Fi_howManyThere_25 (by decide) ?_
          refine gf_lsub [1, 0, 2] rfl ?_
          exact ih4_1 c x22 (by
                  have e1 : (j + 1).toNat = j.toNat + 1 := by omega
                  refine ⟨by omega, by omega, ?_⟩
                  rw [hx22, e1]
                  show _ = pf_cnt _ j.toNat + (if decide (μ (b + 2 * ((j.toNat : Nat) : Int)) 1 ≠ -1) = true then 1 else 0)
                  rw [show ((j.toNat : Nat) : Int) = j by omega, ← hc]
                  by_cases e : μ (b + 2 * j) 1 = -1
                  · rw [if_neg (by simpa using e)]; have := hr13.1 e; omega
                  · rw [if_pos (by simpa using e)]; have := hr13.2 e; omega) (by omega)
        · skip
          obtain ⟨x19, hx19⟩ : ∃ y : Int, y = c + 1 := ⟨_, rfl⟩
          refine gf_iinc (q := 0) (v := x19) (lv' := [(1, .int (gf_i x19)), (2, .int (gf_i j)), (0, .ref (gf_ad E a))]) C dd_Fi_howManyThere_19 rfl hx19 (by decide) rfl ?_
          obtain ⟨x22, hx22⟩ : ∃ y : Int, y = j + 1 := ⟨_, rfl⟩
          refine gf_iinc (q := 1) (v := x22) (lv' := [(2, .int (gf_i x22)), (1, .int (gf_i x19)), (0, .ref (gf_ad E a))]) C dd_Fi_howManyThere_22 rfl hx22 (by decide) rfl ?_
          refine gf_goto 4 C dd_Fi_howManyThere_25 (by decide) ?_
          refine gf_lsub [1, 0, 2] rfl ?_
          exact ih4_1 x19 x22 (by
                  have e1 : (j + 1).toNat = j.toNat + 1 := by omega
                  refine ⟨by omega, by omega, ?_⟩
                  rw [hx22, e1]
                  show _ = pf_cnt _ j.toNat + (if decide (μ (b + 2 * ((j.toNat : Nat) : Int)) 1 ≠ -1) = true then 1 else 0)
                  rw [show ((j.toNat : Nat) : Int) = j by omega, ← hc]
                  by_cases e : μ (b + 2 * j) 1 = -1
                  · rw [if_neg (by simpa using e)]; have := hr13.1 e; omega
                  · rw [if_pos (by simpa using e)]; have := hr13.2 e; omega) (by omega)
  refine gf_lsub [1, 0, 2] rfl ?_
  exact L4_1 _ 0 0 (⟨by omega, by omega, rfl⟩) (Nat.lt_succ_self _)

theorem dd_Fi_keptCount_0 : decode cc_Fi_keptCount 0 = .ok (.iconst 0, 1) := by decide +kernel
theorem dd_Fi_keptCount_1 : decode cc_Fi_keptCount 1 = .ok (.istore_n 1, 1) := by decide +kernel
theorem dd_Fi_keptCount_2 : decode cc_Fi_keptCount 2 = .ok (.iconst 0, 1) := by decide +kernel
theorem dd_Fi_keptCount_3 : decode cc_Fi_keptCount 3 = .ok (.istore_n 2, 1) := by decide +kernel
theorem dd_Fi_keptCount_4 : decode cc_Fi_keptCount 4 = .ok (.iload_n 2, 1) := by decide +kernel
theorem dd_Fi_keptCount_5 : decode cc_Fi_keptCount 5 = .ok (.iconst 3, 1) := by decide +kernel
theorem dd_Fi_keptCount_6 : decode cc_Fi_keptCount 6 = .ok (.if_icmp .ge 24, 3) := by decide +kernel
theorem dd_Fi_keptCount_9 : decode cc_Fi_keptCount 9 = .ok (.aload_n 0, 1) := by decide +kernel
theorem dd_Fi_keptCount_10 : decode cc_Fi_keptCount 10 = .ok (.getfield 30, 3) := by decide +kernel
theorem dd_Fi_keptCount_13 : decode cc_Fi_keptCount 13 = .ok (.iload_n 2, 1) := by decide +kernel
theorem dd_Fi_keptCount_14 : decode cc_Fi_keptCount 14 = .ok (.aaload, 1) := by decide +kernel
theorem dd_Fi_keptCount_15 : decode cc_Fi_keptCount 15 = .ok (.getfield 140, 3) := by decide +kernel
theorem dd_Fi_keptCount_18 : decode cc_Fi_keptCount 18 = .ok (.ifCond .eq 6, 3) := by decide +kernel
theorem dd_Fi_keptCount_21 : decode cc_Fi_keptCount 21 = .ok (.iinc 1 1, 3) := by decide +kernel
theorem dd_Fi_keptCount_24 : decode cc_Fi_keptCount 24 = .ok (.iinc 2 1, 3) := by decide +kernel
theorem dd_Fi_keptCount_27 : decode cc_Fi_keptCount 27 = .ok (.goto (-23), 3) := by decide +kernel
theorem dd_Fi_keptCount_30 : decode cc_Fi_keptCount 30 = .ok (.iload_n 1, 1) := by decide +kernel
theorem dd_Fi_keptCount_31 : decode cc_Fi_keptCount 31 = .ok (.ireturn, 1) := by decide +kernel
set_option maxRecDepth 100000 in
set_option maxHeartbeats 4000000 in
theorem ct_Fi_keptCount (l : Launch) (E : gf_E) (μ : gf_M) : gf_Mi l E yy_Fi_keptCount cc_Fi_keptCount 3 .int (gf_rm 0 0) 81 gf_ref μ [.ref (gf_ad E 0)] (fun r μ' => (r = pf_cnt (fun j => decide (μ (32 + 3 * j) 4 ≠ 0)) 3 ∧ 0 ≤ r ∧ r ≤ 3) ∧ μ' = μ) := by
  refine gf_mi (by decide +kernel) (Nat.le_of_ble_eq_true rfl) (by decide) (fun X Q hlx C hQ => ?_)
  subst hlx
  replace C : gf_C X E cc_Fi_keptCount 3 "GuardFigures" (gf_rm 0 0) := C
  show gf_G X E Q 3 gf_φ μ 0 [(0, .ref (gf_ad E 0))] []
  refine gf_iconst C dd_Fi_keptCount_0 ?_
  refine gf_istore_n (lv' := [(1, .int (gf_i 0)), (0, .ref (gf_ad E 0))]) C dd_Fi_keptCount_1 (by decide) rfl ?_
  refine gf_iconst C dd_Fi_keptCount_2 ?_
  refine gf_istore_n (lv' := [(2, .int (gf_i 0)), (1, .int (gf_i 0)), (0, .ref (gf_ad E 0))]) C dd_Fi_keptCount_3 (by decide) rfl ?_
  have L4_1 : ∀ (N : Nat) (c j : Int) , (0 ≤ j ∧ j ≤ 3 ∧ c = pf_cnt (fun j => decide (μ (32 + 3 * j) 4 ≠ 0)) j.toNat) → (3 - j).toNat < N → gf_G X E Q 3 gf_φ μ 4 [(1, .int (gf_i c)), (2, .int (gf_i j)), (0, .ref (gf_ad E 0))] [] := by
    intro N
    induction N with
    | zero => intro c j hinv hN; exact absurd hN (Nat.not_lt_zero _)
    | succ N ih4_1 =>
      intro c j hinv hN
      have hinv0 := hinv
      obtain ⟨hj0, hj1, hc⟩ := hinv
      have hcR := pf_cnt_R (fun j => decide (μ (32 + 3 * j) 4 ≠ 0)) j.toNat
      rw [← hc] at hcR
      refine gf_iload_n C dd_Fi_keptCount_4 1 rfl ?_
      refine gf_iconst C dd_Fi_keptCount_5 ?_
      refine gf_icmp_ge 30 C dd_Fi_keptCount_6 (by decide) (by omega) (by omega) (fun h6 => ?_) (fun h6 => ?_)
      · skip
        refine gf_iload_n C dd_Fi_keptCount_30 0 rfl ?_
        refine gf_iret C hQ dd_Fi_keptCount_31 (by omega) ?_
        have e6 : j.toNat = 3 := by omega
        rw [e6] at hc hcR
        exact ⟨⟨hc, by omega, by omega⟩, rfl⟩
      · skip
        refine gf_aload_n C dd_Fi_keptCount_9 2 rfl ?_
        refine gf_getA (r := 31) C gf_cl6 fl_Fi_30 dd_Fi_keptCount_10 rfl (show gf_is 81 0 0 6 17 by decide) (by decide) (by decide) ?_
        refine gf_iload_n C dd_Fi_keptCount_13 1 rfl ?_
        have ha14 := gf_kept_of (r := j) (by omega)
        refine gf_aald C dd_Fi_keptCount_14 (show gf_is 81 31 4 5 3 by decide) (by decide) (by omega) ha14.1 (by first | omega | exact ha14.2.1.1 | exact ha14.2.1) ?_
        refine gf_getI (z := 4) C gf_cl5 fl_Fi_140 dd_Fi_keptCount_15 rfl rfl ha14.2.1 (fun hv15 => ?_)
        refine gf_if_eq 24 C dd_Fi_keptCount_18 (by decide) (by omega) (fun h18 => ?_) (fun h18 => ?_)
        · skip
          obtain ⟨x24, hx24⟩ : ∃ y : Int, y = j + 1 := ⟨_, rfl⟩
          refine gf_iinc (q := 1) (v := x24) (lv' := [(2, .int (gf_i x24)), (1, .int (gf_i c)), (0, .ref (gf_ad E 0))]) C dd_Fi_keptCount_24 rfl hx24 (by decide) rfl ?_
          refine gf_goto 4 C dd_Fi_keptCount_27 (by decide) ?_
          refine gf_lsub [1, 0, 2] rfl ?_
          exact ih4_1 c x24 (by
                  have e1 : (j + 1).toNat = j.toNat + 1 := by omega
                  refine ⟨by omega, by omega, ?_⟩
                  rw [hx24, e1]
                  show _ = pf_cnt _ j.toNat + (if decide (μ (32 + 3 * ((j.toNat : Nat) : Int)) 4 ≠ 0) = true then 1 else 0)
                  rw [show ((j.toNat : Nat) : Int) = j by omega, ← hc]
                  by_cases e : μ (32 + 3 * j) 4 = 0
                  · rw [if_neg (by simpa using e)]; omega
                  · rw [if_pos (by simpa using e)]; omega) (by omega)
        · skip
          obtain ⟨x21, hx21⟩ : ∃ y : Int, y = c + 1 := ⟨_, rfl⟩
          refine gf_iinc (q := 0) (v := x21) (lv' := [(1, .int (gf_i x21)), (2, .int (gf_i j)), (0, .ref (gf_ad E 0))]) C dd_Fi_keptCount_21 rfl hx21 (by decide) rfl ?_
          obtain ⟨x24, hx24⟩ : ∃ y : Int, y = j + 1 := ⟨_, rfl⟩
          refine gf_iinc (q := 1) (v := x24) (lv' := [(2, .int (gf_i x24)), (1, .int (gf_i x21)), (0, .ref (gf_ad E 0))]) C dd_Fi_keptCount_24 rfl hx24 (by decide) rfl ?_
          refine gf_goto 4 C dd_Fi_keptCount_27 (by decide) ?_
          refine gf_lsub [1, 0, 2] rfl ?_
          exact ih4_1 x21 x24 (by
                  have e1 : (j + 1).toNat = j.toNat + 1 := by omega
                  refine ⟨by omega, by omega, ?_⟩
                  rw [hx24, e1]
                  show _ = pf_cnt _ j.toNat + (if decide (μ (32 + 3 * ((j.toNat : Nat) : Int)) 4 ≠ 0) = true then 1 else 0)
                  rw [show ((j.toNat : Nat) : Int) = j by omega, ← hc]
                  by_cases e : μ (32 + 3 * j) 4 = 0
                  · rw [if_neg (by simpa using e)]; omega
                  · rw [if_pos (by simpa using e)]; omega) (by omega)
  refine gf_lsub [1, 0, 2] rfl ?_
  exact L4_1 _ 0 0 (⟨by omega, by omega, rfl⟩) (Nat.lt_succ_self _)

theorem dd_Fi_howManyAre_0 : decode cc_Fi_howManyAre 0 = .ok (.iconst 0, 1) := by decide +kernel
theorem dd_Fi_howManyAre_1 : decode cc_Fi_howManyAre 1 = .ok (.istore_n 2, 1) := by decide +kernel
theorem dd_Fi_howManyAre_2 : decode cc_Fi_howManyAre 2 = .ok (.iconst 0, 1) := by decide +kernel
theorem dd_Fi_howManyAre_3 : decode cc_Fi_howManyAre 3 = .ok (.istore_n 3, 1) := by decide +kernel
theorem dd_Fi_howManyAre_4 : decode cc_Fi_howManyAre 4 = .ok (.iload_n 3, 1) := by decide +kernel
theorem dd_Fi_howManyAre_5 : decode cc_Fi_howManyAre 5 = .ok (.aload_n 0, 1) := by decide +kernel
theorem dd_Fi_howManyAre_6 : decode cc_Fi_howManyAre 6 = .ok (.getfield 131, 3) := by decide +kernel
theorem dd_Fi_howManyAre_9 : decode cc_Fi_howManyAre 9 = .ok (.if_icmp .ge 25, 3) := by decide +kernel
theorem dd_Fi_howManyAre_12 : decode cc_Fi_howManyAre 12 = .ok (.aload_n 0, 1) := by decide +kernel
theorem dd_Fi_howManyAre_13 : decode cc_Fi_howManyAre 13 = .ok (.getfield 23, 3) := by decide +kernel
theorem dd_Fi_howManyAre_16 : decode cc_Fi_howManyAre 16 = .ok (.iload_n 3, 1) := by decide +kernel
theorem dd_Fi_howManyAre_17 : decode cc_Fi_howManyAre 17 = .ok (.aaload, 1) := by decide +kernel
theorem dd_Fi_howManyAre_18 : decode cc_Fi_howManyAre 18 = .ok (.iload_n 1, 1) := by decide +kernel
theorem dd_Fi_howManyAre_19 : decode cc_Fi_howManyAre 19 = .ok (.invokevirtual 150, 3) := by decide +kernel
theorem dd_Fi_howManyAre_22 : decode cc_Fi_howManyAre 22 = .ok (.ifCond .eq 6, 3) := by decide +kernel
theorem dd_Fi_howManyAre_25 : decode cc_Fi_howManyAre 25 = .ok (.iinc 2 1, 3) := by decide +kernel
theorem dd_Fi_howManyAre_28 : decode cc_Fi_howManyAre 28 = .ok (.iinc 3 1, 3) := by decide +kernel
theorem dd_Fi_howManyAre_31 : decode cc_Fi_howManyAre 31 = .ok (.goto (-27), 3) := by decide +kernel
theorem dd_Fi_howManyAre_34 : decode cc_Fi_howManyAre 34 = .ok (.iload_n 2, 1) := by decide +kernel
theorem dd_Fi_howManyAre_35 : decode cc_Fi_howManyAre 35 = .ok (.ireturn, 1) := by decide +kernel
set_option maxRecDepth 100000 in
set_option maxHeartbeats 4000000 in
theorem ct_Fi_howManyAre (l : Launch) (E : gf_E) (w : Int) (μ : gf_M) (hc7 : 0 ≤ μ 0 3 ∧ μ 0 3 ≤ 7) (hG : gf_okGs μ (μ 0 3)) (hw : 0 ≤ w ∧ w ≤ 5) : gf_Mi l E yy_Fi_howManyAre cc_Fi_howManyAre 4 .int (gf_rm 1 23) 81 gf_ref μ [.ref (gf_ad E 0), .int (gf_i w)] (fun r μ' => (r = pf_cnt (fun j => @decide (pf_is (μ (24 + j) 0) w) (Classical.propDecidable _)) (μ 0 3).toNat ∧ 0 ≤ r ∧ r ≤ 7) ∧ μ' = μ) := by
  refine gf_mi (by decide +kernel) (Nat.le_of_ble_eq_true rfl) (by decide) (fun X Q hlx C hQ => ?_)
  subst hlx
  replace C : gf_C X E cc_Fi_howManyAre 4 "GuardFigures" (gf_rm 1 23) := C
  show gf_G X E Q 4 gf_φ μ 0 [(0, .ref (gf_ad E 0)), (1, .int (gf_i w))] []
  refine gf_iconst C dd_Fi_howManyAre_0 ?_
  refine gf_istore_n (lv' := [(2, .int (gf_i 0)), (0, .ref (gf_ad E 0)), (1, .int (gf_i w))]) C dd_Fi_howManyAre_1 (by decide) rfl ?_
  refine gf_iconst C dd_Fi_howManyAre_2 ?_
  refine gf_istore_n (lv' := [(3, .int (gf_i 0)), (2, .int (gf_i 0)), (0, .ref (gf_ad E 0)), (1, .int (gf_i w))]) C dd_Fi_howManyAre_3 (by decide) rfl ?_
  have L4_1 : ∀ (N : Nat) (c j : Int) , (0 ≤ j ∧ j ≤ μ 0 3 ∧ c = pf_cnt (fun j => @decide (pf_is (μ (24 + j) 0) w) (Classical.propDecidable _)) j.toNat) → (7 - j).toNat < N → gf_G X E Q 4 gf_φ μ 4 [(2, .int (gf_i c)), (3, .int (gf_i j)), (0, .ref (gf_ad E 0)), (1, .int (gf_i w))] [] := by
    intro N
    induction N with
    | zero => intro c j hinv hN; exact absurd hN (Nat.not_lt_zero _)
    | succ N ih4_1 =>
      intro c j hinv hN
      have hinv0 := hinv
      obtain ⟨hj0, hj1, hc⟩ := hinv
      have hcR := pf_cnt_R (fun j => @decide (pf_is (μ (24 + j) 0) w) (Classical.propDecidable _)) j.toNat
      rw [← hc] at hcR
      refine gf_iload_n C dd_Fi_howManyAre_4 1 rfl ?_
      refine gf_aload_n C dd_Fi_howManyAre_5 2 rfl ?_
      refine gf_getI (z := 3) C gf_cl6 fl_Fi_131 dd_Fi_howManyAre_6 rfl rfl (show gf_is 81 0 0 6 17 by decide) (fun hv6 => ?_)
      refine gf_icmp_ge 34 C dd_Fi_howManyAre_9 (by decide) (by omega) (by omega) (fun h9 => ?_) (fun h9 => ?_)
      · skip
        refine gf_iload_n C dd_Fi_howManyAre_34 0 rfl ?_
        refine gf_iret C hQ dd_Fi_howManyAre_35 (by omega) ?_
        have e6 : j.toNat = (μ 0 3).toNat := by omega
        rw [e6] at hc hcR
        exact ⟨⟨hc, by omega, by omega⟩, rfl⟩
      · skip
        refine gf_aload_n C dd_Fi_howManyAre_12 2 rfl ?_
        refine gf_getA (r := 23) C gf_cl6 fl_Fi_23 dd_Fi_howManyAre_13 rfl (show gf_is 81 0 0 6 17 by decide) (by decide) (by decide) ?_
        refine gf_iload_n C dd_Fi_howManyAre_16 1 rfl ?_
        have ha17 := gf_guard_of (r := j) (by omega)
        refine gf_aald C dd_Fi_howManyAre_17 (show gf_is 81 23 4 4 7 by decide) (by decide) (by omega) ha17.1 (by first | omega | exact ha17.2.1.1 | exact ha17.2.1) ?_
        refine gf_iload_n C dd_Fi_howManyAre_18 3 rfl ?_
        refine gf_callVi (st := []) (As := [.int (gf_i w)]) C wk_Fi_150 gf_cl0 ha17.2 (ct_Gd_is (gf_xl X) E (24 + j) w μ ha17.2 (hG j (by omega) (by omega)) (by omega)) rfl ⟨rfl, rfl, rfl, rfl⟩ (Nat.le_of_ble_eq_true rfl) rfl dd_Fi_howManyAre_19 (fun r19 m19 hR19 hp19 => ?_)
        have hr19 := hp19.1
        refine gf_pm hp19.2 ?_
        refine gf_if_eq 28 C dd_Fi_howManyAre_22 (by decide) (by omega) (fun h22 => ?_) (fun h22 => ?_)
        · skip
          obtain ⟨x28, hx28⟩ : ∃ y : Int, y = j + 1 := ⟨_, rfl⟩
          refine gf_iinc (q := 1) (v := x28) (lv' := [(3, .int (gf_i x28)), (2, .int (gf_i c)), (0, .ref (gf_ad E 0)), (1, .int (gf_i w))]) C dd_Fi_howManyAre_28 rfl hx28 (by decide) rfl ?_
          refine gf_goto 4 C dd_Fi_howManyAre_31 (by decide) ?_
          refine gf_lsub [1, 0, 2, 3] rfl ?_
          exact ih4_1 c x28 (by
                  have e1 : (j + 1).toNat = j.toNat + 1 := by omega
                  refine ⟨by omega, by omega, ?_⟩
                  rw [hx28, e1]
                  show _ = pf_cnt _ j.toNat + (if @decide (pf_is (μ (24 + ((j.toNat : Nat) : Int)) 0) w) (Classical.propDecidable _) = true then 1 else 0)
                  rw [show ((j.toNat : Nat) : Int) = j by omega, ← hc]
                  by_cases e : pf_is (μ (24 + j) 0) w
                  · rw [if_pos (by simpa using e)]; have := hr19.1 e; omega
                  · rw [if_neg (by simpa using e)]; have := hr19.2 e; omega) (by omega)
        · skip
          obtain ⟨x25, hx25⟩ : ∃ y : Int, y = c + 1 := ⟨_, rfl⟩
          refine gf_iinc (q := 0) (v := x25) (lv' := [(2, .int (gf_i x25)), (3, .int (gf_i j)), (0, .ref (gf_ad E 0)), (1, .int (gf_i w))]) C dd_Fi_howManyAre_25 rfl hx25 (by decide) rfl ?_
          obtain ⟨x28, hx28⟩ : ∃ y : Int, y = j + 1 := ⟨_, rfl⟩
          refine gf_iinc (q := 1) (v := x28) (lv' := [(3, .int (gf_i x28)), (2, .int (gf_i x25)), (0, .ref (gf_ad E 0)), (1, .int (gf_i w))]) C dd_Fi_howManyAre_28 rfl hx28 (by decide) rfl ?_
          refine gf_goto 4 C dd_Fi_howManyAre_31 (by decide) ?_
          refine gf_lsub [1, 0, 2, 3] rfl ?_
          exact ih4_1 x25 x28 (by
                  have e1 : (j + 1).toNat = j.toNat + 1 := by omega
                  refine ⟨by omega, by omega, ?_⟩
                  rw [hx28, e1]
                  show _ = pf_cnt _ j.toNat + (if @decide (pf_is (μ (24 + ((j.toNat : Nat) : Int)) 0) w) (Classical.propDecidable _) = true then 1 else 0)
                  rw [show ((j.toNat : Nat) : Int) = j by omega, ← hc]
                  by_cases e : pf_is (μ (24 + j) 0) w
                  · rw [if_pos (by simpa using e)]; have := hr19.1 e; omega
                  · rw [if_neg (by simpa using e)]; have := hr19.2 e; omega) (by omega)
  refine gf_lsub [1, 0, 2, 3] rfl ?_
  exact L4_1 _ 0 0 (⟨by omega, by omega, rfl⟩) (Nat.lt_succ_self _)

theorem dd_Fi_reckonedTogether_0 : decode cc_Fi_reckonedTogether 0 = .ok (.iconst 0, 1) := by decide +kernel
theorem dd_Fi_reckonedTogether_1 : decode cc_Fi_reckonedTogether 1 = .ok (.istore_n 1, 1) := by decide +kernel
theorem dd_Fi_reckonedTogether_2 : decode cc_Fi_reckonedTogether 2 = .ok (.iconst 0, 1) := by decide +kernel
theorem dd_Fi_reckonedTogether_3 : decode cc_Fi_reckonedTogether 3 = .ok (.istore_n 2, 1) := by decide +kernel
theorem dd_Fi_reckonedTogether_4 : decode cc_Fi_reckonedTogether 4 = .ok (.iload_n 2, 1) := by decide +kernel
theorem dd_Fi_reckonedTogether_5 : decode cc_Fi_reckonedTogether 5 = .ok (.aload_n 0, 1) := by decide +kernel
theorem dd_Fi_reckonedTogether_6 : decode cc_Fi_reckonedTogether 6 = .ok (.getfield 131, 3) := by decide +kernel
theorem dd_Fi_reckonedTogether_9 : decode cc_Fi_reckonedTogether 9 = .ok (.if_icmp .ge 22, 3) := by decide +kernel
theorem dd_Fi_reckonedTogether_12 : decode cc_Fi_reckonedTogether 12 = .ok (.iload_n 1, 1) := by decide +kernel
theorem dd_Fi_reckonedTogether_13 : decode cc_Fi_reckonedTogether 13 = .ok (.aload_n 0, 1) := by decide +kernel
theorem dd_Fi_reckonedTogether_14 : decode cc_Fi_reckonedTogether 14 = .ok (.aload_n 0, 1) := by decide +kernel
theorem dd_Fi_reckonedTogether_15 : decode cc_Fi_reckonedTogether 15 = .ok (.getfield 23, 3) := by decide +kernel
theorem dd_Fi_reckonedTogether_18 : decode cc_Fi_reckonedTogether 18 = .ok (.iload_n 2, 1) := by decide +kernel
theorem dd_Fi_reckonedTogether_19 : decode cc_Fi_reckonedTogether 19 = .ok (.aaload, 1) := by decide +kernel
theorem dd_Fi_reckonedTogether_20 : decode cc_Fi_reckonedTogether 20 = .ok (.invokevirtual 159, 3) := by decide +kernel
theorem dd_Fi_reckonedTogether_23 : decode cc_Fi_reckonedTogether 23 = .ok (.iadd, 1) := by decide +kernel
theorem dd_Fi_reckonedTogether_24 : decode cc_Fi_reckonedTogether 24 = .ok (.istore_n 1, 1) := by decide +kernel
theorem dd_Fi_reckonedTogether_25 : decode cc_Fi_reckonedTogether 25 = .ok (.iinc 2 1, 3) := by decide +kernel
theorem dd_Fi_reckonedTogether_28 : decode cc_Fi_reckonedTogether 28 = .ok (.goto (-24), 3) := by decide +kernel
theorem dd_Fi_reckonedTogether_31 : decode cc_Fi_reckonedTogether 31 = .ok (.iload_n 1, 1) := by decide +kernel
theorem dd_Fi_reckonedTogether_32 : decode cc_Fi_reckonedTogether 32 = .ok (.ireturn, 1) := by decide +kernel
set_option maxRecDepth 100000 in
set_option maxHeartbeats 4000000 in
theorem ct_Fi_reckonedTogether (l : Launch) (E : gf_E) (μ : gf_M) (hc7 : 0 ≤ μ 0 3 ∧ μ 0 3 ≤ 7) (hG : gf_okGs μ (μ 0 3)) (hs : 0 ≤ μ 41 1 ∧ μ 41 1 ≤ 8) (hF : gf_okF μ 42 (μ 41 1)) : gf_Mi l E yy_Fi_reckonedTogether cc_Fi_reckonedTogether 3 .int (gf_rm 4 90) 81 gf_ref μ [.ref (gf_ad E 0)] (fun r μ' => (r = pf_sumf (fun j => pf_reck (μ (24 + j) 0) (μ (24 + j) 1) (μ (24 + j) 2) (μ 42) (μ 41 1)) (μ 0 3).toNat ∧ 0 ≤ r ∧ r ≤ 70) ∧ μ' = μ) := by
  refine gf_mi (by decide +kernel) (Nat.le_of_ble_eq_true rfl) (by decide) (fun X Q hlx C hQ => ?_)
  subst hlx
  replace C : gf_C X E cc_Fi_reckonedTogether 3 "GuardFigures" (gf_rm 4 90) := C
  show gf_G X E Q 3 gf_φ μ 0 [(0, .ref (gf_ad E 0))] []
  refine gf_iconst C dd_Fi_reckonedTogether_0 ?_
  refine gf_istore_n (lv' := [(1, .int (gf_i 0)), (0, .ref (gf_ad E 0))]) C dd_Fi_reckonedTogether_1 (by decide) rfl ?_
  refine gf_iconst C dd_Fi_reckonedTogether_2 ?_
  refine gf_istore_n (lv' := [(2, .int (gf_i 0)), (1, .int (gf_i 0)), (0, .ref (gf_ad E 0))]) C dd_Fi_reckonedTogether_3 (by decide) rfl ?_
  have L4_1 : ∀ (N : Nat) (c j : Int) , (0 ≤ j ∧ j ≤ μ 0 3 ∧ c = pf_sumf (fun j => pf_reck (μ (24 + j) 0) (μ (24 + j) 1) (μ (24 + j) 2) (μ 42) (μ 41 1)) j.toNat) → (7 - j).toNat < N → gf_G X E Q 3 gf_φ μ 4 [(1, .int (gf_i c)), (2, .int (gf_i j)), (0, .ref (gf_ad E 0))] [] := by
    intro N
    induction N with
    | zero => intro c j hinv hN; exact absurd hN (Nat.not_lt_zero _)
    | succ N ih4_1 =>
      intro c j hinv hN
      have hinv0 := hinv
      obtain ⟨hj0, hj1, hc⟩ := hinv
      have hcR := pf_sumf_R (g := fun j => pf_reck (μ (24 + j) 0) (μ (24 + j) 1) (μ (24 + j) 2) (μ 42) (μ 41 1)) (B := 10) j.toNat (fun f _ _ => pf_reck_R _ _ _ _ _)
      rw [← hc] at hcR
      refine gf_iload_n C dd_Fi_reckonedTogether_4 1 rfl ?_
      refine gf_aload_n C dd_Fi_reckonedTogether_5 2 rfl ?_
      refine gf_getI (z := 3) C gf_cl6 fl_Fi_131 dd_Fi_reckonedTogether_6 rfl rfl (show gf_is 81 0 0 6 17 by decide) (fun hv6 => ?_)
      refine gf_icmp_ge 31 C dd_Fi_reckonedTogether_9 (by decide) (by omega) (by omega) (fun h9 => ?_) (fun h9 => ?_)
      · skip
        refine gf_iload_n C dd_Fi_reckonedTogether_31 0 rfl ?_
        refine gf_iret C hQ dd_Fi_reckonedTogether_32 (by omega) ?_
        have e6 : j.toNat = (μ 0 3).toNat := by omega
        rw [e6] at hc hcR
        exact ⟨⟨hc, by omega, by omega⟩, rfl⟩
      · skip
        refine gf_iload_n C dd_Fi_reckonedTogether_12 0 rfl ?_
        refine gf_aload_n C dd_Fi_reckonedTogether_13 2 rfl ?_
        refine gf_aload_n C dd_Fi_reckonedTogether_14 2 rfl ?_
        refine gf_getA (r := 23) C gf_cl6 fl_Fi_23 dd_Fi_reckonedTogether_15 rfl (show gf_is 81 0 0 6 17 by decide) (by decide) (by decide) ?_
        refine gf_iload_n C dd_Fi_reckonedTogether_18 1 rfl ?_
        have ha19 := gf_guard_of (r := j) (by omega)
        refine gf_aald C dd_Fi_reckonedTogether_19 (show gf_is 81 23 4 4 7 by decide) (by decide) (by omega) ha19.1 (by first | omega | exact ha19.2.1.1 | exact ha19.2.1) ?_
        refine gf_callVi (st := [.int (gf_i c)]) (As := [.ref (gf_ad E (24 + j))]) C wk_Fi_159 gf_cl6 (show gf_is 81 0 0 6 17 by decide) (ct_Fi_reckoned (gf_xl X) E (24 + j) μ ha19.2 (hG j (by omega) (by omega)) (by omega) (hF)) rfl ⟨rfl, rfl, rfl, rfl⟩ (Nat.le_of_ble_eq_true rfl) rfl dd_Fi_reckonedTogether_20 (fun r20 m20 hR20 hp20 => ?_)
        have hr20 := hp20.1
        refine gf_pm hp20.2 ?_
        refine gf_iadd C dd_Fi_reckonedTogether_23 ?_
        refine gf_nm (fun x24 hx24 => ?_)
        refine gf_istore_n (lv' := [(1, .int (gf_i x24)), (2, .int (gf_i j)), (0, .ref (gf_ad E 0))]) C dd_Fi_reckonedTogether_24 (by decide) rfl ?_
        obtain ⟨x25, hx25⟩ : ∃ y : Int, y = j + 1 := ⟨_, rfl⟩
        refine gf_iinc (q := 1) (v := x25) (lv' := [(2, .int (gf_i x25)), (1, .int (gf_i x24)), (0, .ref (gf_ad E 0))]) C dd_Fi_reckonedTogether_25 rfl hx25 (by decide) rfl ?_
        refine gf_goto 4 C dd_Fi_reckonedTogether_28 (by decide) ?_
        refine gf_lsub [1, 0, 2] rfl ?_
        exact ih4_1 x24 x25 (by
                refine ⟨by omega, by omega, ?_⟩
                rw [hx24, hx25, show (j + 1).toNat = j.toNat + 1 by omega, hc, hr20.1]
                show _ = _ + pf_reck (μ (24 + ((j.toNat : Nat) : Int)) 0) _ _ _ _
                rw [show ((j.toNat : Nat) : Int) = j by omega]) (by omega)
  refine gf_lsub [1, 0, 2] rfl ?_
  exact L4_1 _ 0 0 (⟨by omega, by omega, rfl⟩) (Nat.lt_succ_self _)

theorem dd_Fi_noticingAllSlips_0 : decode cc_Fi_noticingAllSlips 0 = .ok (.aload_n 0, 1) := by decide +kernel
theorem dd_Fi_noticingAllSlips_1 : decode cc_Fi_noticingAllSlips 1 = .ok (.getfield 49, 3) := by decide +kernel
theorem dd_Fi_noticingAllSlips_4 : decode cc_Fi_noticingAllSlips 4 = .ok (.aload_n 0, 1) := by decide +kernel
theorem dd_Fi_noticingAllSlips_5 : decode cc_Fi_noticingAllSlips 5 = .ok (.getfield 35, 3) := by decide +kernel
theorem dd_Fi_noticingAllSlips_8 : decode cc_Fi_noticingAllSlips 8 = .ok (.aload_n 0, 1) := by decide +kernel
theorem dd_Fi_noticingAllSlips_9 : decode cc_Fi_noticingAllSlips 9 = .ok (.getfield 23, 3) := by decide +kernel
theorem dd_Fi_noticingAllSlips_12 : decode cc_Fi_noticingAllSlips 12 = .ok (.iconst 0, 1) := by decide +kernel
theorem dd_Fi_noticingAllSlips_13 : decode cc_Fi_noticingAllSlips 13 = .ok (.aload_n 0, 1) := by decide +kernel
theorem dd_Fi_noticingAllSlips_14 : decode cc_Fi_noticingAllSlips 14 = .ok (.getfield 131, 3) := by decide +kernel
theorem dd_Fi_noticingAllSlips_17 : decode cc_Fi_noticingAllSlips 17 = .ok (.invokevirtual 198, 3) := by decide +kernel
theorem dd_Fi_noticingAllSlips_20 : decode cc_Fi_noticingAllSlips 20 = .ok (.iconst 0, 1) := by decide +kernel
theorem dd_Fi_noticingAllSlips_21 : decode cc_Fi_noticingAllSlips 21 = .ok (.istore_n 1, 1) := by decide +kernel
theorem dd_Fi_noticingAllSlips_22 : decode cc_Fi_noticingAllSlips 22 = .ok (.iconst 0, 1) := by decide +kernel
theorem dd_Fi_noticingAllSlips_23 : decode cc_Fi_noticingAllSlips 23 = .ok (.istore_n 2, 1) := by decide +kernel
theorem dd_Fi_noticingAllSlips_24 : decode cc_Fi_noticingAllSlips 24 = .ok (.iload_n 2, 1) := by decide +kernel
theorem dd_Fi_noticingAllSlips_25 : decode cc_Fi_noticingAllSlips 25 = .ok (.aload_n 0, 1) := by decide +kernel
theorem dd_Fi_noticingAllSlips_26 : decode cc_Fi_noticingAllSlips 26 = .ok (.getfield 131, 3) := by decide +kernel
theorem dd_Fi_noticingAllSlips_29 : decode cc_Fi_noticingAllSlips 29 = .ok (.if_icmp .ge 27, 3) := by decide +kernel
theorem dd_Fi_noticingAllSlips_32 : decode cc_Fi_noticingAllSlips 32 = .ok (.aload_n 0, 1) := by decide +kernel
theorem dd_Fi_noticingAllSlips_33 : decode cc_Fi_noticingAllSlips 33 = .ok (.getfield 49, 3) := by decide +kernel
theorem dd_Fi_noticingAllSlips_36 : decode cc_Fi_noticingAllSlips 36 = .ok (.iload_n 2, 1) := by decide +kernel
theorem dd_Fi_noticingAllSlips_37 : decode cc_Fi_noticingAllSlips 37 = .ok (.iconst 0, 1) := by decide +kernel
theorem dd_Fi_noticingAllSlips_38 : decode cc_Fi_noticingAllSlips 38 = .ok (.invokevirtual 302, 3) := by decide +kernel
theorem dd_Fi_noticingAllSlips_41 : decode cc_Fi_noticingAllSlips 41 = .ok (.ifCond .ne 9, 3) := by decide +kernel
theorem dd_Fi_noticingAllSlips_44 : decode cc_Fi_noticingAllSlips 44 = .ok (.iload_n 1, 1) := by decide +kernel
theorem dd_Fi_noticingAllSlips_45 : decode cc_Fi_noticingAllSlips 45 = .ok (.iconst 1, 1) := by decide +kernel
theorem dd_Fi_noticingAllSlips_46 : decode cc_Fi_noticingAllSlips 46 = .ok (.iload_n 2, 1) := by decide +kernel
theorem dd_Fi_noticingAllSlips_47 : decode cc_Fi_noticingAllSlips 47 = .ok (.ishl, 1) := by decide +kernel
theorem dd_Fi_noticingAllSlips_48 : decode cc_Fi_noticingAllSlips 48 = .ok (.ior, 1) := by decide +kernel
theorem dd_Fi_noticingAllSlips_49 : decode cc_Fi_noticingAllSlips 49 = .ok (.istore_n 1, 1) := by decide +kernel
theorem dd_Fi_noticingAllSlips_50 : decode cc_Fi_noticingAllSlips 50 = .ok (.iinc 2 1, 3) := by decide +kernel
theorem dd_Fi_noticingAllSlips_53 : decode cc_Fi_noticingAllSlips 53 = .ok (.goto (-29), 3) := by decide +kernel
theorem dd_Fi_noticingAllSlips_56 : decode cc_Fi_noticingAllSlips 56 = .ok (.iload_n 1, 1) := by decide +kernel
theorem dd_Fi_noticingAllSlips_57 : decode cc_Fi_noticingAllSlips 57 = .ok (.ireturn, 1) := by decide +kernel
set_option maxRecDepth 100000 in
set_option maxHeartbeats 4000000 in
theorem ct_Fi_noticingAllSlips (l : Launch) (E : gf_E) (μ : gf_M) (hc7 : 0 ≤ μ 0 3 ∧ μ 0 3 ≤ 7) (hG : gf_okGs μ (μ 0 3)) (hs : 0 ≤ μ 41 1 ∧ μ 41 1 ≤ 8) (hF : gf_okF μ 42 (μ 41 1)) : gf_Mi l E yy_Fi_noticingAllSlips cc_Fi_noticingAllSlips 3 .int (gf_rm 4 95) 81 gf_ref μ [.ref (gf_ad E 0)] (fun r μ' => (r = pf_set (fun j => (pf_unS μ j.toNat).isEmpty) (μ 0 3).toNat ∧ 0 ≤ r ∧ r ≤ 127) ∧ gf_sc μ' μ) := by
  refine gf_mi (by decide +kernel) (Nat.le_of_ble_eq_true rfl) (by decide) (fun X Q hlx C hQ => ?_)
  subst hlx
  replace C : gf_C X E cc_Fi_noticingAllSlips 3 "GuardFigures" (gf_rm 4 95) := C
  show gf_G X E Q 3 gf_φ μ 0 [(0, .ref (gf_ad E 0))] []
  have h88 := pf_T_88 hs hF
  refine gf_aload_n C dd_Fi_noticingAllSlips_0 0 rfl ?_
  refine gf_getA (r := 53) C gf_cl6 fl_Fi_49 dd_Fi_noticingAllSlips_1 rfl (show gf_is 81 0 0 6 17 by decide) (by decide) (by decide) ?_
  refine gf_aload_n C dd_Fi_noticingAllSlips_4 0 rfl ?_
  refine gf_getA (r := 41) C gf_cl6 fl_Fi_35 dd_Fi_noticingAllSlips_5 rfl (show gf_is 81 0 0 6 17 by decide) (by decide) (by decide) ?_
  refine gf_aload_n C dd_Fi_noticingAllSlips_8 0 rfl ?_
  refine gf_getA (r := 23) C gf_cl6 fl_Fi_23 dd_Fi_noticingAllSlips_9 rfl (show gf_is 81 0 0 6 17 by decide) (by decide) (by decide) ?_
  refine gf_iconst C dd_Fi_noticingAllSlips_12 ?_
  refine gf_aload_n C dd_Fi_noticingAllSlips_13 0 rfl ?_
  refine gf_getI (z := 3) C gf_cl6 fl_Fi_131 dd_Fi_noticingAllSlips_14 rfl rfl (show gf_is 81 0 0 6 17 by decide) (fun hv14 => ?_)
  refine gf_callVv (st := []) (As := [.ref (gf_ad E 41), .ref (gf_ad E 23), .int (gf_i 0), .int (gf_i (μ 0 3))]) C wk_Fi_198 gf_cl4 (show gf_is 81 53 0 4 6 by decide) (ct_Wa_lookI (gf_xl X) E 0 (μ 0 3) (μ 0 3) μ (by omega) (by omega) (by omega) (by omega) hG hs hF) rfl ⟨rfl, rfl, rfl, rfl⟩ (Nat.le_of_ble_eq_true rfl) rfl dd_Fi_noticingAllSlips_17 (fun m17 hp17 => ?_)
  have e03 : m17 0 3 = μ 0 3 := hp17.2.2.2.2.2 0 3 (by decide)
  refine gf_iconst C dd_Fi_noticingAllSlips_20 ?_
  refine gf_istore_n (lv' := [(1, .int (gf_i 0)), (0, .ref (gf_ad E 0))]) C dd_Fi_noticingAllSlips_21 (by decide) rfl ?_
  refine gf_iconst C dd_Fi_noticingAllSlips_22 ?_
  refine gf_istore_n (lv' := [(2, .int (gf_i 0)), (1, .int (gf_i 0)), (0, .ref (gf_ad E 0))]) C dd_Fi_noticingAllSlips_23 (by decide) rfl ?_
  have L24_1 : ∀ (N : Nat) (c j : Int) , (0 ≤ j ∧ j ≤ μ 0 3 ∧ c = pf_set (fun j => (pf_unS μ j.toNat).isEmpty) j.toNat) → (7 - j).toNat < N → gf_G X E Q 3 gf_φ m17 24 [(1, .int (gf_i c)), (2, .int (gf_i j)), (0, .ref (gf_ad E 0))] [] := by
    intro N
    induction N with
    | zero => intro c j hinv hN; exact absurd hN (Nat.not_lt_zero _)
    | succ N ih24_1 =>
      intro c j hinv hN
      have hinv0 := hinv
      obtain ⟨hj0, hj1, hc⟩ := hinv
      have hcR := pf_set_R (fun j => (pf_unS μ j.toNat).isEmpty) j.toNat
      rw [← hc] at hcR
      have h210 := pf_2_10 (n := j.toNat) (by omega)
      refine gf_iload_n C dd_Fi_noticingAllSlips_24 1 rfl ?_
      refine gf_aload_n C dd_Fi_noticingAllSlips_25 2 rfl ?_
      refine gf_getI (z := 3) C gf_cl6 fl_Fi_131 dd_Fi_noticingAllSlips_26 rfl rfl (show gf_is 81 0 0 6 17 by decide) (fun hv26 => ?_)
      refine gf_icmp_ge 56 C dd_Fi_noticingAllSlips_29 (by decide) (by omega) (by omega) (fun h29 => ?_) (fun h29 => ?_)
      · skip
        refine gf_iload_n C dd_Fi_noticingAllSlips_56 0 rfl ?_
        refine gf_iret C hQ dd_Fi_noticingAllSlips_57 (by omega) ?_
        have e6 : j.toNat = (μ 0 3).toNat := by omega
        rw [e6] at hc hcR
        have h27 : (2 : Int) ^ (μ 0 3).toNat ≤ 128 := by
          have := pf_pow7 (i := (μ 0 3).toNat) (by omega)
          exact_mod_cast this
        exact ⟨⟨hc, by omega, by omega⟩, fun a b h => hp17.2.2.2.2.2 a b (by omega)⟩
      · skip
        refine gf_aload_n C dd_Fi_noticingAllSlips_32 2 rfl ?_
        refine gf_getA (r := 53) C gf_cl6 fl_Fi_49 dd_Fi_noticingAllSlips_33 rfl (show gf_is 81 0 0 6 17 by decide) (by decide) (by decide) ?_
        refine gf_iload_n C dd_Fi_noticingAllSlips_36 1 rfl ?_
        refine gf_iconst C dd_Fi_noticingAllSlips_37 ?_
        refine gf_callVi (st := []) (As := [.int (gf_i j), .int (gf_i 0)]) C wk_Fi_302 gf_cl4 (show gf_is 81 53 0 4 6 by decide) (ct_Wa_unseen (gf_xl X) E j 0 ((pf_sl (μ 42) (μ 41 1).toNat).map (fun m => (m, pf_cps (μ 42) m))) ([]) (((pf_ex (μ 42) 1 (μ 41 1 - 1).toNat).map (fun k => (k, pf_cpx (μ 42) k 1))) ++ ((pf_ex (μ 42) 2 (μ 41 1 - 2).toNat).map (fun k => (k, pf_cpx (μ 42) k 2)))) m17 μ ((0 : Int).toNat) ((μ 0 3).toNat) hp17 (by omega) (by omega) (by decide) (by simp only [pf_T, List.nil_append, List.append_assoc]) (Or.inl ⟨rfl, rfl⟩) (by rw [List.length_map]; simpa using hp17.2.2.1) h88) rfl ⟨rfl, rfl, rfl, rfl⟩ (Nat.le_of_ble_eq_true rfl) rfl dd_Fi_noticingAllSlips_38 (fun r38 m38 hR38 hp38 => ?_)
        have hr38 := hp38.1
        refine gf_pm hp38.2 ?_
        refine gf_if_ne 50 C dd_Fi_noticingAllSlips_41 (by decide) (by omega) (fun h41 => ?_) (fun h41 => ?_)
        · skip
          obtain ⟨x50, hx50⟩ : ∃ y : Int, y = j + 1 := ⟨_, rfl⟩
          refine gf_iinc (q := 1) (v := x50) (lv' := [(2, .int (gf_i x50)), (1, .int (gf_i c)), (0, .ref (gf_ad E 0))]) C dd_Fi_noticingAllSlips_50 rfl hx50 (by decide) rfl ?_
          refine gf_goto 24 C dd_Fi_noticingAllSlips_53 (by decide) ?_
          refine gf_lsub [1, 0, 2] rfl ?_
          exact ih24_1 c x50 (by
                  have e1 : (j + 1).toNat = j.toNat + 1 := by omega
                  refine ⟨by omega, by omega, ?_⟩
                  rw [hx50, e1]
                  show _ = if (pf_unS μ ((j.toNat : Nat) : Int).toNat).isEmpty = true then gf_or (pf_set _ j.toNat) (gf_shl 1 ((j.toNat : Nat) : Int)) else pf_set _ j.toNat
                  rw [Int.toNat_natCast, show ((j.toNat : Nat) : Int) = j by omega, ← hc]
                  have hl := hr38.1
                  rw [pf_unS_S, List.length_map] at hl
                  by_cases e : pf_unS μ j.toNat = []
                  · have e0 : r38 = 0 := by rw [hl, e]; rfl
                    rw [if_pos (by rw [e]; rfl)]
                    first | omega | exact hx49
                  · have e0 : r38 ≠ 0 := by
                      rw [hl]
                      have := List.length_pos_iff.mpr e
                      omega
                    rw [if_neg (by simpa using e)] <;> first | omega | rfl) (by omega)
        · skip
          refine gf_iload_n C dd_Fi_noticingAllSlips_44 0 rfl ?_
          refine gf_iconst C dd_Fi_noticingAllSlips_45 ?_
          refine gf_iload_n C dd_Fi_noticingAllSlips_46 1 rfl ?_
          refine gf_ishl C dd_Fi_noticingAllSlips_47 (by omega) ?_
          refine gf_ior C dd_Fi_noticingAllSlips_48 (by have := gf_shl1 (i := j) (by omega); omega) ?_
          refine gf_nm (fun x49 hx49 => ?_)
          refine gf_istore_n (lv' := [(1, .int (gf_i x49)), (2, .int (gf_i j)), (0, .ref (gf_ad E 0))]) C dd_Fi_noticingAllSlips_49 (by decide) rfl ?_
          obtain ⟨x50, hx50⟩ : ∃ y : Int, y = j + 1 := ⟨_, rfl⟩
          refine gf_iinc (q := 1) (v := x50) (lv' := [(2, .int (gf_i x50)), (1, .int (gf_i x49)), (0, .ref (gf_ad E 0))]) C dd_Fi_noticingAllSlips_50 rfl hx50 (by decide) rfl ?_
          refine gf_goto 24 C dd_Fi_noticingAllSlips_53 (by decide) ?_
          refine gf_lsub [1, 0, 2] rfl ?_
          exact ih24_1 x49 x50 (by
                  have e1 : (j + 1).toNat = j.toNat + 1 := by omega
                  refine ⟨by omega, by omega, ?_⟩
                  rw [hx50, e1]
                  show _ = if (pf_unS μ ((j.toNat : Nat) : Int).toNat).isEmpty = true then gf_or (pf_set _ j.toNat) (gf_shl 1 ((j.toNat : Nat) : Int)) else pf_set _ j.toNat
                  rw [Int.toNat_natCast, show ((j.toNat : Nat) : Int) = j by omega, ← hc]
                  have hl := hr38.1
                  rw [pf_unS_S, List.length_map] at hl
                  by_cases e : pf_unS μ j.toNat = []
                  · have e0 : r38 = 0 := by rw [hl, e]; rfl
                    rw [if_pos (by rw [e]; rfl)]
                    first | omega | exact hx49
                  · have e0 : r38 ≠ 0 := by
                      rw [hl]
                      have := List.length_pos_iff.mpr e
                      omega
                    rw [if_neg (by simpa using e)] <;> first | omega | rfl) (by omega)
  refine gf_lsub [1, 0, 2] rfl ?_
  exact L24_1 _ 0 0 (⟨by omega, by omega, rfl⟩) (Nat.lt_succ_self _)
