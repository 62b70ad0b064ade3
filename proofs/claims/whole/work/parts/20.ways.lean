theorem dd_Ou_waysWith_0 : decode cc_Ou_waysWith 0 = .ok (.aload_n 2, 1) := by decide +kernel
theorem dd_Ou_waysWith_1 : decode cc_Ou_waysWith 1 = .ok (.getfield 65, 3) := by decide +kernel
theorem dd_Ou_waysWith_4 : decode cc_Ou_waysWith 4 = .ok (.iload_n 3, 1) := by decide +kernel
theorem dd_Ou_waysWith_5 : decode cc_Ou_waysWith 5 = .ok (.iaload, 1) := by decide +kernel
theorem dd_Ou_waysWith_6 : decode cc_Ou_waysWith 6 = .ok (.iconst (-1), 1) := by decide +kernel
theorem dd_Ou_waysWith_7 : decode cc_Ou_waysWith 7 = .ok (.if_icmp .eq 16, 3) := by decide +kernel
theorem dd_Ou_waysWith_10 : decode cc_Ou_waysWith 10 = .ok (.aload_n 2, 1) := by decide +kernel
theorem dd_Ou_waysWith_11 : decode cc_Ou_waysWith 11 = .ok (.getfield 65, 3) := by decide +kernel
theorem dd_Ou_waysWith_14 : decode cc_Ou_waysWith 14 = .ok (.iload_n 3, 1) := by decide +kernel
theorem dd_Ou_waysWith_15 : decode cc_Ou_waysWith 15 = .ok (.iaload, 1) := by decide +kernel
theorem dd_Ou_waysWith_16 : decode cc_Ou_waysWith 16 = .ok (.iload 5, 2) := by decide +kernel
theorem dd_Ou_waysWith_18 : decode cc_Ou_waysWith 18 = .ok (.if_icmp .eq 5, 3) := by decide +kernel
theorem dd_Ou_waysWith_21 : decode cc_Ou_waysWith 21 = .ok (.lconst 0, 1) := by decide +kernel
theorem dd_Ou_waysWith_22 : decode cc_Ou_waysWith 22 = .ok (.lreturn, 1) := by decide +kernel
theorem dd_Ou_waysWith_23 : decode cc_Ou_waysWith 23 = .ok (.aload_n 0, 1) := by decide +kernel
theorem dd_Ou_waysWith_24 : decode cc_Ou_waysWith 24 = .ok (.iload_n 3, 1) := by decide +kernel
theorem dd_Ou_waysWith_25 : decode cc_Ou_waysWith 25 = .ok (.iconst 1, 1) := by decide +kernel
theorem dd_Ou_waysWith_26 : decode cc_Ou_waysWith 26 = .ok (.iadd, 1) := by decide +kernel
theorem dd_Ou_waysWith_27 : decode cc_Ou_waysWith 27 = .ok (.aload_n 1, 1) := by decide +kernel
theorem dd_Ou_waysWith_28 : decode cc_Ou_waysWith 28 = .ok (.iload 4, 2) := by decide +kernel
theorem dd_Ou_waysWith_30 : decode cc_Ou_waysWith 30 = .ok (.iload_n 3, 1) := by decide +kernel
theorem dd_Ou_waysWith_31 : decode cc_Ou_waysWith 31 = .ok (.iload 5, 2) := by decide +kernel
theorem dd_Ou_waysWith_33 : decode cc_Ou_waysWith 33 = .ok (.aload_n 2, 1) := by decide +kernel
theorem dd_Ou_waysWith_34 : decode cc_Ou_waysWith 34 = .ok (.getfield 58, 3) := by decide +kernel
theorem dd_Ou_waysWith_37 : decode cc_Ou_waysWith 37 = .ok (.invokevirtual 48, 3) := by decide +kernel
theorem dd_Ou_waysWith_40 : decode cc_Ou_waysWith 40 = .ok (.invokevirtual 44, 3) := by decide +kernel
theorem dd_Ou_waysWith_43 : decode cc_Ou_waysWith 43 = .ok (.lreturn, 1) := by decide +kernel
set_option maxRecDepth 100000 in
set_option maxHeartbeats 4000000 in
theorem ct_Ou_waysWith (l : Launch) (E : gf_E) (g w : Int) (μ : gf_M) (hg : gf_oGd g) (hg58 : 23 ≤ g ∧ g ≤ 58) (hG : gf_okG μ g) (hw : gf_oRow w 40) (hw12 : 0 ≤ w ∧ w ≤ 12) (k s f : Int) (hk : 0 ≤ k ∧ k < μ w 1 ∧ μ w 1 ≤ 8) (hs : 0 ≤ s ∧ s ≤ 10) (hf : 0 ≤ f ∧ f ≤ 9) (hv : ∀ z : Int, 0 ≤ z → z ≤ 10 → 0 ≤ μ 60 ((k + 1) * 11 + z) ∧ μ 60 ((k + 1) * 11 + z) ≤ 100000000) : gf_Ml l E yy_Ou_waysWith cc_Ou_waysWith 6 (gf_rm 2 45) 81 gf_ref μ [.ref (gf_ad E 59), .ref (gf_ad E g), .ref (gf_ad E w), .int (gf_i k), .int (gf_i s), .int (gf_i f)] (fun r μ' => (r = pf_way (μ g 0) (μ g 1) (μ g 2) (μ w 1) (μ (w + 1)) k s f (fun z => μ 60 ((k + 1) * 11 + z)) ∧ 0 ≤ r ∧ r ≤ 100000000) ∧ μ' = μ) := by
  refine gf_ml (by decide +kernel) (Nat.le_of_ble_eq_true rfl) (by decide) (fun X Q hlx C hQ => ?_)
  subst hlx
  replace C : gf_C X E cc_Ou_waysWith 6 "GuardFigures$Outlook" (gf_rm 2 45) := C
  show gf_G X E Q 6 gf_φ μ 0 [(0, .ref (gf_ad E 59)), (1, .ref (gf_ad E g)), (2, .ref (gf_ad E w)), (3, .int (gf_i k)), (4, .int (gf_i s)), (5, .int (gf_i f))] []
  refine gf_aload_n C dd_Ou_waysWith_0 2 rfl ?_
  refine gf_getA (r := (w + 1)) C gf_cl3 fl_Ou_65 dd_Ou_waysWith_1 rfl hw.1 hw.2.1 (hw.2.2).1 ?_
  refine gf_iload_n C dd_Ou_waysWith_4 3 rfl ?_
  refine gf_iald C dd_Ou_waysWith_5 hw.2.2 (by omega) (fun hv5 => ?_)
  refine gf_iconst C dd_Ou_waysWith_6 ?_
  refine gf_icmp_eq 23 C dd_Ou_waysWith_7 (by decide) (by omega) (by omega) (fun h7 => ?_) (fun h7 => ?_)
  · skip
    refine gf_aload_n C dd_Ou_waysWith_23 0 rfl ?_
    refine gf_iload_n C dd_Ou_waysWith_24 3 rfl ?_
    refine gf_iconst C dd_Ou_waysWith_25 ?_
    refine gf_iadd C dd_Ou_waysWith_26 ?_
    refine gf_aload_n C dd_Ou_waysWith_27 1 rfl ?_
    refine gf_iload C dd_Ou_waysWith_28 4 rfl ?_
    refine gf_iload_n C dd_Ou_waysWith_30 3 rfl ?_
    refine gf_iload C dd_Ou_waysWith_31 5 rfl ?_
    refine gf_aload_n C dd_Ou_waysWith_33 2 rfl ?_
    refine gf_getI (z := 1) C gf_cl3 fl_Ou_58 dd_Ou_waysWith_34 rfl rfl hw.1 (fun hv34 => ?_)
    refine gf_callVi (st := [.int (gf_i (k + 1)), .ref (gf_ad E 59)]) (As := [.int (gf_i s), .int (gf_i k), .int (gf_i f), .int (gf_i (μ w 1))]) C wk_Ou_48 gf_cl0 hg (ct_Gd_follow (gf_xl X) E g s k f (μ w 1) μ hg (hG) (by omega) (by omega) (by omega)) rfl ⟨rfl, rfl, rfl, rfl⟩ (Nat.le_of_ble_eq_true rfl) rfl dd_Ou_waysWith_37 (fun r37 m37 hR37 hp37 => ?_)
    have hr37 := hp37.1
    refine gf_pm hp37.2 ?_
    refine gf_callVl (st := []) (As := [.int (gf_i (k + 1)), .int (gf_i r37)]) C wk_Ou_44 gf_cl1 (show gf_is 81 59 0 1 2 by decide) (ct_Ou_valueOf (gf_xl X) E (k + 1) r37 μ (by omega) (by omega)) rfl ⟨rfl, rfl, rfl, rfl⟩ (Nat.le_of_ble_eq_true rfl) rfl dd_Ou_waysWith_40 (fun r40 m40 hR40 hp40 => ?_)
    have hr40 := hp40.1
    refine gf_pm hp40.2 ?_
    refine gf_lret C hQ dd_Ou_waysWith_43 (by omega) ?_
    have hvz := hv r37 (by omega) (by omega)
    refine ⟨⟨?_, by omega, by omega⟩, rfl⟩
    unfold pf_way
    rw [if_neg (by omega), hr40, hr37.1]
  · skip
    refine gf_aload_n C dd_Ou_waysWith_10 2 rfl ?_
    refine gf_getA (r := (w + 1)) C gf_cl3 fl_Ou_65 dd_Ou_waysWith_11 rfl hw.1 hw.2.1 (hw.2.2).1 ?_
    refine gf_iload_n C dd_Ou_waysWith_14 3 rfl ?_
    refine gf_iald C dd_Ou_waysWith_15 hw.2.2 (by omega) (fun hv15 => ?_)
    refine gf_iload C dd_Ou_waysWith_16 5 rfl ?_
    refine gf_icmp_eq 23 C dd_Ou_waysWith_18 (by decide) (by omega) (by omega) (fun h18 => ?_) (fun h18 => ?_)
    · skip
      refine gf_aload_n C dd_Ou_waysWith_23 0 rfl ?_
      refine gf_iload_n C dd_Ou_waysWith_24 3 rfl ?_
      refine gf_iconst C dd_Ou_waysWith_25 ?_
      refine gf_iadd C dd_Ou_waysWith_26 ?_
      refine gf_aload_n C dd_Ou_waysWith_27 1 rfl ?_
      refine gf_iload C dd_Ou_waysWith_28 4 rfl ?_
      refine gf_iload_n C dd_Ou_waysWith_30 3 rfl ?_
      refine gf_iload C dd_Ou_waysWith_31 5 rfl ?_
      refine gf_aload_n C dd_Ou_waysWith_33 2 rfl ?_
      refine gf_getI (z := 1) C gf_cl3 fl_Ou_58 dd_Ou_waysWith_34 rfl rfl hw.1 (fun hv34 => ?_)
      refine gf_callVi (st := [.int (gf_i (k + 1)), .ref (gf_ad E 59)]) (As := [.int (gf_i s), .int (gf_i k), .int (gf_i f), .int (gf_i (μ w 1))]) C wk_Ou_48 gf_cl0 hg (ct_Gd_follow (gf_xl X) E g s k f (μ w 1) μ hg (hG) (by omega) (by omega) (by omega)) rfl ⟨rfl, rfl, rfl, rfl⟩ (Nat.le_of_ble_eq_true rfl) rfl dd_Ou_waysWith_37 (fun r37 m37 hR37 hp37 => ?_)
      have hr37 := hp37.1
      refine gf_pm hp37.2 ?_
      refine gf_callVl (st := []) (As := [.int (gf_i (k + 1)), .int (gf_i r37)]) C wk_Ou_44 gf_cl1 (show gf_is 81 59 0 1 2 by decide) (ct_Ou_valueOf (gf_xl X) E (k + 1) r37 μ (by omega) (by omega)) rfl ⟨rfl, rfl, rfl, rfl⟩ (Nat.le_of_ble_eq_true rfl) rfl dd_Ou_waysWith_40 (fun r40 m40 hR40 hp40 => ?_)
      have hr40 := hp40.1
      refine gf_pm hp40.2 ?_
      refine gf_lret C hQ dd_Ou_waysWith_43 (by omega) ?_
      have hvz := hv r37 (by omega) (by omega)
      refine ⟨⟨?_, by omega, by omega⟩, rfl⟩
      unfold pf_way
      rw [if_neg (by omega), hr40, hr37.1]
    · skip
      refine gf_lconst 0 C dd_Ou_waysWith_21 (by decide +kernel) ?_
      refine gf_lret C hQ dd_Ou_waysWith_22 (by omega) ?_
      refine ⟨⟨?_, by omega, by omega⟩, rfl⟩
      unfold pf_way
      rw [if_pos (by omega)]

theorem dd_Ou_waysToFill_0 : decode cc_Ou_waysToFill 0 = .ok (.aload_n 2, 1) := by decide +kernel
theorem dd_Ou_waysToFill_1 : decode cc_Ou_waysToFill 1 = .ok (.getfield 58, 3) := by decide +kernel
theorem dd_Ou_waysToFill_4 : decode cc_Ou_waysToFill 4 = .ok (.istore 4, 2) := by decide +kernel
theorem dd_Ou_waysToFill_6 : decode cc_Ou_waysToFill 6 = .ok (.aload_n 0, 1) := by decide +kernel
theorem dd_Ou_waysToFill_7 : decode cc_Ou_waysToFill 7 = .ok (.aload_n 1, 1) := by decide +kernel
theorem dd_Ou_waysToFill_8 : decode cc_Ou_waysToFill 8 = .ok (.iload 4, 2) := by decide +kernel
theorem dd_Ou_waysToFill_10 : decode cc_Ou_waysToFill 10 = .ok (.iload_n 3, 1) := by decide +kernel
theorem dd_Ou_waysToFill_11 : decode cc_Ou_waysToFill 11 = .ok (.iconst 1, 1) := by decide +kernel
theorem dd_Ou_waysToFill_12 : decode cc_Ou_waysToFill 12 = .ok (.iconst 0, 1) := by decide +kernel
theorem dd_Ou_waysToFill_13 : decode cc_Ou_waysToFill 13 = .ok (.invokevirtual 21, 3) := by decide +kernel
theorem dd_Ou_waysToFill_16 : decode cc_Ou_waysToFill 16 = .ok (.iload 4, 2) := by decide +kernel
theorem dd_Ou_waysToFill_18 : decode cc_Ou_waysToFill 18 = .ok (.iconst 1, 1) := by decide +kernel
theorem dd_Ou_waysToFill_19 : decode cc_Ou_waysToFill 19 = .ok (.isub, 1) := by decide +kernel
theorem dd_Ou_waysToFill_20 : decode cc_Ou_waysToFill 20 = .ok (.istore 5, 2) := by decide +kernel
theorem dd_Ou_waysToFill_22 : decode cc_Ou_waysToFill 22 = .ok (.iload 5, 2) := by decide +kernel
theorem dd_Ou_waysToFill_24 : decode cc_Ou_waysToFill 24 = .ok (.ifCond .lt 71, 3) := by decide +kernel
theorem dd_Ou_waysToFill_27 : decode cc_Ou_waysToFill 27 = .ok (.iconst 0, 1) := by decide +kernel
theorem dd_Ou_waysToFill_28 : decode cc_Ou_waysToFill 28 = .ok (.istore 6, 2) := by decide +kernel
theorem dd_Ou_waysToFill_30 : decode cc_Ou_waysToFill 30 = .ok (.iload 6, 2) := by decide +kernel
theorem dd_Ou_waysToFill_32 : decode cc_Ou_waysToFill 32 = .ok (.bipush 11, 2) := by decide +kernel
theorem dd_Ou_waysToFill_34 : decode cc_Ou_waysToFill 34 = .ok (.if_icmp .ge 55, 3) := by decide +kernel
theorem dd_Ou_waysToFill_37 : decode cc_Ou_waysToFill 37 = .ok (.lconst 0, 1) := by decide +kernel
theorem dd_Ou_waysToFill_38 : decode cc_Ou_waysToFill 38 = .ok (.lstore 7, 2) := by decide +kernel
theorem dd_Ou_waysToFill_40 : decode cc_Ou_waysToFill 40 = .ok (.iconst 0, 1) := by decide +kernel
theorem dd_Ou_waysToFill_41 : decode cc_Ou_waysToFill 41 = .ok (.istore 9, 2) := by decide +kernel
theorem dd_Ou_waysToFill_43 : decode cc_Ou_waysToFill 43 = .ok (.iload 9, 2) := by decide +kernel
theorem dd_Ou_waysToFill_45 : decode cc_Ou_waysToFill 45 = .ok (.bipush 10, 2) := by decide +kernel
theorem dd_Ou_waysToFill_47 : decode cc_Ou_waysToFill 47 = .ok (.if_icmp .ge 26, 3) := by decide +kernel
theorem dd_Ou_waysToFill_50 : decode cc_Ou_waysToFill 50 = .ok (.lload 7, 2) := by decide +kernel
theorem dd_Ou_waysToFill_52 : decode cc_Ou_waysToFill 52 = .ok (.aload_n 0, 1) := by decide +kernel
theorem dd_Ou_waysToFill_53 : decode cc_Ou_waysToFill 53 = .ok (.aload_n 1, 1) := by decide +kernel
theorem dd_Ou_waysToFill_54 : decode cc_Ou_waysToFill 54 = .ok (.aload_n 2, 1) := by decide +kernel
theorem dd_Ou_waysToFill_55 : decode cc_Ou_waysToFill 55 = .ok (.iload 5, 2) := by decide +kernel
theorem dd_Ou_waysToFill_57 : decode cc_Ou_waysToFill 57 = .ok (.iload 6, 2) := by decide +kernel
theorem dd_Ou_waysToFill_59 : decode cc_Ou_waysToFill 59 = .ok (.iload 9, 2) := by decide +kernel
theorem dd_Ou_waysToFill_61 : decode cc_Ou_waysToFill 61 = .ok (.invokevirtual 61, 3) := by decide +kernel
theorem dd_Ou_waysToFill_64 : decode cc_Ou_waysToFill 64 = .ok (.ladd, 1) := by decide +kernel
theorem dd_Ou_waysToFill_65 : decode cc_Ou_waysToFill 65 = .ok (.lstore 7, 2) := by decide +kernel
theorem dd_Ou_waysToFill_67 : decode cc_Ou_waysToFill 67 = .ok (.iinc 9 1, 3) := by decide +kernel
theorem dd_Ou_waysToFill_70 : decode cc_Ou_waysToFill 70 = .ok (.goto (-27), 3) := by decide +kernel
theorem dd_Ou_waysToFill_73 : decode cc_Ou_waysToFill 73 = .ok (.aload_n 0, 1) := by decide +kernel
theorem dd_Ou_waysToFill_74 : decode cc_Ou_waysToFill 74 = .ok (.iload 5, 2) := by decide +kernel
theorem dd_Ou_waysToFill_76 : decode cc_Ou_waysToFill 76 = .ok (.iload 6, 2) := by decide +kernel
theorem dd_Ou_waysToFill_78 : decode cc_Ou_waysToFill 78 = .ok (.lload 7, 2) := by decide +kernel
theorem dd_Ou_waysToFill_80 : decode cc_Ou_waysToFill 80 = .ok (.invokevirtual 37, 3) := by decide +kernel
theorem dd_Ou_waysToFill_83 : decode cc_Ou_waysToFill 83 = .ok (.iinc 6 1, 3) := by decide +kernel
theorem dd_Ou_waysToFill_86 : decode cc_Ou_waysToFill 86 = .ok (.goto (-56), 3) := by decide +kernel
theorem dd_Ou_waysToFill_89 : decode cc_Ou_waysToFill 89 = .ok (.iinc 5 (-1), 3) := by decide +kernel
theorem dd_Ou_waysToFill_92 : decode cc_Ou_waysToFill 92 = .ok (.goto (-70), 3) := by decide +kernel
theorem dd_Ou_waysToFill_95 : decode cc_Ou_waysToFill 95 = .ok (.aload_n 0, 1) := by decide +kernel
theorem dd_Ou_waysToFill_96 : decode cc_Ou_waysToFill 96 = .ok (.iconst 0, 1) := by decide +kernel
theorem dd_Ou_waysToFill_97 : decode cc_Ou_waysToFill 97 = .ok (.putfield 41, 3) := by decide +kernel
theorem dd_Ou_waysToFill_100 : decode cc_Ou_waysToFill 100 = .ok (.iconst 0, 1) := by decide +kernel
theorem dd_Ou_waysToFill_101 : decode cc_Ou_waysToFill 101 = .ok (.istore 5, 2) := by decide +kernel
theorem dd_Ou_waysToFill_103 : decode cc_Ou_waysToFill 103 = .ok (.iconst 0, 1) := by decide +kernel
theorem dd_Ou_waysToFill_104 : decode cc_Ou_waysToFill 104 = .ok (.istore 6, 2) := by decide +kernel
theorem dd_Ou_waysToFill_106 : decode cc_Ou_waysToFill 106 = .ok (.iload 6, 2) := by decide +kernel
theorem dd_Ou_waysToFill_108 : decode cc_Ou_waysToFill 108 = .ok (.iload 4, 2) := by decide +kernel
theorem dd_Ou_waysToFill_110 : decode cc_Ou_waysToFill 110 = .ok (.if_icmp .ge 70, 3) := by decide +kernel
theorem dd_Ou_waysToFill_113 : decode cc_Ou_waysToFill 113 = .ok (.iconst 0, 1) := by decide +kernel
theorem dd_Ou_waysToFill_114 : decode cc_Ou_waysToFill 114 = .ok (.istore 7, 2) := by decide +kernel
theorem dd_Ou_waysToFill_116 : decode cc_Ou_waysToFill 116 = .ok (.iload 7, 2) := by decide +kernel
theorem dd_Ou_waysToFill_118 : decode cc_Ou_waysToFill 118 = .ok (.bipush 9, 2) := by decide +kernel
theorem dd_Ou_waysToFill_120 : decode cc_Ou_waysToFill 120 = .ok (.if_icmp .ge 26, 3) := by decide +kernel
theorem dd_Ou_waysToFill_123 : decode cc_Ou_waysToFill 123 = .ok (.aload_n 0, 1) := by decide +kernel
theorem dd_Ou_waysToFill_124 : decode cc_Ou_waysToFill 124 = .ok (.aload_n 1, 1) := by decide +kernel
theorem dd_Ou_waysToFill_125 : decode cc_Ou_waysToFill 125 = .ok (.aload_n 2, 1) := by decide +kernel
theorem dd_Ou_waysToFill_126 : decode cc_Ou_waysToFill 126 = .ok (.iload 6, 2) := by decide +kernel
theorem dd_Ou_waysToFill_128 : decode cc_Ou_waysToFill 128 = .ok (.iload 5, 2) := by decide +kernel
theorem dd_Ou_waysToFill_130 : decode cc_Ou_waysToFill 130 = .ok (.iload 7, 2) := by decide +kernel
theorem dd_Ou_waysToFill_132 : decode cc_Ou_waysToFill 132 = .ok (.invokevirtual 61, 3) := by decide +kernel
theorem dd_Ou_waysToFill_135 : decode cc_Ou_waysToFill 135 = .ok (.lconst 0, 1) := by decide +kernel
theorem dd_Ou_waysToFill_136 : decode cc_Ou_waysToFill 136 = .ok (.lcmp, 1) := by decide +kernel
theorem dd_Ou_waysToFill_137 : decode cc_Ou_waysToFill 137 = .ok (.ifCond .ne 9, 3) := by decide +kernel
theorem dd_Ou_waysToFill_140 : decode cc_Ou_waysToFill 140 = .ok (.iinc 7 1, 3) := by decide +kernel
theorem dd_Ou_waysToFill_143 : decode cc_Ou_waysToFill 143 = .ok (.goto (-27), 3) := by decide +kernel
theorem dd_Ou_waysToFill_146 : decode cc_Ou_waysToFill 146 = .ok (.aload_n 0, 1) := by decide +kernel
theorem dd_Ou_waysToFill_147 : decode cc_Ou_waysToFill 147 = .ok (.aload_n 0, 1) := by decide +kernel
theorem dd_Ou_waysToFill_148 : decode cc_Ou_waysToFill 148 = .ok (.getfield 41, 3) := by decide +kernel
theorem dd_Ou_waysToFill_151 : decode cc_Ou_waysToFill 151 = .ok (.bipush 10, 2) := by decide +kernel
theorem dd_Ou_waysToFill_153 : decode cc_Ou_waysToFill 153 = .ok (.imul, 1) := by decide +kernel
theorem dd_Ou_waysToFill_154 : decode cc_Ou_waysToFill 154 = .ok (.iload 7, 2) := by decide +kernel
theorem dd_Ou_waysToFill_156 : decode cc_Ou_waysToFill 156 = .ok (.iadd, 1) := by decide +kernel
theorem dd_Ou_waysToFill_157 : decode cc_Ou_waysToFill 157 = .ok (.putfield 41, 3) := by decide +kernel
theorem dd_Ou_waysToFill_160 : decode cc_Ou_waysToFill 160 = .ok (.aload_n 1, 1) := by decide +kernel
theorem dd_Ou_waysToFill_161 : decode cc_Ou_waysToFill 161 = .ok (.iload 5, 2) := by decide +kernel
theorem dd_Ou_waysToFill_163 : decode cc_Ou_waysToFill 163 = .ok (.iload 6, 2) := by decide +kernel
theorem dd_Ou_waysToFill_165 : decode cc_Ou_waysToFill 165 = .ok (.iload 7, 2) := by decide +kernel
theorem dd_Ou_waysToFill_167 : decode cc_Ou_waysToFill 167 = .ok (.iload 4, 2) := by decide +kernel
theorem dd_Ou_waysToFill_169 : decode cc_Ou_waysToFill 169 = .ok (.invokevirtual 48, 3) := by decide +kernel
theorem dd_Ou_waysToFill_172 : decode cc_Ou_waysToFill 172 = .ok (.istore 5, 2) := by decide +kernel
theorem dd_Ou_waysToFill_174 : decode cc_Ou_waysToFill 174 = .ok (.iinc 6 1, 3) := by decide +kernel
theorem dd_Ou_waysToFill_177 : decode cc_Ou_waysToFill 177 = .ok (.goto (-71), 3) := by decide +kernel
theorem dd_Ou_waysToFill_180 : decode cc_Ou_waysToFill 180 = .ok (.aload_n 0, 1) := by decide +kernel
theorem dd_Ou_waysToFill_181 : decode cc_Ou_waysToFill 181 = .ok (.iconst 0, 1) := by decide +kernel
theorem dd_Ou_waysToFill_182 : decode cc_Ou_waysToFill 182 = .ok (.iconst 0, 1) := by decide +kernel
theorem dd_Ou_waysToFill_183 : decode cc_Ou_waysToFill 183 = .ok (.invokevirtual 44, 3) := by decide +kernel
theorem dd_Ou_waysToFill_186 : decode cc_Ou_waysToFill 186 = .ok (.l2i, 1) := by decide +kernel
theorem dd_Ou_waysToFill_187 : decode cc_Ou_waysToFill 187 = .ok (.ireturn, 1) := by decide +kernel
set_option maxRecDepth 100000 in
set_option maxHeartbeats 4000000 in
theorem ct_Ou_waysToFill (l : Launch) (E : gf_E) (g w : Int) (μ : gf_M) (hg : gf_oGd g) (hg58 : 23 ≤ g ∧ g ≤ 58) (hG : gf_okG μ g) (hw : gf_oRow w 40) (hw12 : 0 ≤ w ∧ w ≤ 12) (c : Int) (hc : gf_R c) (hs : 0 ≤ μ w 1 ∧ μ w 1 ≤ 8) : gf_Mi l E yy_Ou_waysToFill cc_Ou_waysToFill 10 .int (gf_rm 3 72) 81 gf_ref μ [.ref (gf_ad E 59), .ref (gf_ad E g), .ref (gf_ad E w), .int (gf_i c)] (fun r μ' => (r = pf_VW (μ g 0) (μ g 1) (μ g 2) (μ w 1) c (μ (w + 1)) (μ w 1).toNat 0 ∧ 0 ≤ r ∧ r ≤ 100000000) ∧ (μ' 59 1 = (pf_run (μ g 0) (μ g 1) (μ g 2) (μ w 1) (pf_pkW (μ g 0) (μ g 1) (μ g 2) (μ w 1) c (μ (w + 1))) (μ w 1).toNat).2 ∧ ∀ x y : Int, x ≠ 60 → ¬ (x = 59 ∧ y = 1) → μ' x y = μ x y)) := by
  refine gf_mi (by decide +kernel) (Nat.le_of_ble_eq_true rfl) (by decide) (fun X Q hlx C hQ => ?_)
  subst hlx
  replace C : gf_C X E cc_Ou_waysToFill 10 "GuardFigures$Outlook" (gf_rm 3 72) := C
  show gf_G X E Q 10 gf_φ μ 0 [(0, .ref (gf_ad E 59)), (1, .ref (gf_ad E g)), (2, .ref (gf_ad E w)), (3, .int (gf_i c))] []
  obtain ⟨VV, hVV⟩ : ∃ z, z = pf_VW (μ g 0) (μ g 1) (μ g 2) (μ w 1) c (μ (w + 1)) := ⟨_, rfl⟩
  have hVR : ∀ (r : Nat) (s : Int), r ≤ 8 → 0 ≤ s → s ≤ 10 → 0 ≤ VV r s ∧ VV r s ≤ 100000000 := fun r s hr h0 h1 => by
    have h2 := pf_VW_R (μ g 0) (μ g 1) (μ g 2) (μ w 1) c (μ (w + 1)) r s ⟨h0, h1⟩
    have h3 := pf_10_8 hr
    rw [hVV]; omega
  have hVS : ∀ (k s : Int), 0 ≤ k → k < μ w 1 → VV (μ w 1 - k).toNat s = pf_sumf (fun f => pf_way (μ g 0) (μ g 1) (μ g 2) (μ w 1) (μ (w + 1)) k s f (VV (μ w 1 - 1 - k).toNat)) 10 := fun k s h0 h1 => by
    rw [show (μ w 1 - k).toNat = (μ w 1 - 1 - k).toNat + 1 by omega, hVV]
    show pf_sumf (fun f => pf_way _ _ _ _ _ (μ w 1 - 1 - ((μ w 1 - 1 - k).toNat : Nat)) s f _) 10 = _
    rw [show (μ w 1 - 1 - ((μ w 1 - 1 - k).toNat : Nat) : Int) = k by omega]
    rfl
  refine gf_aload_n C dd_Ou_waysToFill_0 2 rfl ?_
  refine gf_getI (z := 1) C gf_cl3 fl_Ou_58 dd_Ou_waysToFill_1 rfl rfl hw.1 (fun hv1 => ?_)
  refine gf_nm (fun x4 hx4 => ?_)
  refine gf_istore (lv' := [(4, .int (gf_i x4)), (0, .ref (gf_ad E 59)), (1, .ref (gf_ad E g)), (2, .ref (gf_ad E w)), (3, .int (gf_i c))]) C dd_Ou_waysToFill_4 (by decide) rfl ?_
  refine gf_aload_n C dd_Ou_waysToFill_6 1 rfl ?_
  refine gf_aload_n C dd_Ou_waysToFill_7 2 rfl ?_
  refine gf_iload C dd_Ou_waysToFill_8 0 rfl ?_
  refine gf_iload_n C dd_Ou_waysToFill_10 4 rfl ?_
  refine gf_iconst C dd_Ou_waysToFill_11 ?_
  refine gf_iconst C dd_Ou_waysToFill_12 ?_
  refine gf_callVv (st := []) (As := [.ref (gf_ad E g), .int (gf_i x4), .int (gf_i c), .int (gf_i 1), .int (gf_i 0)]) C wk_Ou_21 gf_cl1 (show gf_is 81 59 0 1 2 by decide) (ct_Ou_endWithCheck (gf_xl X) E g μ hg hg58.2 hG x4 c 1 0 (by omega) hc (by decide) (by decide)) rfl ⟨rfl, rfl, rfl, rfl⟩ (Nat.le_of_ble_eq_true rfl) rfl dd_Ou_waysToFill_13 (fun m13 hp13 => ?_)
  obtain ⟨hp14a, hp14b⟩ := hp13
  refine gf_iload C dd_Ou_waysToFill_16 0 rfl ?_
  refine gf_iconst C dd_Ou_waysToFill_18 ?_
  refine gf_isub C dd_Ou_waysToFill_19 ?_
  refine gf_nm (fun x20 hx20 => ?_)
  refine gf_istore (lv' := [(5, .int (gf_i x20)), (4, .int (gf_i x4)), (0, .ref (gf_ad E 59)), (1, .ref (gf_ad E g)), (2, .ref (gf_ad E w)), (3, .int (gf_i c))]) C dd_Ou_waysToFill_20 (by decide) rfl ?_
  have L22_1 : ∀ (N : Nat) (k : Int) (m : gf_M) , (-1 ≤ k ∧ k < μ w 1 ∧ gf_tb m (μ w 1) VV (k + 1) ∧ ∀ x y : Int, x ≠ 60 → m x y = μ x y) → (k + 1).toNat < N → gf_G X E Q 10 gf_φ m 22 [(5, .int (gf_i k)), (0, .ref (gf_ad E 59)), (1, .ref (gf_ad E g)), (2, .ref (gf_ad E w)), (3, .int (gf_i c)), (4, .int (gf_i x4))] [] := by
    intro N
    induction N with
    | zero => intro k m hinv hN; exact absurd hN (Nat.not_lt_zero _)
    | succ N ih22_1 =>
      intro k m hinv hN
      have hinv0 := hinv
      obtain ⟨hk0, hk1, hk2, hk3⟩ := hinv
      refine gf_iload C dd_Ou_waysToFill_22 0 rfl ?_
      refine gf_if_lt 95 C dd_Ou_waysToFill_24 (by decide) (by omega) (fun h24 => ?_) (fun h24 => ?_)
      · skip
        have hk1 : k = -1 := by omega
        have htb0 : gf_tb m (μ w 1) VV 0 := by have := hk2; rw [hk1] at this; exact this
        refine gf_aload_n C dd_Ou_waysToFill_95 1 rfl ?_
        refine gf_iconst C dd_Ou_waysToFill_96 ?_
        refine gf_putI (z := 1) C gf_cl1 fl_Ou_41 dd_Ou_waysToFill_97 rfl rfl rfl (by decide +kernel) (show gf_is 81 59 0 1 2 by decide) (by omega) ?_
        refine gf_nmM (fun m97 hm97 => ?_)
        refine gf_iconst C dd_Ou_waysToFill_100 ?_
        refine gf_istore (lv' := [(5, .int (gf_i 0)), (0, .ref (gf_ad E 59)), (1, .ref (gf_ad E g)), (2, .ref (gf_ad E w)), (3, .int (gf_i c)), (4, .int (gf_i x4))]) C dd_Ou_waysToFill_101 (by decide) rfl ?_
        refine gf_iconst C dd_Ou_waysToFill_103 ?_
        refine gf_istore (lv' := [(6, .int (gf_i 0)), (5, .int (gf_i 0)), (0, .ref (gf_ad E 59)), (1, .ref (gf_ad E g)), (2, .ref (gf_ad E w)), (3, .int (gf_i c)), (4, .int (gf_i x4))]) C dd_Ou_waysToFill_104 (by decide) rfl ?_
        have L106_2 : ∀ (N : Nat) (s k : Int) (m : gf_M) , (0 ≤ k ∧ k ≤ μ w 1 ∧ s = (pf_run (μ g 0) (μ g 1) (μ g 2) (μ w 1) (pf_pkW (μ g 0) (μ g 1) (μ g 2) (μ w 1) c (μ (w + 1))) k.toNat).1 ∧ m 59 1 = (pf_run (μ g 0) (μ g 1) (μ g 2) (μ w 1) (pf_pkW (μ g 0) (μ g 1) (μ g 2) (μ w 1) c (μ (w + 1))) k.toNat).2 ∧ gf_tb m (μ w 1) VV 0 ∧ ∀ x y : Int, x ≠ 60 → ¬ (x = 59 ∧ y = 1) → m x y = μ x y) → (8 - k).toNat < N → gf_G X E Q 10 gf_φ m 106 [(5, .int (gf_i s)), (6, .int (gf_i k)), (0, .ref (gf_ad E 59)), (1, .ref (gf_ad E g)), (2, .ref (gf_ad E w)), (3, .int (gf_i c)), (4, .int (gf_i x4))] [] := by
          intro N
          induction N with
          | zero => intro s k m hinv hN; exact absurd hN (Nat.not_lt_zero _)
          | succ N ih106_2 =>
            intro s k m hinv hN
            have hinv0 := hinv
            obtain ⟨hk0, hk1, hrs, hrl, htc, ef111⟩ := hinv
            have hsR := pf_run_R (μ g 0) (μ g 1) (μ g 2) (μ w 1) (pf_pkW (μ g 0) (μ g 1) (μ g 2) (μ w 1) c (μ (w + 1))) k.toNat
            rw [← hrs] at hsR
            have hlB := pf_run_B (K := μ g 0) (F := μ g 1) (S := μ g 2) (n := μ w 1) (pk := pf_pkW (μ g 0) (μ g 1) (μ g 2) (μ w 1) c (μ (w + 1))) (fun a b => pf_pkW_R _ _ _ _ _ _ a b) k.toNat
            rw [← hrl] at hlB
            have h108 := pf_10_8 (k := k.toNat) (by omega)
            have e41c : m w 1 = μ w 1 := ef111 w 1 (by omega) (by omega)
            have hG111 : gf_okG m g := by unfold gf_okG; rw [ef111 g 0 (by omega) (by omega), ef111 g 1 (by omega) (by omega), ef111 g 2 (by omega) (by omega)]; exact hG
            refine gf_iload C dd_Ou_waysToFill_106 1 rfl ?_
            refine gf_iload C dd_Ou_waysToFill_108 6 rfl ?_
            refine gf_icmp_ge 180 C dd_Ou_waysToFill_110 (by decide) (by omega) (by omega) (fun h110 => ?_) (fun h110 => ?_)
            · skip
              refine gf_aload_n C dd_Ou_waysToFill_180 2 rfl ?_
              refine gf_iconst C dd_Ou_waysToFill_181 ?_
              refine gf_iconst C dd_Ou_waysToFill_182 ?_
              refine gf_callVl (st := []) (As := [.int (gf_i 0), .int (gf_i 0)]) C wk_Ou_44 gf_cl1 (show gf_is 81 59 0 1 2 by decide) (ct_Ou_valueOf (gf_xl X) E 0 0 m (by omega) (by omega)) rfl ⟨rfl, rfl, rfl, rfl⟩ (Nat.le_of_ble_eq_true rfl) rfl dd_Ou_waysToFill_183 (fun r183 m183 hR183 hp183 => ?_)
              have hr183 := hp183.1
              refine gf_pm hp183.2 ?_
              have hv00 := hVR (μ w 1).toNat 0 (by omega) (by omega) (by omega)
              have hr195b : r183 = VV (μ w 1).toNat 0 := by rw [hr183, htc 0 0 (by omega) (by omega) (by omega) (by omega), show μ w 1 - 0 = μ w 1 by omega]
              refine gf_gl2i C dd_Ou_waysToFill_186 ?_
              refine gf_iret C hQ dd_Ou_waysToFill_187 (by omega) ?_
              have hkn : k = μ w 1 := by omega
              refine ⟨⟨by rw [hr195b, hVV], by omega, by omega⟩, ?_, ef111⟩
              rw [hrl, hkn]
            · skip
              refine gf_iconst C dd_Ou_waysToFill_113 ?_
              refine gf_istore (lv' := [(7, .int (gf_i 0)), (5, .int (gf_i s)), (6, .int (gf_i k)), (0, .ref (gf_ad E 59)), (1, .ref (gf_ad E g)), (2, .ref (gf_ad E w)), (3, .int (gf_i c)), (4, .int (gf_i x4))]) C dd_Ou_waysToFill_114 (by decide) rfl ?_
              have L116_3 : ∀ (N : Nat) (f : Int) , (0 ≤ f ∧ f ≤ 9 ∧ pf_pkW (μ g 0) (μ g 1) (μ g 2) (μ w 1) c (μ (w + 1)) k s = pf_pick (fun f => decide (pf_way (μ g 0) (μ g 1) (μ g 2) (μ w 1) (μ (w + 1)) k s f (VV (μ w 1 - 1 - k).toNat) ≠ 0)) (9 - f).toNat f) → (9 - f).toNat < N → gf_G X E Q 10 gf_φ m 116 [(7, .int (gf_i f)), (5, .int (gf_i s)), (6, .int (gf_i k)), (0, .ref (gf_ad E 59)), (1, .ref (gf_ad E g)), (2, .ref (gf_ad E w)), (3, .int (gf_i c)), (4, .int (gf_i x4))] [] := by
                intro N
                induction N with
                | zero => intro f hinv hN; exact absurd hN (Nat.not_lt_zero _)
                | succ N ih116_3 =>
                  intro f hinv hN
                  have hinv0 := hinv
                  obtain ⟨hf0, hf1, hf2⟩ := hinv
                  have hvc : ∀ z : Int, 0 ≤ z → z ≤ 10 → 0 ≤ m 60 ((k + 1) * 11 + z) ∧ m 60 ((k + 1) * 11 + z) ≤ 100000000 := fun z h0 h1 => by rw [htc (k + 1) z (by omega) (by omega) h0 h1]; exact hVR _ z (by omega) h0 h1
                  refine gf_iload C dd_Ou_waysToFill_116 0 rfl ?_
                  refine gf_bipush C dd_Ou_waysToFill_118 (by decide +kernel) ?_
                  refine gf_icmp_ge 146 C dd_Ou_waysToFill_120 (by decide) (by omega) (by omega) (fun h120 => ?_) (fun h120 => ?_)
                  · skip
                    have hpick : f = pf_pkW (μ g 0) (μ g 1) (μ g 2) (μ w 1) c (μ (w + 1)) k s := by
                      rw [hf2]
                      first
                      | (rw [show (9 - f).toNat = 0 by omega]; rfl)
                      | (rw [show (9 - f).toNat = (9 - (f + 1)).toNat + 1 by omega]
                         show _ = if decide _ = true then _ else _
                         rw [if_pos (by rw [decide_eq_true_eq, ← hoe]; omega)])
                    refine gf_aload_n C dd_Ou_waysToFill_146 3 rfl ?_
                    refine gf_aload_n C dd_Ou_waysToFill_147 3 rfl ?_
                    refine gf_getI (z := 1) C gf_cl1 fl_Ou_41 dd_Ou_waysToFill_148 rfl rfl (show gf_is 81 59 0 1 2 by decide) (fun hv148 => ?_)
                    refine gf_bipush C dd_Ou_waysToFill_151 (by decide +kernel) ?_
                    refine gf_imul C dd_Ou_waysToFill_153 ?_
                    refine gf_iload C dd_Ou_waysToFill_154 0 rfl ?_
                    refine gf_iadd C dd_Ou_waysToFill_156 ?_
                    refine gf_putI (z := 1) C gf_cl1 fl_Ou_41 dd_Ou_waysToFill_157 rfl rfl rfl (by decide +kernel) (show gf_is 81 59 0 1 2 by decide) (by omega) ?_
                    refine gf_nmM (fun m157 hm157 => ?_)
                    have hG169 : gf_okG m157 g := by unfold gf_okG; rw [hm157, gf_up_k (by omega), gf_up_k (by omega), gf_up_k (by omega)]; exact hG111
                    refine gf_aload_n C dd_Ou_waysToFill_160 4 rfl ?_
                    refine gf_iload C dd_Ou_waysToFill_161 1 rfl ?_
                    refine gf_iload C dd_Ou_waysToFill_163 2 rfl ?_
                    refine gf_iload C dd_Ou_waysToFill_165 0 rfl ?_
                    refine gf_iload C dd_Ou_waysToFill_167 7 rfl ?_
                    refine gf_callVi (st := []) (As := [.int (gf_i s), .int (gf_i k), .int (gf_i f), .int (gf_i x4)]) C wk_Ou_48 gf_cl0 hg (ct_Gd_follow (gf_xl X) E g s k f x4 m157 hg (hG169) (by omega) (by omega) (by omega)) rfl ⟨rfl, rfl, rfl, rfl⟩ (Nat.le_of_ble_eq_true rfl) rfl dd_Ou_waysToFill_169 (fun r169 m169 hR169 hp169 => ?_)
                    have hr169 := hp169.1
                    refine gf_pm hp169.2 ?_
                    refine gf_istore (lv' := [(5, .int (gf_i r169)), (7, .int (gf_i f)), (6, .int (gf_i k)), (0, .ref (gf_ad E 59)), (1, .ref (gf_ad E g)), (2, .ref (gf_ad E w)), (3, .int (gf_i c)), (4, .int (gf_i x4))]) C dd_Ou_waysToFill_172 (by decide) rfl ?_
                    obtain ⟨x174, hx174⟩ : ∃ y : Int, y = k + 1 := ⟨_, rfl⟩
                    refine gf_iinc (q := 2) (v := x174) (lv' := [(6, .int (gf_i x174)), (5, .int (gf_i r169)), (7, .int (gf_i f)), (0, .ref (gf_ad E 59)), (1, .ref (gf_ad E g)), (2, .ref (gf_ad E w)), (3, .int (gf_i c)), (4, .int (gf_i x4))]) C dd_Ou_waysToFill_174 rfl hx174 (by decide) rfl ?_
                    refine gf_goto 106 C dd_Ou_waysToFill_177 (by decide) ?_
                    refine gf_lsub [1, 0, 3, 4, 5, 6, 7] rfl ?_
                    exact ih106_2 r169 x174 m157 (by
                              have hpk : f = pf_pkW (μ g 0) (μ g 1) (μ g 2) (μ w 1) c (μ (w + 1)) k s := hpick
                              have e1 : (k + 1).toNat = k.toNat + 1 := by omega
                              have eK : ((k.toNat : Nat) : Int) = k := by omega
                              have hfo := hr169.1
                              rw [hm157, gf_up_k (by omega), gf_up_k (by omega), gf_up_k (by omega), ef111 g 0 (by omega) (by omega), ef111 g 1 (by omega) (by omega), ef111 g 2 (by omega) (by omega), hx4] at hfo
                              refine ⟨by omega, by omega, ?_, ?_, fun j z h0 h1 h2 h3 => by rw [hm157, gf_up_k (by decide)]; exact htc j z h0 h1 h2 h3, fun x y h h2 => by rw [hm157, gf_up_o h2]; exact ef111 x y h h2⟩
                              · rw [hx174, e1]
                                show _ = pf_fol _ _ _ (pf_run _ _ _ _ _ k.toNat).1 ((k.toNat : Nat) : Int) (pf_pkW _ _ _ _ _ _ ((k.toNat : Nat) : Int) (pf_run _ _ _ _ _ k.toNat).1) _
                                rw [← hrs, eK, ← hpk]
                                exact hfo
                              · rw [hx174, e1, hm157, gf_up_s, hrl]
                                show _ = (pf_run _ _ _ _ _ k.toNat).2 * 10 + pf_pkW _ _ _ _ _ _ ((k.toNat : Nat) : Int) (pf_run _ _ _ _ _ k.toNat).1
                                rw [← hrs, eK, ← hpk]) (by omega)
                  · skip
                    refine gf_aload_n C dd_Ou_waysToFill_123 3 rfl ?_
                    refine gf_aload_n C dd_Ou_waysToFill_124 4 rfl ?_
                    refine gf_aload_n C dd_Ou_waysToFill_125 5 rfl ?_
                    refine gf_iload C dd_Ou_waysToFill_126 2 rfl ?_
                    refine gf_iload C dd_Ou_waysToFill_128 1 rfl ?_
                    refine gf_iload C dd_Ou_waysToFill_130 0 rfl ?_
                    refine gf_callVl (st := []) (As := [.ref (gf_ad E g), .ref (gf_ad E w), .int (gf_i k), .int (gf_i s), .int (gf_i f)]) C wk_Ou_61 gf_cl1 (show gf_is 81 59 0 1 2 by decide) (ct_Ou_waysWith (gf_xl X) E g w m hg hg58 hG111 hw hw12 k s f (by rw [e41c]; omega) (by omega) (by omega) hvc) rfl ⟨rfl, rfl, rfl, rfl⟩ (Nat.le_of_ble_eq_true rfl) rfl dd_Ou_waysToFill_132 (fun r132 m132 hR132 hp132 => ?_)
                    have hr132 := hp132.1
                    refine gf_pm hp132.2 ?_
                    have hoe : r132 = pf_way (μ g 0) (μ g 1) (μ g 2) (μ w 1) (μ (w + 1)) k s f (VV (μ w 1 - 1 - k).toNat) := by
                      rw [hr132.1, ef111 g 0 (by omega) (by omega), ef111 g 1 (by omega) (by omega), ef111 g 2 (by omega) (by omega), e41c]
                      refine pf_way_congr (ef111 (w + 1) k (by omega) (by omega)) (fun z h0 h1 => ?_)
                      rw [htc (k + 1) z (by omega) (by omega) h0 h1]
                      congr 1
                      omega
                    refine gf_lconst 0 C dd_Ou_waysToFill_135 (by decide +kernel) ?_
                    refine gf_lcmp C dd_Ou_waysToFill_136 (by omega) (by omega) (fun c136 hc136a hc136b hc136c => ?_)
                    refine gf_if_ne 146 C dd_Ou_waysToFill_137 (by decide) (by omega) (fun h137 => ?_) (fun h137 => ?_)
                    · skip
                      have hpick : f = pf_pkW (μ g 0) (μ g 1) (μ g 2) (μ w 1) c (μ (w + 1)) k s := by
                        rw [hf2]
                        first
                        | (rw [show (9 - f).toNat = 0 by omega]; rfl)
                        | (rw [show (9 - f).toNat = (9 - (f + 1)).toNat + 1 by omega]
                           show _ = if decide _ = true then _ else _
                           rw [if_pos (by rw [decide_eq_true_eq, ← hoe]; omega)])
                      refine gf_aload_n C dd_Ou_waysToFill_146 3 rfl ?_
                      refine gf_aload_n C dd_Ou_waysToFill_147 3 rfl ?_
                      refine gf_getI (z := 1) C gf_cl1 fl_Ou_41 dd_Ou_waysToFill_148 rfl rfl (show gf_is 81 59 0 1 2 by decide) (fun hv148 => ?_)
                      refine gf_bipush C dd_Ou_waysToFill_151 (by decide +kernel) ?_
                      refine gf_imul C dd_Ou_waysToFill_153 ?_
                      refine gf_iload C dd_Ou_waysToFill_154 0 rfl ?_
                      refine gf_iadd C dd_Ou_waysToFill_156 ?_
                      refine gf_putI (z := 1) C gf_cl1 fl_Ou_41 dd_Ou_waysToFill_157 rfl rfl rfl (by decide +kernel) (show gf_is 81 59 0 1 2 by decide) (by omega) ?_
                      refine gf_nmM (fun m157 hm157 => ?_)
                      have hG169 : gf_okG m157 g := by unfold gf_okG; rw [hm157, gf_up_k (by omega), gf_up_k (by omega), gf_up_k (by omega)]; exact hG111
                      refine gf_aload_n C dd_Ou_waysToFill_160 4 rfl ?_
                      refine gf_iload C dd_Ou_waysToFill_161 1 rfl ?_
                      refine gf_iload C dd_Ou_waysToFill_163 2 rfl ?_
                      refine gf_iload C dd_Ou_waysToFill_165 0 rfl ?_
                      refine gf_iload C dd_Ou_waysToFill_167 7 rfl ?_
                      refine gf_callVi (st := []) (As := [.int (gf_i s), .int (gf_i k), .int (gf_i f), .int (gf_i x4)]) C wk_Ou_48 gf_cl0 hg (ct_Gd_follow (gf_xl X) E g s k f x4 m157 hg (hG169) (by omega) (by omega) (by omega)) rfl ⟨rfl, rfl, rfl, rfl⟩ (Nat.le_of_ble_eq_true rfl) rfl dd_Ou_waysToFill_169 (fun r169 m169 hR169 hp169 => ?_)
                      have hr169 := hp169.1
                      refine gf_pm hp169.2 ?_
                      refine gf_istore (lv' := [(5, .int (gf_i r169)), (7, .int (gf_i f)), (6, .int (gf_i k)), (0, .ref (gf_ad E 59)), (1, .ref (gf_ad E g)), (2, .ref (gf_ad E w)), (3, .int (gf_i c)), (4, .int (gf_i x4))]) C dd_Ou_waysToFill_172 (by decide) rfl ?_
                      obtain ⟨x174, hx174⟩ : ∃ y : Int, y = k + 1 := ⟨_, rfl⟩
                      refine gf_iinc (q := 2) (v := x174) (lv' := [(6, .int (gf_i x174)), (5, .int (gf_i r169)), (7, .int (gf_i f)), (0, .ref (gf_ad E 59)), (1, .ref (gf_ad E g)), (2, .ref (gf_ad E w)), (3, .int (gf_i c)), (4, .int (gf_i x4))]) C dd_Ou_waysToFill_174 rfl hx174 (by decide) rfl ?_
                      refine gf_goto 106 C dd_Ou_waysToFill_177 (by decide) ?_
                      refine gf_lsub [1, 0, 3, 4, 5, 6, 7] rfl ?_
                      exact ih106_2 r169 x174 m157 (by
                                have hpk : f = pf_pkW (μ g 0) (μ g 1) (μ g 2) (μ w 1) c (μ (w + 1)) k s := hpick
                                have e1 : (k + 1).toNat = k.toNat + 1 := by omega
                                have eK : ((k.toNat : Nat) : Int) = k := by omega
                                have hfo := hr169.1
                                rw [hm157, gf_up_k (by omega), gf_up_k (by omega), gf_up_k (by omega), ef111 g 0 (by omega) (by omega), ef111 g 1 (by omega) (by omega), ef111 g 2 (by omega) (by omega), hx4] at hfo
                                refine ⟨by omega, by omega, ?_, ?_, fun j z h0 h1 h2 h3 => by rw [hm157, gf_up_k (by decide)]; exact htc j z h0 h1 h2 h3, fun x y h h2 => by rw [hm157, gf_up_o h2]; exact ef111 x y h h2⟩
                                · rw [hx174, e1]
                                  show _ = pf_fol _ _ _ (pf_run _ _ _ _ _ k.toNat).1 ((k.toNat : Nat) : Int) (pf_pkW _ _ _ _ _ _ ((k.toNat : Nat) : Int) (pf_run _ _ _ _ _ k.toNat).1) _
                                  rw [← hrs, eK, ← hpk]
                                  exact hfo
                                · rw [hx174, e1, hm157, gf_up_s, hrl]
                                  show _ = (pf_run _ _ _ _ _ k.toNat).2 * 10 + pf_pkW _ _ _ _ _ _ ((k.toNat : Nat) : Int) (pf_run _ _ _ _ _ k.toNat).1
                                  rw [← hrs, eK, ← hpk]) (by omega)
                    · skip
                      obtain ⟨x140, hx140⟩ : ∃ y : Int, y = f + 1 := ⟨_, rfl⟩
                      refine gf_iinc (q := 0) (v := x140) (lv' := [(7, .int (gf_i x140)), (5, .int (gf_i s)), (6, .int (gf_i k)), (0, .ref (gf_ad E 59)), (1, .ref (gf_ad E g)), (2, .ref (gf_ad E w)), (3, .int (gf_i c)), (4, .int (gf_i x4))]) C dd_Ou_waysToFill_140 rfl hx140 (by decide) rfl ?_
                      refine gf_goto 116 C dd_Ou_waysToFill_143 (by decide) ?_
                      refine gf_lsub [0, 1, 2, 3, 4, 5, 6, 7] rfl ?_
                      exact ih116_3 x140 (by
                                  refine ⟨by omega, by omega, ?_⟩
                                  rw [hf2, hx140, show (9 - f).toNat = (9 - (f + 1)).toNat + 1 by omega]
                                  show (if decide _ = true then _ else _) = _
                                  rw [if_neg (by rw [decide_eq_true_eq, ← hoe]; omega)]) (by omega)
              refine gf_lsub [0, 1, 2, 3, 4, 5, 6, 7] rfl ?_
              exact L116_3 _ 0 (⟨by omega, by omega, by rw [hVV]; rfl⟩) (Nat.lt_succ_self _)
        refine gf_lsub [1, 0, 2, 3, 4, 5, 6] rfl ?_
        exact L106_2 _ 0 0 m97 (⟨by omega, by omega, rfl, by rw [hm97]; exact gf_up_s, fun j z h0 h1 h2 h3 => by rw [hm97, gf_up_k (by decide)]; exact htb0 j z h0 h1 h2 h3, fun x y h h2 => by rw [hm97, gf_up_o h2]; exact hk3 x y h⟩) (Nat.lt_succ_self _)
      · skip
        refine gf_iconst C dd_Ou_waysToFill_27 ?_
        refine gf_istore (lv' := [(6, .int (gf_i 0)), (5, .int (gf_i k)), (0, .ref (gf_ad E 59)), (1, .ref (gf_ad E g)), (2, .ref (gf_ad E w)), (3, .int (gf_i c)), (4, .int (gf_i x4))]) C dd_Ou_waysToFill_28 (by decide) rfl ?_
        have L30_4 : ∀ (N : Nat) (s : Int) (m' : gf_M) , (0 ≤ s ∧ s ≤ 11 ∧ gf_tb m' (μ w 1) VV (k + 1) ∧ gf_tr m' (μ w 1) VV k s ∧ ∀ x y : Int, x ≠ 60 → m' x y = μ x y) → (11 - s).toNat < N → gf_G X E Q 10 gf_φ m' 30 [(6, .int (gf_i s)), (0, .ref (gf_ad E 59)), (1, .ref (gf_ad E g)), (2, .ref (gf_ad E w)), (3, .int (gf_i c)), (4, .int (gf_i x4)), (5, .int (gf_i k))] [] := by
          intro N
          induction N with
          | zero => intro s m' hinv hN; exact absurd hN (Nat.not_lt_zero _)
          | succ N ih30_4 =>
            intro s m' hinv hN
            have hinv0 := hinv
            obtain ⟨hs0, hs1, htb, htr, ef31⟩ := hinv
            have e41b : m' w 1 = μ w 1 := ef31 w 1 (by omega)
            have hG31 : gf_okG m' g := by unfold gf_okG; rw [ef31 g 0 (by omega), ef31 g 1 (by omega), ef31 g 2 (by omega)]; exact hG
            have hvb : ∀ z : Int, 0 ≤ z → z ≤ 10 → 0 ≤ m' 60 ((k + 1) * 11 + z) ∧ m' 60 ((k + 1) * 11 + z) ≤ 100000000 := fun z h0 h1 => by rw [htb (k + 1) z (by omega) (by omega) h0 h1]; exact hVR _ z (by omega) h0 h1
            refine gf_iload C dd_Ou_waysToFill_30 0 rfl ?_
            refine gf_bipush C dd_Ou_waysToFill_32 (by decide +kernel) ?_
            refine gf_icmp_ge 89 C dd_Ou_waysToFill_34 (by decide) (by omega) (by omega) (fun h34 => ?_) (fun h34 => ?_)
            · skip
              obtain ⟨x89, hx89⟩ : ∃ y : Int, y = k + (-1) := ⟨_, rfl⟩
              refine gf_iinc (q := 6) (v := x89) (lv' := [(5, .int (gf_i x89)), (6, .int (gf_i s)), (0, .ref (gf_ad E 59)), (1, .ref (gf_ad E g)), (2, .ref (gf_ad E w)), (3, .int (gf_i c)), (4, .int (gf_i x4))]) C dd_Ou_waysToFill_89 rfl hx89 (by decide) rfl ?_
              refine gf_goto 22 C dd_Ou_waysToFill_92 (by decide) ?_
              refine gf_lsub [0, 2, 3, 4, 5, 6] rfl ?_
              exact ih22_1 x89 m' (⟨by omega, by omega, by rw [hx89, show k + -1 + 1 = k by omega]; exact gf_tb_row htb (by rw [show (11 : Int) = s by omega]; exact htr), ef31⟩) (by omega)
            · skip
              refine gf_lconst 0 C dd_Ou_waysToFill_37 (by decide +kernel) ?_
              refine gf_lstore (lv' := [(7, .long (gf_l 0)), (6, .int (gf_i s)), (0, .ref (gf_ad E 59)), (1, .ref (gf_ad E g)), (2, .ref (gf_ad E w)), (3, .int (gf_i c)), (4, .int (gf_i x4)), (5, .int (gf_i k))]) C dd_Ou_waysToFill_38 (by decide) rfl ?_
              refine gf_iconst C dd_Ou_waysToFill_40 ?_
              refine gf_istore (lv' := [(9, .int (gf_i 0)), (7, .long (gf_l 0)), (6, .int (gf_i s)), (0, .ref (gf_ad E 59)), (1, .ref (gf_ad E g)), (2, .ref (gf_ad E w)), (3, .int (gf_i c)), (4, .int (gf_i x4)), (5, .int (gf_i k))]) C dd_Ou_waysToFill_41 (by decide) rfl ?_
              have L43_5 : ∀ (N : Nat) (v f : Int) , (0 ≤ f ∧ f ≤ 10 ∧ v = pf_sumf (fun f => pf_way (μ g 0) (μ g 1) (μ g 2) (μ w 1) (μ (w + 1)) k s f (VV (μ w 1 - 1 - k).toNat)) f.toNat) → (10 - f).toNat < N → gf_G X E Q 10 gf_φ m' 43 [(7, .long (gf_l v)), (9, .int (gf_i f)), (6, .int (gf_i s)), (0, .ref (gf_ad E 59)), (1, .ref (gf_ad E g)), (2, .ref (gf_ad E w)), (3, .int (gf_i c)), (4, .int (gf_i x4)), (5, .int (gf_i k))] [] := by
                intro N
                induction N with
                | zero => intro v f hinv hN; exact absurd hN (Nat.not_lt_zero _)
                | succ N ih43_5 =>
                  intro v f hinv hN
                  have hinv0 := hinv
                  obtain ⟨hf0, hf1, hv7⟩ := hinv
                  have hvR : 0 ≤ v ∧ v ≤ 1000000000 := by
                    have hq := pf_sumf_R (g := fun f => pf_way (μ g 0) (μ g 1) (μ g 2) (μ w 1) (μ (w + 1)) k s f (VV (μ w 1 - 1 - k).toNat)) (B := 100000000) f.toNat (fun f h0 h1 => by
                      have hz := pf_fol_R (μ g 0) (μ g 1) (μ g 2) s k f (μ w 1)
                      have := hVR (μ w 1 - 1 - k).toNat _ (by omega) hz.1 hz.2
                      show 0 ≤ pf_way _ _ _ _ _ _ _ _ _ ∧ pf_way _ _ _ _ _ _ _ _ _ ≤ _
                      unfold pf_way
                      split <;> omega)
                    rw [hv7]
                    omega
                  refine gf_iload C dd_Ou_waysToFill_43 1 rfl ?_
                  refine gf_bipush C dd_Ou_waysToFill_45 (by decide +kernel) ?_
                  refine gf_icmp_ge 73 C dd_Ou_waysToFill_47 (by decide) (by omega) (by omega) (fun h47 => ?_) (fun h47 => ?_)
                  · skip
                    refine gf_aload_n C dd_Ou_waysToFill_73 3 rfl ?_
                    refine gf_iload C dd_Ou_waysToFill_74 8 rfl ?_
                    refine gf_iload C dd_Ou_waysToFill_76 2 rfl ?_
                    refine gf_lload C dd_Ou_waysToFill_78 0 rfl ?_
                    refine gf_callVv (st := []) (As := [.int (gf_i k), .int (gf_i s), .long (gf_l v)]) C wk_Ou_37 gf_cl1 (show gf_is 81 59 0 1 2 by decide) (ct_Ou_keepValue (gf_xl X) E k s v m' (by omega) (by omega) (by omega)) rfl ⟨rfl, rfl, rfl, rfl⟩ (Nat.le_of_ble_eq_true rfl) rfl dd_Ou_waysToFill_80 (fun m80 hp80 => ?_)
                    obtain ⟨x83, hx83⟩ : ∃ y : Int, y = s + 1 := ⟨_, rfl⟩
                    refine gf_iinc (q := 2) (v := x83) (lv' := [(6, .int (gf_i x83)), (7, .long (gf_l v)), (9, .int (gf_i f)), (0, .ref (gf_ad E 59)), (1, .ref (gf_ad E g)), (2, .ref (gf_ad E w)), (3, .int (gf_i c)), (4, .int (gf_i x4)), (5, .int (gf_i k))]) C dd_Ou_waysToFill_83 rfl hx83 (by decide) rfl ?_
                    refine gf_goto 30 C dd_Ou_waysToFill_86 (by decide) ?_
                    refine gf_lsub [0, 3, 4, 5, 6, 7, 8] rfl ?_
                    exact ih30_4 x83 m80 (by
                                have hkp := gf_tb_keep (by omega) hp80 htb htr (by rw [hVS k s (by omega) (by omega), hv7, show f.toNat = 10 by omega])
                                exact ⟨by omega, by omega, hkp.1, by rw [hx83]; exact hkp.2, fun x y h => by rw [hp80, gf_up_k h]; exact ef31 x y h⟩) (by omega)
                  · skip
                    refine gf_lload C dd_Ou_waysToFill_50 0 rfl ?_
                    refine gf_aload_n C dd_Ou_waysToFill_52 3 rfl ?_
                    refine gf_aload_n C dd_Ou_waysToFill_53 4 rfl ?_
                    refine gf_aload_n C dd_Ou_waysToFill_54 5 rfl ?_
                    refine gf_iload C dd_Ou_waysToFill_55 8 rfl ?_
                    refine gf_iload C dd_Ou_waysToFill_57 2 rfl ?_
                    refine gf_iload C dd_Ou_waysToFill_59 1 rfl ?_
                    refine gf_callVl (st := [.long (gf_l v)]) (As := [.ref (gf_ad E g), .ref (gf_ad E w), .int (gf_i k), .int (gf_i s), .int (gf_i f)]) C wk_Ou_61 gf_cl1 (show gf_is 81 59 0 1 2 by decide) (ct_Ou_waysWith (gf_xl X) E g w m' hg hg58 hG31 hw hw12 k s f (by rw [e41b]; omega) (by omega) (by omega) hvb) rfl ⟨rfl, rfl, rfl, rfl⟩ (Nat.le_of_ble_eq_true rfl) rfl dd_Ou_waysToFill_61 (fun r61 m61 hR61 hp61 => ?_)
                    have hr61 := hp61.1
                    refine gf_pm hp61.2 ?_
                    have hoe : r61 = pf_way (μ g 0) (μ g 1) (μ g 2) (μ w 1) (μ (w + 1)) k s f (VV (μ w 1 - 1 - k).toNat) := by
                      rw [hr61.1, ef31 g 0 (by omega), ef31 g 1 (by omega), ef31 g 2 (by omega), e41b]
                      refine pf_way_congr (ef31 (w + 1) k (by omega)) (fun z h0 h1 => ?_)
                      rw [htb (k + 1) z (by omega) (by omega) h0 h1]
                      congr 1
                      omega
                    refine gf_ladd C dd_Ou_waysToFill_64 ?_
                    refine gf_nml (fun x65 hx65 => ?_)
                    refine gf_lstore (lv' := [(7, .long (gf_l x65)), (9, .int (gf_i f)), (6, .int (gf_i s)), (0, .ref (gf_ad E 59)), (1, .ref (gf_ad E g)), (2, .ref (gf_ad E w)), (3, .int (gf_i c)), (4, .int (gf_i x4)), (5, .int (gf_i k))]) C dd_Ou_waysToFill_65 (by decide) rfl ?_
                    obtain ⟨x67, hx67⟩ : ∃ y : Int, y = f + 1 := ⟨_, rfl⟩
                    refine gf_iinc (q := 1) (v := x67) (lv' := [(9, .int (gf_i x67)), (7, .long (gf_l x65)), (6, .int (gf_i s)), (0, .ref (gf_ad E 59)), (1, .ref (gf_ad E g)), (2, .ref (gf_ad E w)), (3, .int (gf_i c)), (4, .int (gf_i x4)), (5, .int (gf_i k))]) C dd_Ou_waysToFill_67 rfl hx67 (by decide) rfl ?_
                    refine gf_goto 43 C dd_Ou_waysToFill_70 (by decide) ?_
                    refine gf_lsub [1, 0, 2, 3, 4, 5, 6, 7, 8] rfl ?_
                    exact ih43_5 x65 x67 (by
                                  refine ⟨by omega, by omega, ?_⟩
                                  rw [hx65, hx67, hv7, show (f + 1).toNat = f.toNat + 1 by omega, hoe]
                                  show _ = _ + (pf_way _ _ _ _ _ _ _ ((f.toNat : Nat) : Int) _)
                                  rw [show ((f.toNat : Nat) : Int) = f by omega]) (by omega)
              refine gf_lsub [1, 0, 2, 3, 4, 5, 6, 7, 8] rfl ?_
              exact L43_5 _ 0 0 (⟨by omega, by omega, rfl⟩) (Nat.lt_succ_self _)
        refine gf_lsub [0, 2, 3, 4, 5, 6, 1] rfl ?_
        exact L30_4 _ 0 m (⟨by omega, by omega, hk2, fun z h0 h1 => by omega, hk3⟩) (Nat.lt_succ_self _)
  refine gf_lsub [0, 2, 3, 4, 5, 1] rfl ?_
  exact L22_1 _ x20 m13 (⟨by omega, by omega, fun j z h0 h1 h2 h3 => by rw [show j = x4 by omega, hp14a z h2 h3, show (μ w 1 - x4).toNat = 0 by omega, hVV, hx4]; rfl, hp14b⟩) (Nat.lt_succ_self _)
