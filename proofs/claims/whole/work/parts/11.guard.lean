theorem dd_Gd_weight_0 : decode cc_Gd_weight 0 = .ok (.aload_n 0, 1) := by decide +kernel
theorem dd_Gd_weight_1 : decode cc_Gd_weight 1 = .ok (.getfield 15, 3) := by decide +kernel
theorem dd_Gd_weight_4 : decode cc_Gd_weight 4 = .ok (.iload_n 1, 1) := by decide +kernel
theorem dd_Gd_weight_5 : decode cc_Gd_weight 5 = .ok (.aload_n 0, 1) := by decide +kernel
theorem dd_Gd_weight_6 : decode cc_Gd_weight 6 = .ok (.getfield 18, 3) := by decide +kernel
theorem dd_Gd_weight_9 : decode cc_Gd_weight 9 = .ok (.imul, 1) := by decide +kernel
theorem dd_Gd_weight_10 : decode cc_Gd_weight 10 = .ok (.iadd, 1) := by decide +kernel
theorem dd_Gd_weight_11 : decode cc_Gd_weight 11 = .ok (.bipush 10, 2) := by decide +kernel
theorem dd_Gd_weight_13 : decode cc_Gd_weight 13 = .ok (.irem, 1) := by decide +kernel
theorem dd_Gd_weight_14 : decode cc_Gd_weight 14 = .ok (.ireturn, 1) := by decide +kernel
set_option maxRecDepth 100000 in
set_option maxHeartbeats 4000000 in
theorem ct_Gd_weight (l : Launch) (E : gf_E) (g pl : Int) (μ : gf_M) (hg : gf_oGd g) (hG : gf_okG μ g) (hp : 0 ≤ pl ∧ pl ≤ 8) : gf_Mi l E yy_Gd_weight cc_Gd_weight 2 .int (gf_rm 0 0) 81 gf_ref μ [.ref (gf_ad E g), .int (gf_i pl)] (fun r μ' => (r = pf_wt (μ g 1) (μ g 2) pl ∧ 0 ≤ r ∧ r ≤ 9) ∧ μ' = μ) := by
  refine gf_mi (by decide +kernel) (Nat.le_of_ble_eq_true rfl) (by decide) (fun X Q hlx C hQ => ?_)
  subst hlx
  replace C : gf_C X E cc_Gd_weight 2 "GuardFigures$Guard" (gf_rm 0 0) := C
  show gf_G X E Q 2 gf_φ μ 0 [(0, .ref (gf_ad E g)), (1, .int (gf_i pl))] []
  obtain ⟨hk0, hk1, hk2⟩ := hG
  have hm := pf_mulb hp hk2
  refine gf_aload_n C dd_Gd_weight_0 0 rfl ?_
  refine gf_getI (z := 1) C gf_cl0 fl_Gd_15 dd_Gd_weight_1 rfl rfl hg (fun hv1 => ?_)
  refine gf_iload_n C dd_Gd_weight_4 1 rfl ?_
  refine gf_aload_n C dd_Gd_weight_5 0 rfl ?_
  refine gf_getI (z := 2) C gf_cl0 fl_Gd_18 dd_Gd_weight_6 rfl rfl hg (fun hv6 => ?_)
  refine gf_imul C dd_Gd_weight_9 ?_
  refine gf_iadd C dd_Gd_weight_10 ?_
  refine gf_bipush C dd_Gd_weight_11 (by decide +kernel) ?_
  refine gf_irem C dd_Gd_weight_13 (by omega) ?_
  refine gf_iret C hQ dd_Gd_weight_14 (by omega) ?_
  exact ⟨⟨rfl, by omega, by omega⟩, rfl⟩

theorem dd_Gd_crossSum_0 : decode cc_Gd_crossSum 0 = .ok (.iload_n 0, 1) := by decide +kernel
theorem dd_Gd_crossSum_1 : decode cc_Gd_crossSum 1 = .ok (.bipush 10, 2) := by decide +kernel
theorem dd_Gd_crossSum_3 : decode cc_Gd_crossSum 3 = .ok (.idiv, 1) := by decide +kernel
theorem dd_Gd_crossSum_4 : decode cc_Gd_crossSum 4 = .ok (.iload_n 0, 1) := by decide +kernel
theorem dd_Gd_crossSum_5 : decode cc_Gd_crossSum 5 = .ok (.bipush 10, 2) := by decide +kernel
theorem dd_Gd_crossSum_7 : decode cc_Gd_crossSum 7 = .ok (.irem, 1) := by decide +kernel
theorem dd_Gd_crossSum_8 : decode cc_Gd_crossSum 8 = .ok (.iadd, 1) := by decide +kernel
theorem dd_Gd_crossSum_9 : decode cc_Gd_crossSum 9 = .ok (.ireturn, 1) := by decide +kernel
set_option maxRecDepth 100000 in
set_option maxHeartbeats 4000000 in
theorem ct_Gd_crossSum (l : Launch) (E : gf_E) (x : Int) (μ : gf_M) (hx : 0 ≤ x ∧ x ≤ 1000) : gf_Mi l E yy_Gd_crossSum cc_Gd_crossSum 1 .int (gf_rm 0 0) 81 gf_ref μ [.int (gf_i x)] (fun r μ' => (r = pf_cs x ∧ 0 ≤ r ∧ r ≤ 110) ∧ μ' = μ) := by
  refine gf_mi (by decide +kernel) (Nat.le_of_ble_eq_true rfl) (by decide) (fun X Q hlx C hQ => ?_)
  subst hlx
  replace C : gf_C X E cc_Gd_crossSum 1 "GuardFigures$Guard" (gf_rm 0 0) := C
  show gf_G X E Q 1 gf_φ μ 0 [(0, .int (gf_i x))] []
  refine gf_iload_n C dd_Gd_crossSum_0 0 rfl ?_
  refine gf_bipush C dd_Gd_crossSum_1 (by decide +kernel) ?_
  refine gf_idiv C dd_Gd_crossSum_3 (by omega) ?_
  refine gf_iload_n C dd_Gd_crossSum_4 0 rfl ?_
  refine gf_bipush C dd_Gd_crossSum_5 (by decide +kernel) ?_
  refine gf_irem C dd_Gd_crossSum_7 (by omega) ?_
  refine gf_iadd C dd_Gd_crossSum_8 ?_
  refine gf_iret C hQ dd_Gd_crossSum_9 (by omega) ?_
  exact ⟨⟨rfl, by omega, by omega⟩, rfl⟩

theorem dd_Gd_finish_0 : decode cc_Gd_finish 0 = .ok (.aload_n 0, 1) := by decide +kernel
theorem dd_Gd_finish_1 : decode cc_Gd_finish 1 = .ok (.getfield 9, 3) := by decide +kernel
theorem dd_Gd_finish_4 : decode cc_Gd_finish 4 = .ok (.iconst 5, 1) := by decide +kernel
theorem dd_Gd_finish_5 : decode cc_Gd_finish 5 = .ok (.if_icmp .ne 14, 3) := by decide +kernel
theorem dd_Gd_finish_8 : decode cc_Gd_finish 8 = .ok (.iconst 2, 1) := by decide +kernel
theorem dd_Gd_finish_9 : decode cc_Gd_finish 9 = .ok (.iload_n 1, 1) := by decide +kernel
theorem dd_Gd_finish_10 : decode cc_Gd_finish 10 = .ok (.imul, 1) := by decide +kernel
theorem dd_Gd_finish_11 : decode cc_Gd_finish 11 = .ok (.iload_n 2, 1) := by decide +kernel
theorem dd_Gd_finish_12 : decode cc_Gd_finish 12 = .ok (.iadd, 1) := by decide +kernel
theorem dd_Gd_finish_13 : decode cc_Gd_finish 13 = .ok (.bipush 10, 2) := by decide +kernel
theorem dd_Gd_finish_15 : decode cc_Gd_finish 15 = .ok (.irem, 1) := by decide +kernel
theorem dd_Gd_finish_16 : decode cc_Gd_finish 16 = .ok (.goto 4, 3) := by decide +kernel
theorem dd_Gd_finish_19 : decode cc_Gd_finish 19 = .ok (.iload_n 1, 1) := by decide +kernel
theorem dd_Gd_finish_20 : decode cc_Gd_finish 20 = .ok (.ireturn, 1) := by decide +kernel
set_option maxRecDepth 100000 in
set_option maxHeartbeats 4000000 in
theorem ct_Gd_finish (l : Launch) (E : gf_E) (g s n : Int) (μ : gf_M) (hg : gf_oGd g) (hG : gf_okG μ g) (hs : 0 ≤ s ∧ s ≤ 10) (hn : 0 ≤ n ∧ n ≤ 8) : gf_Mi l E yy_Gd_finish cc_Gd_finish 3 .int (gf_rm 0 0) 81 gf_ref μ [.ref (gf_ad E g), .int (gf_i s), .int (gf_i n)] (fun r μ' => (r = pf_fin (μ g 0) s n ∧ 0 ≤ r ∧ r ≤ 10) ∧ μ' = μ) := by
  refine gf_mi (by decide +kernel) (Nat.le_of_ble_eq_true rfl) (by decide) (fun X Q hlx C hQ => ?_)
  subst hlx
  replace C : gf_C X E cc_Gd_finish 3 "GuardFigures$Guard" (gf_rm 0 0) := C
  show gf_G X E Q 3 gf_φ μ 0 [(0, .ref (gf_ad E g)), (1, .int (gf_i s)), (2, .int (gf_i n))] []
  obtain ⟨hk0, hk1, hk2⟩ := hG
  refine gf_aload_n C dd_Gd_finish_0 0 rfl ?_
  refine gf_getI (z := 0) C gf_cl0 fl_Gd_9 dd_Gd_finish_1 rfl rfl hg (fun hv1 => ?_)
  refine gf_iconst C dd_Gd_finish_4 ?_
  refine gf_icmp_ne 19 C dd_Gd_finish_5 (by decide) (by omega) (by omega) (fun h5 => ?_) (fun h5 => ?_)
  · skip
    refine gf_iload_n C dd_Gd_finish_19 1 rfl ?_
    refine gf_iret C hQ dd_Gd_finish_20 (by omega) ?_
    exact ⟨⟨by simp [pf_fin, h5], by omega, by omega⟩, rfl⟩
  · skip
    refine gf_iconst C dd_Gd_finish_8 ?_
    refine gf_iload_n C dd_Gd_finish_9 1 rfl ?_
    refine gf_imul C dd_Gd_finish_10 ?_
    refine gf_iload_n C dd_Gd_finish_11 2 rfl ?_
    refine gf_iadd C dd_Gd_finish_12 ?_
    refine gf_bipush C dd_Gd_finish_13 (by decide +kernel) ?_
    refine gf_irem C dd_Gd_finish_15 (by omega) ?_
    refine gf_goto 20 C dd_Gd_finish_16 (by decide) ?_
    refine gf_iret C hQ dd_Gd_finish_20 (by omega) ?_
    exact ⟨⟨by simp [pf_fin, h5], by omega, by omega⟩, rfl⟩

theorem dd_Gd_follow_0 : decode cc_Gd_follow 0 = .ok (.aload_n 0, 1) := by decide +kernel
theorem dd_Gd_follow_1 : decode cc_Gd_follow 1 = .ok (.getfield 9, 3) := by decide +kernel
theorem dd_Gd_follow_4 : decode cc_Gd_follow 4 = .ok (.tableswitch 100 1 5 #[36, 49, 65, 82, 49], 36) := by decide +kernel
theorem dd_Gd_follow_40 : decode cc_Gd_follow 40 = .ok (.iload_n 1, 1) := by decide +kernel
theorem dd_Gd_follow_41 : decode cc_Gd_follow 41 = .ok (.iload_n 3, 1) := by decide +kernel
theorem dd_Gd_follow_42 : decode cc_Gd_follow 42 = .ok (.aload_n 0, 1) := by decide +kernel
theorem dd_Gd_follow_43 : decode cc_Gd_follow 43 = .ok (.iload_n 2, 1) := by decide +kernel
theorem dd_Gd_follow_44 : decode cc_Gd_follow 44 = .ok (.invokevirtual 25, 3) := by decide +kernel
theorem dd_Gd_follow_47 : decode cc_Gd_follow 47 = .ok (.imul, 1) := by decide +kernel
theorem dd_Gd_follow_48 : decode cc_Gd_follow 48 = .ok (.iadd, 1) := by decide +kernel
theorem dd_Gd_follow_49 : decode cc_Gd_follow 49 = .ok (.bipush 11, 2) := by decide +kernel
theorem dd_Gd_follow_51 : decode cc_Gd_follow 51 = .ok (.irem, 1) := by decide +kernel
theorem dd_Gd_follow_52 : decode cc_Gd_follow 52 = .ok (.ireturn, 1) := by decide +kernel
theorem dd_Gd_follow_53 : decode cc_Gd_follow 53 = .ok (.iload_n 1, 1) := by decide +kernel
theorem dd_Gd_follow_54 : decode cc_Gd_follow 54 = .ok (.iload_n 3, 1) := by decide +kernel
theorem dd_Gd_follow_55 : decode cc_Gd_follow 55 = .ok (.aload_n 0, 1) := by decide +kernel
theorem dd_Gd_follow_56 : decode cc_Gd_follow 56 = .ok (.iload_n 2, 1) := by decide +kernel
theorem dd_Gd_follow_57 : decode cc_Gd_follow 57 = .ok (.invokevirtual 25, 3) := by decide +kernel
theorem dd_Gd_follow_60 : decode cc_Gd_follow 60 = .ok (.imul, 1) := by decide +kernel
theorem dd_Gd_follow_61 : decode cc_Gd_follow 61 = .ok (.invokestatic 29, 3) := by decide +kernel
theorem dd_Gd_follow_64 : decode cc_Gd_follow 64 = .ok (.iadd, 1) := by decide +kernel
theorem dd_Gd_follow_65 : decode cc_Gd_follow 65 = .ok (.bipush 10, 2) := by decide +kernel
theorem dd_Gd_follow_67 : decode cc_Gd_follow 67 = .ok (.irem, 1) := by decide +kernel
theorem dd_Gd_follow_68 : decode cc_Gd_follow 68 = .ok (.ireturn, 1) := by decide +kernel
theorem dd_Gd_follow_69 : decode cc_Gd_follow 69 = .ok (.iload_n 1, 1) := by decide +kernel
theorem dd_Gd_follow_70 : decode cc_Gd_follow 70 = .ok (.aload_n 0, 1) := by decide +kernel
theorem dd_Gd_follow_71 : decode cc_Gd_follow 71 = .ok (.getfield 15, 3) := by decide +kernel
theorem dd_Gd_follow_74 : decode cc_Gd_follow 74 = .ok (.imul, 1) := by decide +kernel
theorem dd_Gd_follow_75 : decode cc_Gd_follow 75 = .ok (.iload_n 3, 1) := by decide +kernel
theorem dd_Gd_follow_76 : decode cc_Gd_follow 76 = .ok (.iadd, 1) := by decide +kernel
theorem dd_Gd_follow_77 : decode cc_Gd_follow 77 = .ok (.aload_n 0, 1) := by decide +kernel
theorem dd_Gd_follow_78 : decode cc_Gd_follow 78 = .ok (.getfield 18, 3) := by decide +kernel
theorem dd_Gd_follow_81 : decode cc_Gd_follow 81 = .ok (.iadd, 1) := by decide +kernel
theorem dd_Gd_follow_82 : decode cc_Gd_follow 82 = .ok (.bipush 10, 2) := by decide +kernel
theorem dd_Gd_follow_84 : decode cc_Gd_follow 84 = .ok (.irem, 1) := by decide +kernel
theorem dd_Gd_follow_85 : decode cc_Gd_follow 85 = .ok (.ireturn, 1) := by decide +kernel
theorem dd_Gd_follow_86 : decode cc_Gd_follow 86 = .ok (.iload_n 1, 1) := by decide +kernel
theorem dd_Gd_follow_87 : decode cc_Gd_follow 87 = .ok (.iload_n 3, 1) := by decide +kernel
theorem dd_Gd_follow_88 : decode cc_Gd_follow 88 = .ok (.aload_n 0, 1) := by decide +kernel
theorem dd_Gd_follow_89 : decode cc_Gd_follow 89 = .ok (.iload 4, 2) := by decide +kernel
theorem dd_Gd_follow_91 : decode cc_Gd_follow 91 = .ok (.iconst 1, 1) := by decide +kernel
theorem dd_Gd_follow_92 : decode cc_Gd_follow 92 = .ok (.isub, 1) := by decide +kernel
theorem dd_Gd_follow_93 : decode cc_Gd_follow 93 = .ok (.iload_n 2, 1) := by decide +kernel
theorem dd_Gd_follow_94 : decode cc_Gd_follow 94 = .ok (.isub, 1) := by decide +kernel
theorem dd_Gd_follow_95 : decode cc_Gd_follow 95 = .ok (.invokevirtual 25, 3) := by decide +kernel
theorem dd_Gd_follow_98 : decode cc_Gd_follow 98 = .ok (.imul, 1) := by decide +kernel
theorem dd_Gd_follow_99 : decode cc_Gd_follow 99 = .ok (.iadd, 1) := by decide +kernel
theorem dd_Gd_follow_100 : decode cc_Gd_follow 100 = .ok (.bipush 11, 2) := by decide +kernel
theorem dd_Gd_follow_102 : decode cc_Gd_follow 102 = .ok (.irem, 1) := by decide +kernel
theorem dd_Gd_follow_103 : decode cc_Gd_follow 103 = .ok (.ireturn, 1) := by decide +kernel
theorem dd_Gd_follow_104 : decode cc_Gd_follow 104 = .ok (.iload_n 1, 1) := by decide +kernel
theorem dd_Gd_follow_105 : decode cc_Gd_follow 105 = .ok (.iload_n 3, 1) := by decide +kernel
theorem dd_Gd_follow_106 : decode cc_Gd_follow 106 = .ok (.aload_n 0, 1) := by decide +kernel
theorem dd_Gd_follow_107 : decode cc_Gd_follow 107 = .ok (.iload_n 2, 1) := by decide +kernel
theorem dd_Gd_follow_108 : decode cc_Gd_follow 108 = .ok (.invokevirtual 25, 3) := by decide +kernel
theorem dd_Gd_follow_111 : decode cc_Gd_follow 111 = .ok (.imul, 1) := by decide +kernel
theorem dd_Gd_follow_112 : decode cc_Gd_follow 112 = .ok (.iadd, 1) := by decide +kernel
theorem dd_Gd_follow_113 : decode cc_Gd_follow 113 = .ok (.bipush 10, 2) := by decide +kernel
theorem dd_Gd_follow_115 : decode cc_Gd_follow 115 = .ok (.irem, 1) := by decide +kernel
theorem dd_Gd_follow_116 : decode cc_Gd_follow 116 = .ok (.ireturn, 1) := by decide +kernel
set_option maxRecDepth 100000 in
set_option maxHeartbeats 4000000 in
theorem ct_Gd_follow (l : Launch) (E : gf_E) (g s p f n : Int) (μ : gf_M) (hg : gf_oGd g) (hG : gf_okG μ g) (hs : 0 ≤ s ∧ s ≤ 10) (hp : 0 ≤ p ∧ p < n ∧ n ≤ 8) (hf : 0 ≤ f ∧ f ≤ 9) : gf_Mi l E yy_Gd_follow cc_Gd_follow 5 .int (gf_rm 1 21) 81 gf_ref μ [.ref (gf_ad E g), .int (gf_i s), .int (gf_i p), .int (gf_i f), .int (gf_i n)] (fun r μ' => (r = pf_fol (μ g 0) (μ g 1) (μ g 2) s p f n ∧ 0 ≤ r ∧ r ≤ 10) ∧ μ' = μ) := by
  refine gf_mi (by decide +kernel) (Nat.le_of_ble_eq_true rfl) (by decide) (fun X Q hlx C hQ => ?_)
  subst hlx
  replace C : gf_C X E cc_Gd_follow 5 "GuardFigures$Guard" (gf_rm 1 21) := C
  show gf_G X E Q 5 gf_φ μ 0 [(0, .ref (gf_ad E g)), (1, .int (gf_i s)), (2, .int (gf_i p)), (3, .int (gf_i f)), (4, .int (gf_i n))] []
  have hG0 := hG
  obtain ⟨hk0, hk1, hk2⟩ := hG
  have hsf := pf_mulb hs hk1
  refine gf_aload_n C dd_Gd_follow_0 0 rfl ?_
  refine gf_getI (z := 0) C gf_cl0 fl_Gd_9 dd_Gd_follow_1 rfl rfl hg (fun hv1 => ?_)
  rcases (show (μ g 0) = 1 ∨ (μ g 0) = 2 ∨ (μ g 0) = 3 ∨ (μ g 0) = 4 ∨ (μ g 0) = 5 ∨ ¬ (1 ≤ (μ g 0) ∧ (μ g 0) ≤ 5) by omega) with hsw4 | hsw4 | hsw4 | hsw4 | hsw4 | hsw4
  · refine gf_cv hsw4 ?_
    refine gf_tblI 40 C dd_Gd_follow_4 (by decide) (by decide) (by decide) rfl (by decide) ?_
    refine gf_iload_n C dd_Gd_follow_40 1 rfl ?_
    refine gf_iload_n C dd_Gd_follow_41 3 rfl ?_
    refine gf_aload_n C dd_Gd_follow_42 0 rfl ?_
    refine gf_iload_n C dd_Gd_follow_43 2 rfl ?_
    refine gf_callVi (st := [.int (gf_i f), .int (gf_i s)]) (As := [.int (gf_i p)]) C wk_Gd_25 gf_cl0 hg (ct_Gd_weight (gf_xl X) E g p μ hg (hG0) (by omega)) rfl ⟨rfl, rfl, rfl, rfl⟩ (Nat.le_of_ble_eq_true rfl) rfl dd_Gd_follow_44 (fun r44 m44 hR44 hp44 => ?_)
    have hr44 := hp44.1
    refine gf_pm hp44.2 ?_
    have hq44 := pf_mulb hf (show 0 ≤ r44 ∧ r44 ≤ 9 from hr44.2)
    refine gf_imul C dd_Gd_follow_47 ?_
    refine gf_iadd C dd_Gd_follow_48 ?_
    refine gf_bipush C dd_Gd_follow_49 (by decide +kernel) ?_
    refine gf_irem C dd_Gd_follow_51 (by omega) ?_
    refine gf_iret C hQ dd_Gd_follow_52 (by omega) ?_
    exact ⟨⟨by simp [pf_fol, hsw4, hr44.1], by omega, by omega⟩, rfl⟩
  · refine gf_cv hsw4 ?_
    refine gf_tblI 53 C dd_Gd_follow_4 (by decide) (by decide) (by decide) rfl (by decide) ?_
    refine gf_iload_n C dd_Gd_follow_53 1 rfl ?_
    refine gf_iload_n C dd_Gd_follow_54 3 rfl ?_
    refine gf_aload_n C dd_Gd_follow_55 0 rfl ?_
    refine gf_iload_n C dd_Gd_follow_56 2 rfl ?_
    refine gf_callVi (st := [.int (gf_i f), .int (gf_i s)]) (As := [.int (gf_i p)]) C wk_Gd_25 gf_cl0 hg (ct_Gd_weight (gf_xl X) E g p μ hg (hG0) (by omega)) rfl ⟨rfl, rfl, rfl, rfl⟩ (Nat.le_of_ble_eq_true rfl) rfl dd_Gd_follow_57 (fun r57 m57 hR57 hp57 => ?_)
    have hr57 := hp57.1
    refine gf_pm hp57.2 ?_
    have hq57 := pf_mulb hf (show 0 ≤ r57 ∧ r57 ≤ 9 from hr57.2)
    refine gf_imul C dd_Gd_follow_60 ?_
    refine gf_callSi (st := [.int (gf_i s)]) (As := [.int (gf_i (f * r57))]) C wk_Gd_29 (ct_Gd_crossSum (gf_xl X) E (f * r57) μ (by omega)) rfl ⟨rfl, rfl, rfl, rfl⟩ (Nat.le_of_ble_eq_true rfl) rfl dd_Gd_follow_61 (fun r61 m61 hR61 hp61 => ?_)
    have hr61 := hp61.1
    refine gf_pm hp61.2 ?_
    refine gf_iadd C dd_Gd_follow_64 ?_
    refine gf_bipush C dd_Gd_follow_65 (by decide +kernel) ?_
    refine gf_irem C dd_Gd_follow_67 (by omega) ?_
    refine gf_iret C hQ dd_Gd_follow_68 (by omega) ?_
    exact ⟨⟨by simp [pf_fol, hsw4, hr61.1, hr57.1], by omega, by omega⟩, rfl⟩
  · refine gf_cv hsw4 ?_
    refine gf_tblI 69 C dd_Gd_follow_4 (by decide) (by decide) (by decide) rfl (by decide) ?_
    refine gf_iload_n C dd_Gd_follow_69 1 rfl ?_
    refine gf_aload_n C dd_Gd_follow_70 0 rfl ?_
    refine gf_getI (z := 1) C gf_cl0 fl_Gd_15 dd_Gd_follow_71 rfl rfl hg (fun hv71 => ?_)
    refine gf_imul C dd_Gd_follow_74 ?_
    refine gf_iload_n C dd_Gd_follow_75 3 rfl ?_
    refine gf_iadd C dd_Gd_follow_76 ?_
    refine gf_aload_n C dd_Gd_follow_77 0 rfl ?_
    refine gf_getI (z := 2) C gf_cl0 fl_Gd_18 dd_Gd_follow_78 rfl rfl hg (fun hv78 => ?_)
    refine gf_iadd C dd_Gd_follow_81 ?_
    refine gf_bipush C dd_Gd_follow_82 (by decide +kernel) ?_
    refine gf_irem C dd_Gd_follow_84 (by omega) ?_
    refine gf_iret C hQ dd_Gd_follow_85 (by omega) ?_
    exact ⟨⟨by simp [pf_fol, hsw4], by omega, by omega⟩, rfl⟩
  · refine gf_cv hsw4 ?_
    refine gf_tblI 86 C dd_Gd_follow_4 (by decide) (by decide) (by decide) rfl (by decide) ?_
    refine gf_iload_n C dd_Gd_follow_86 1 rfl ?_
    refine gf_iload_n C dd_Gd_follow_87 3 rfl ?_
    refine gf_aload_n C dd_Gd_follow_88 0 rfl ?_
    refine gf_iload C dd_Gd_follow_89 4 rfl ?_
    refine gf_iconst C dd_Gd_follow_91 ?_
    refine gf_isub C dd_Gd_follow_92 ?_
    refine gf_iload_n C dd_Gd_follow_93 2 rfl ?_
    refine gf_isub C dd_Gd_follow_94 ?_
    refine gf_callVi (st := [.int (gf_i f), .int (gf_i s)]) (As := [.int (gf_i ((n - 1) - p))]) C wk_Gd_25 gf_cl0 hg (ct_Gd_weight (gf_xl X) E g ((n - 1) - p) μ hg (hG0) (by omega)) rfl ⟨rfl, rfl, rfl, rfl⟩ (Nat.le_of_ble_eq_true rfl) rfl dd_Gd_follow_95 (fun r95 m95 hR95 hp95 => ?_)
    have hr95 := hp95.1
    refine gf_pm hp95.2 ?_
    have hq95 := pf_mulb hf (show 0 ≤ r95 ∧ r95 ≤ 9 from hr95.2)
    refine gf_imul C dd_Gd_follow_98 ?_
    refine gf_iadd C dd_Gd_follow_99 ?_
    refine gf_bipush C dd_Gd_follow_100 (by decide +kernel) ?_
    refine gf_irem C dd_Gd_follow_102 (by omega) ?_
    refine gf_iret C hQ dd_Gd_follow_103 (by omega) ?_
    exact ⟨⟨by simp [pf_fol, hsw4, hr95.1], by omega, by omega⟩, rfl⟩
  · refine gf_cv hsw4 ?_
    refine gf_tblI 53 C dd_Gd_follow_4 (by decide) (by decide) (by decide) rfl (by decide) ?_
    refine gf_iload_n C dd_Gd_follow_53 1 rfl ?_
    refine gf_iload_n C dd_Gd_follow_54 3 rfl ?_
    refine gf_aload_n C dd_Gd_follow_55 0 rfl ?_
    refine gf_iload_n C dd_Gd_follow_56 2 rfl ?_
    refine gf_callVi (st := [.int (gf_i f), .int (gf_i s)]) (As := [.int (gf_i p)]) C wk_Gd_25 gf_cl0 hg (ct_Gd_weight (gf_xl X) E g p μ hg (hG0) (by omega)) rfl ⟨rfl, rfl, rfl, rfl⟩ (Nat.le_of_ble_eq_true rfl) rfl dd_Gd_follow_57 (fun r57 m57 hR57 hp57 => ?_)
    have hr57 := hp57.1
    refine gf_pm hp57.2 ?_
    have hq57 := pf_mulb hf (show 0 ≤ r57 ∧ r57 ≤ 9 from hr57.2)
    refine gf_imul C dd_Gd_follow_60 ?_
    refine gf_callSi (st := [.int (gf_i s)]) (As := [.int (gf_i (f * r57))]) C wk_Gd_29 (ct_Gd_crossSum (gf_xl X) E (f * r57) μ (by omega)) rfl ⟨rfl, rfl, rfl, rfl⟩ (Nat.le_of_ble_eq_true rfl) rfl dd_Gd_follow_61 (fun r61 m61 hR61 hp61 => ?_)
    have hr61 := hp61.1
    refine gf_pm hp61.2 ?_
    refine gf_iadd C dd_Gd_follow_64 ?_
    refine gf_bipush C dd_Gd_follow_65 (by decide +kernel) ?_
    refine gf_irem C dd_Gd_follow_67 (by omega) ?_
    refine gf_iret C hQ dd_Gd_follow_68 (by omega) ?_
    exact ⟨⟨by simp [pf_fol, hsw4, hr61.1, hr57.1], by omega, by omega⟩, rfl⟩
  · refine gf_tblO 104 C dd_Gd_follow_4 (by omega) (by omega) (by decide) ?_
    refine gf_iload_n C dd_Gd_follow_104 1 rfl ?_
    refine gf_iload_n C dd_Gd_follow_105 3 rfl ?_
    refine gf_aload_n C dd_Gd_follow_106 0 rfl ?_
    refine gf_iload_n C dd_Gd_follow_107 2 rfl ?_
    refine gf_callVi (st := [.int (gf_i f), .int (gf_i s)]) (As := [.int (gf_i p)]) C wk_Gd_25 gf_cl0 hg (ct_Gd_weight (gf_xl X) E g p μ hg (hG0) (by omega)) rfl ⟨rfl, rfl, rfl, rfl⟩ (Nat.le_of_ble_eq_true rfl) rfl dd_Gd_follow_108 (fun r108 m108 hR108 hp108 => ?_)
    have hr108 := hp108.1
    refine gf_pm hp108.2 ?_
    have hq108 := pf_mulb hf (show 0 ≤ r108 ∧ r108 ≤ 9 from hr108.2)
    refine gf_imul C dd_Gd_follow_111 ?_
    refine gf_iadd C dd_Gd_follow_112 ?_
    refine gf_bipush C dd_Gd_follow_113 (by decide +kernel) ?_
    refine gf_irem C dd_Gd_follow_115 (by omega) ?_
    refine gf_iret C hQ dd_Gd_follow_116 (by omega) ?_
    have e : μ g 0 = 0 := by omega
    exact ⟨⟨by simp [pf_fol, e, hr108.1], by omega, by omega⟩, rfl⟩

theorem dd_Gd_reckon_0 : decode cc_Gd_reckon 0 = .ok (.iconst 0, 1) := by decide +kernel
theorem dd_Gd_reckon_1 : decode cc_Gd_reckon 1 = .ok (.istore_n 3, 1) := by decide +kernel
theorem dd_Gd_reckon_2 : decode cc_Gd_reckon 2 = .ok (.iconst 0, 1) := by decide +kernel
theorem dd_Gd_reckon_3 : decode cc_Gd_reckon 3 = .ok (.istore 4, 2) := by decide +kernel
theorem dd_Gd_reckon_5 : decode cc_Gd_reckon 5 = .ok (.iload 4, 2) := by decide +kernel
theorem dd_Gd_reckon_7 : decode cc_Gd_reckon 7 = .ok (.iload_n 2, 1) := by decide +kernel
theorem dd_Gd_reckon_8 : decode cc_Gd_reckon 8 = .ok (.if_icmp .ge 22, 3) := by decide +kernel
theorem dd_Gd_reckon_11 : decode cc_Gd_reckon 11 = .ok (.aload_n 0, 1) := by decide +kernel
theorem dd_Gd_reckon_12 : decode cc_Gd_reckon 12 = .ok (.iload_n 3, 1) := by decide +kernel
theorem dd_Gd_reckon_13 : decode cc_Gd_reckon 13 = .ok (.iload 4, 2) := by decide +kernel
theorem dd_Gd_reckon_15 : decode cc_Gd_reckon 15 = .ok (.aload_n 1, 1) := by decide +kernel
theorem dd_Gd_reckon_16 : decode cc_Gd_reckon 16 = .ok (.iload 4, 2) := by decide +kernel
theorem dd_Gd_reckon_18 : decode cc_Gd_reckon 18 = .ok (.iaload, 1) := by decide +kernel
theorem dd_Gd_reckon_19 : decode cc_Gd_reckon 19 = .ok (.iload_n 2, 1) := by decide +kernel
theorem dd_Gd_reckon_20 : decode cc_Gd_reckon 20 = .ok (.invokevirtual 32, 3) := by decide +kernel
theorem dd_Gd_reckon_23 : decode cc_Gd_reckon 23 = .ok (.istore_n 3, 1) := by decide +kernel
theorem dd_Gd_reckon_24 : decode cc_Gd_reckon 24 = .ok (.iinc 4 1, 3) := by decide +kernel
theorem dd_Gd_reckon_27 : decode cc_Gd_reckon 27 = .ok (.goto (-22), 3) := by decide +kernel
theorem dd_Gd_reckon_30 : decode cc_Gd_reckon 30 = .ok (.aload_n 0, 1) := by decide +kernel
theorem dd_Gd_reckon_31 : decode cc_Gd_reckon 31 = .ok (.iload_n 3, 1) := by decide +kernel
theorem dd_Gd_reckon_32 : decode cc_Gd_reckon 32 = .ok (.iload_n 2, 1) := by decide +kernel
theorem dd_Gd_reckon_33 : decode cc_Gd_reckon 33 = .ok (.invokevirtual 36, 3) := by decide +kernel
theorem dd_Gd_reckon_36 : decode cc_Gd_reckon 36 = .ok (.ireturn, 1) := by decide +kernel
set_option maxRecDepth 100000 in
set_option maxHeartbeats 4000000 in
theorem ct_Gd_reckon (l : Launch) (E : gf_E) (g a n : Int) (N : Nat) (μ : gf_M) (hg : gf_oGd g) (hG : gf_okG μ g) (ha : gf_is 81 a 1 0 N) (hn : 0 ≤ n ∧ n ≤ 8 ∧ n ≤ (N : Int)) (hF : gf_okF μ a n) : gf_Mi l E yy_Gd_reckon cc_Gd_reckon 5 .int (gf_rm 2 45) 81 gf_ref μ [.ref (gf_ad E g), .ref (gf_ad E a), .int (gf_i n)] (fun r μ' => (r = pf_reck (μ g 0) (μ g 1) (μ g 2) (μ a) n ∧ 0 ≤ r ∧ r ≤ 10) ∧ μ' = μ) := by
  refine gf_mi (by decide +kernel) (Nat.le_of_ble_eq_true rfl) (by decide) (fun X Q hlx C hQ => ?_)
  subst hlx
  replace C : gf_C X E cc_Gd_reckon 5 "GuardFigures$Guard" (gf_rm 2 45) := C
  show gf_G X E Q 5 gf_φ μ 0 [(0, .ref (gf_ad E g)), (1, .ref (gf_ad E a)), (2, .int (gf_i n))] []
  refine gf_iconst C dd_Gd_reckon_0 ?_
  refine gf_istore_n (lv' := [(3, .int (gf_i 0)), (0, .ref (gf_ad E g)), (1, .ref (gf_ad E a)), (2, .int (gf_i n))]) C dd_Gd_reckon_1 (by decide) rfl ?_
  refine gf_iconst C dd_Gd_reckon_2 ?_
  refine gf_istore (lv' := [(4, .int (gf_i 0)), (3, .int (gf_i 0)), (0, .ref (gf_ad E g)), (1, .ref (gf_ad E a)), (2, .int (gf_i n))]) C dd_Gd_reckon_3 (by decide) rfl ?_
  have L5_1 : ∀ (N : Nat) (s i : Int) , (0 ≤ i ∧ i ≤ n ∧ s = pf_rec (μ g 0) (μ g 1) (μ g 2) (μ a) n i.toNat) → (n - i).toNat < N → gf_G X E Q 5 gf_φ μ 5 [(3, .int (gf_i s)), (4, .int (gf_i i)), (0, .ref (gf_ad E g)), (1, .ref (gf_ad E a)), (2, .int (gf_i n))] [] := by
    intro N
    induction N with
    | zero => intro s i hinv hN; exact absurd hN (Nat.not_lt_zero _)
    | succ N ih5_1 =>
      intro s i hinv hN
      have hinv0 := hinv
      obtain ⟨hi0, hi1, hs⟩ := hinv
      have hsR := pf_rec_R (μ g 0) (μ g 1) (μ g 2) (μ a) n i.toNat
      rw [← hs] at hsR
      refine gf_iload C dd_Gd_reckon_5 1 rfl ?_
      refine gf_iload_n C dd_Gd_reckon_7 4 rfl ?_
      refine gf_icmp_ge 30 C dd_Gd_reckon_8 (by decide) (by omega) (by omega) (fun h8 => ?_) (fun h8 => ?_)
      · skip
        refine gf_aload_n C dd_Gd_reckon_30 2 rfl ?_
        refine gf_iload_n C dd_Gd_reckon_31 0 rfl ?_
        refine gf_iload_n C dd_Gd_reckon_32 4 rfl ?_
        refine gf_callVi (st := []) (As := [.int (gf_i s), .int (gf_i n)]) C wk_Gd_36 gf_cl0 hg (ct_Gd_finish (gf_xl X) E g s n μ hg (hG) (by omega) (by omega)) rfl ⟨rfl, rfl, rfl, rfl⟩ (Nat.le_of_ble_eq_true rfl) rfl dd_Gd_reckon_33 (fun r33 m33 hR33 hp33 => ?_)
        have hr33 := hp33.1
        refine gf_pm hp33.2 ?_
        refine gf_iret C hQ dd_Gd_reckon_36 (by omega) ?_
        refine ⟨⟨?_, by omega, by omega⟩, rfl⟩
        rw [hr33.1, hs, show i = n by omega]
        rfl
      · skip
        refine gf_aload_n C dd_Gd_reckon_11 2 rfl ?_
        refine gf_iload_n C dd_Gd_reckon_12 0 rfl ?_
        refine gf_iload C dd_Gd_reckon_13 1 rfl ?_
        refine gf_aload_n C dd_Gd_reckon_15 3 rfl ?_
        refine gf_iload C dd_Gd_reckon_16 1 rfl ?_
        have hfi := hF i (by omega) (by omega)
        refine gf_iald C dd_Gd_reckon_18 ha (by omega) (fun hv18 => ?_)
        refine gf_iload_n C dd_Gd_reckon_19 4 rfl ?_
        refine gf_callVi (st := []) (As := [.int (gf_i s), .int (gf_i i), .int (gf_i (μ a i)), .int (gf_i n)]) C wk_Gd_32 gf_cl0 hg (ct_Gd_follow (gf_xl X) E g s i (μ a i) n μ hg (hG) (by omega) (by omega) (by omega)) rfl ⟨rfl, rfl, rfl, rfl⟩ (Nat.le_of_ble_eq_true rfl) rfl dd_Gd_reckon_20 (fun r20 m20 hR20 hp20 => ?_)
        have hr20 := hp20.1
        refine gf_pm hp20.2 ?_
        refine gf_istore_n (lv' := [(3, .int (gf_i r20)), (4, .int (gf_i i)), (0, .ref (gf_ad E g)), (1, .ref (gf_ad E a)), (2, .int (gf_i n))]) C dd_Gd_reckon_23 (by decide) rfl ?_
        obtain ⟨x24, hx24⟩ : ∃ y : Int, y = i + 1 := ⟨_, rfl⟩
        refine gf_iinc (q := 1) (v := x24) (lv' := [(4, .int (gf_i x24)), (3, .int (gf_i r20)), (0, .ref (gf_ad E g)), (1, .ref (gf_ad E a)), (2, .int (gf_i n))]) C dd_Gd_reckon_24 rfl hx24 (by decide) rfl ?_
        refine gf_goto 5 C dd_Gd_reckon_27 (by decide) ?_
        refine gf_lsub [1, 0, 2, 3, 4] rfl ?_
        exact ih5_1 r20 x24 (by
                refine ⟨by omega, by omega, ?_⟩
                rw [hr20.1, hx24, show (i + 1).toNat = i.toNat + 1 by omega, hs]
                show _ = pf_fol _ _ _ _ ((i.toNat : Nat) : Int) (μ a ((i.toNat : Nat) : Int)) n
                rw [show ((i.toNat : Nat) : Int) = i by omega]) (by omega)
  refine gf_lsub [1, 0, 2, 3, 4] rfl ?_
  exact L5_1 _ 0 0 (⟨by omega, by omega, rfl⟩) (Nat.lt_succ_self _)

theorem dd_Gd_is_0 : decode cc_Gd_is 0 = .ok (.aload_n 0, 1) := by decide +kernel
theorem dd_Gd_is_1 : decode cc_Gd_is 1 = .ok (.getfield 9, 3) := by decide +kernel
theorem dd_Gd_is_4 : decode cc_Gd_is 4 = .ok (.istore_n 2, 1) := by decide +kernel
theorem dd_Gd_is_5 : decode cc_Gd_is 5 = .ok (.iconst 0, 1) := by decide +kernel
theorem dd_Gd_is_6 : decode cc_Gd_is 6 = .ok (.istore_n 3, 1) := by decide +kernel
theorem dd_Gd_is_7 : decode cc_Gd_is 7 = .ok (.iload_n 3, 1) := by decide +kernel
theorem dd_Gd_is_8 : decode cc_Gd_is 8 = .ok (.bipush 6, 2) := by decide +kernel
theorem dd_Gd_is_10 : decode cc_Gd_is 10 = .ok (.if_icmp .ge 26, 3) := by decide +kernel
theorem dd_Gd_is_13 : decode cc_Gd_is 13 = .ok (.iload_n 2, 1) := by decide +kernel
theorem dd_Gd_is_14 : decode cc_Gd_is 14 = .ok (.ifCond .lt 22, 3) := by decide +kernel
theorem dd_Gd_is_17 : decode cc_Gd_is 17 = .ok (.iload_n 2, 1) := by decide +kernel
theorem dd_Gd_is_18 : decode cc_Gd_is 18 = .ok (.iload_n 1, 1) := by decide +kernel
theorem dd_Gd_is_19 : decode cc_Gd_is 19 = .ok (.if_icmp .ne 5, 3) := by decide +kernel
theorem dd_Gd_is_22 : decode cc_Gd_is 22 = .ok (.iconst 1, 1) := by decide +kernel
theorem dd_Gd_is_23 : decode cc_Gd_is 23 = .ok (.ireturn, 1) := by decide +kernel
theorem dd_Gd_is_24 : decode cc_Gd_is 24 = .ok (.getstatic 21, 3) := by decide +kernel
theorem dd_Gd_is_27 : decode cc_Gd_is 27 = .ok (.iload_n 2, 1) := by decide +kernel
theorem dd_Gd_is_28 : decode cc_Gd_is 28 = .ok (.iaload, 1) := by decide +kernel
theorem dd_Gd_is_29 : decode cc_Gd_is 29 = .ok (.istore_n 2, 1) := by decide +kernel
theorem dd_Gd_is_30 : decode cc_Gd_is 30 = .ok (.iinc 3 1, 3) := by decide +kernel
theorem dd_Gd_is_33 : decode cc_Gd_is 33 = .ok (.goto (-26), 3) := by decide +kernel
theorem dd_Gd_is_36 : decode cc_Gd_is 36 = .ok (.iconst 0, 1) := by decide +kernel
theorem dd_Gd_is_37 : decode cc_Gd_is 37 = .ok (.ireturn, 1) := by decide +kernel
set_option maxRecDepth 100000 in
set_option maxHeartbeats 4000000 in
theorem ct_Gd_is (l : Launch) (E : gf_E) (g w : Int) (μ : gf_M) (hg : gf_oGd g) (hG : gf_okG μ g) (hw : 0 ≤ w ∧ w ≤ 5) : gf_Mi l E yy_Gd_is cc_Gd_is 4 .boolean (gf_rm 0 0) 81 gf_ref μ [.ref (gf_ad E g), .int (gf_i w)] (fun r μ' => ((pf_is (μ g 0) w → r = 1) ∧ (¬ pf_is (μ g 0) w → r = 0)) ∧ μ' = μ) := by
  refine gf_mi (by decide +kernel) (Nat.le_of_ble_eq_true rfl) (by decide) (fun X Q hlx C hQ => ?_)
  subst hlx
  replace C : gf_C X E cc_Gd_is 4 "GuardFigures$Guard" (gf_rm 0 0) := C
  show gf_G X E Q 4 gf_φ μ 0 [(0, .ref (gf_ad E g)), (1, .int (gf_i w))] []
  obtain ⟨hk0, hk1, hk2⟩ := hG
  refine gf_aload_n C dd_Gd_is_0 0 rfl ?_
  refine gf_getI (z := 0) C gf_cl0 fl_Gd_9 dd_Gd_is_1 rfl rfl hg (fun hv1 => ?_)
  refine gf_nm (fun x4 hx4 => ?_)
  refine gf_istore_n (lv' := [(2, .int (gf_i x4)), (0, .ref (gf_ad E g)), (1, .int (gf_i w))]) C dd_Gd_is_4 (by decide) rfl ?_
  refine gf_iconst C dd_Gd_is_5 ?_
  refine gf_istore_n (lv' := [(3, .int (gf_i 0)), (2, .int (gf_i x4)), (0, .ref (gf_ad E g)), (1, .int (gf_i w))]) C dd_Gd_is_6 (by decide) rfl ?_
  have L7_1 : ∀ (N : Nat) (o u : Int) , (0 ≤ u ∧ ((o = -1 ∧ u ≤ 3) ∨ (o = 0 ∧ u ≤ 2) ∨ (1 ≤ o ∧ o ≤ 3 ∧ u ≤ 1) ∨ (4 ≤ o ∧ o ≤ 5 ∧ u ≤ 0)) ∧ (pf_is (μ g 0) w ↔ pf_is o w)) → (6 - u).toNat < N → gf_G X E Q 4 gf_φ μ 7 [(2, .int (gf_i o)), (3, .int (gf_i u)), (0, .ref (gf_ad E g)), (1, .int (gf_i w))] [] := by
    intro N
    induction N with
    | zero => intro o u hinv hN; exact absurd hN (Nat.not_lt_zero _)
    | succ N ih7_1 =>
      intro o u hinv hN
      have hinv0 := hinv
      obtain ⟨hu0, hu1, hu2⟩ := hinv
      refine gf_iload_n C dd_Gd_is_7 1 rfl ?_
      refine gf_bipush C dd_Gd_is_8 (by decide +kernel) ?_
      refine gf_icmp_ge 36 C dd_Gd_is_10 (by decide) (by omega) (by omega) (fun h10 => ?_) (fun h10 => ?_)
      · skip
        refine gf_iconst C dd_Gd_is_36 ?_
        refine gf_zret C hQ dd_Gd_is_37 (by omega) ?_
        refine ⟨⟨fun h => ?_, fun _ => rfl⟩, rfl⟩
        exact absurd (hu2.mp h) (by unfold pf_is; omega)
      · skip
        refine gf_iload_n C dd_Gd_is_13 0 rfl ?_
        refine gf_if_lt 36 C dd_Gd_is_14 (by decide) (by omega) (fun h14 => ?_) (fun h14 => ?_)
        · skip
          refine gf_iconst C dd_Gd_is_36 ?_
          refine gf_zret C hQ dd_Gd_is_37 (by omega) ?_
          refine ⟨⟨fun h => ?_, fun _ => rfl⟩, rfl⟩
          exact absurd (hu2.mp h) (by unfold pf_is; omega)
        · skip
          refine gf_iload_n C dd_Gd_is_17 0 rfl ?_
          refine gf_iload_n C dd_Gd_is_18 3 rfl ?_
          refine gf_icmp_ne 24 C dd_Gd_is_19 (by decide) (by omega) (by omega) (fun h19 => ?_) (fun h19 => ?_)
          · skip
            refine gf_getsA C dd_Gd_is_24 ?_
            have hab := pf_above (x := o) (by omega)
            refine gf_iload_n C dd_Gd_is_27 0 rfl ?_
            refine gf_tldA C dd_Gd_is_28 (by omega) ?_
            refine gf_nm (fun x29 hx29 => ?_)
            refine gf_istore_n (lv' := [(2, .int (gf_i x29)), (3, .int (gf_i u)), (0, .ref (gf_ad E g)), (1, .int (gf_i w))]) C dd_Gd_is_29 (by decide) rfl ?_
            obtain ⟨x30, hx30⟩ : ∃ y : Int, y = u + 1 := ⟨_, rfl⟩
            refine gf_iinc (q := 1) (v := x30) (lv' := [(3, .int (gf_i x30)), (2, .int (gf_i x29)), (0, .ref (gf_ad E g)), (1, .int (gf_i w))]) C dd_Gd_is_30 rfl hx30 (by decide) rfl ?_
            refine gf_goto 7 C dd_Gd_is_33 (by decide) ?_
            refine gf_lsub [1, 0, 2, 3] rfl ?_
            exact ih7_1 x29 x30 (by
                    refine ⟨by omega, ?_, hu2.trans ?_⟩
                    · omega
                    · unfold pf_is; omega) (by omega)
          · skip
            refine gf_iconst C dd_Gd_is_22 ?_
            refine gf_zret C hQ dd_Gd_is_23 (by omega) ?_
            refine ⟨⟨fun _ => rfl, fun h => absurd (hu2.mpr ?_) h⟩, rfl⟩
            unfold pf_is; omega
  refine gf_lsub [1, 0, 2, 3] rfl ?_
  exact L7_1 _ x4 0 (⟨by omega, by omega, by rw [hx4]⟩) (Nat.lt_succ_self _)

theorem dd_Gd_resemble_0 : decode cc_Gd_resemble 0 = .ok (.aload_n 0, 1) := by decide +kernel
theorem dd_Gd_resemble_1 : decode cc_Gd_resemble 1 = .ok (.aload_n 1, 1) := by decide +kernel
theorem dd_Gd_resemble_2 : decode cc_Gd_resemble 2 = .ok (.getfield 9, 3) := by decide +kernel
theorem dd_Gd_resemble_5 : decode cc_Gd_resemble 5 = .ok (.putfield 9, 3) := by decide +kernel
theorem dd_Gd_resemble_8 : decode cc_Gd_resemble 8 = .ok (.aload_n 0, 1) := by decide +kernel
theorem dd_Gd_resemble_9 : decode cc_Gd_resemble 9 = .ok (.aload_n 1, 1) := by decide +kernel
theorem dd_Gd_resemble_10 : decode cc_Gd_resemble 10 = .ok (.getfield 15, 3) := by decide +kernel
theorem dd_Gd_resemble_13 : decode cc_Gd_resemble 13 = .ok (.putfield 15, 3) := by decide +kernel
theorem dd_Gd_resemble_16 : decode cc_Gd_resemble 16 = .ok (.aload_n 0, 1) := by decide +kernel
theorem dd_Gd_resemble_17 : decode cc_Gd_resemble 17 = .ok (.aload_n 1, 1) := by decide +kernel
theorem dd_Gd_resemble_18 : decode cc_Gd_resemble 18 = .ok (.getfield 18, 3) := by decide +kernel
theorem dd_Gd_resemble_21 : decode cc_Gd_resemble 21 = .ok (.putfield 18, 3) := by decide +kernel
theorem dd_Gd_resemble_24 : decode cc_Gd_resemble 24 = .ok (.return_, 1) := by decide +kernel
set_option maxRecDepth 100000 in
set_option maxHeartbeats 4000000 in
theorem ct_Gd_resemble (l : Launch) (E : gf_E) (g h : Int) (μ : gf_M) (hg : gf_oGd g) (hh : gf_oGd h) : gf_Mv l E yy_Gd_resemble cc_Gd_resemble 2 (gf_rm 0 0) 81 gf_ref 0 0 81 gf_ref μ [.ref (gf_ad E g), .ref (gf_ad E h)] (fun μ' => μ' = gf_up (gf_up (gf_up μ g 0 (μ h 0)) g 1 (μ h 1)) g 2 (μ h 2)) := by
  refine gf_mv (by decide +kernel) (Nat.le_of_ble_eq_true rfl) (by decide) (fun X Q hlx C hname hQ => ?_)
  subst hlx
  replace C : gf_C X E cc_Gd_resemble 2 "GuardFigures$Guard" (gf_rm 0 0) := C
  show gf_G X E Q 2 gf_φ μ 0 [(0, .ref (gf_ad E g)), (1, .ref (gf_ad E h))] []
  refine gf_aload_n C dd_Gd_resemble_0 0 rfl ?_
  refine gf_aload_n C dd_Gd_resemble_1 1 rfl ?_
  refine gf_getI (z := 0) C gf_cl0 fl_Gd_9 dd_Gd_resemble_2 rfl rfl hh (fun hv2 => ?_)
  refine gf_putI (z := 0) C gf_cl0 fl_Gd_9 dd_Gd_resemble_5 rfl rfl rfl (by decide +kernel) hg (by omega) ?_
  refine gf_nmM (fun m5 hm5 => ?_)
  refine gf_aload_n C dd_Gd_resemble_8 0 rfl ?_
  refine gf_aload_n C dd_Gd_resemble_9 1 rfl ?_
  refine gf_getI (z := 1) C gf_cl0 fl_Gd_15 dd_Gd_resemble_10 rfl rfl hh (fun hv10 => ?_)
  refine gf_putI (z := 1) C gf_cl0 fl_Gd_15 dd_Gd_resemble_13 rfl rfl rfl (by decide +kernel) hg (by omega) ?_
  refine gf_nmM (fun m13 hm13 => ?_)
  refine gf_aload_n C dd_Gd_resemble_16 0 rfl ?_
  refine gf_aload_n C dd_Gd_resemble_17 1 rfl ?_
  refine gf_getI (z := 2) C gf_cl0 fl_Gd_18 dd_Gd_resemble_18 rfl rfl hh (fun hv18 => ?_)
  refine gf_putI (z := 2) C gf_cl0 fl_Gd_18 dd_Gd_resemble_21 rfl rfl rfl (by decide +kernel) hg (by omega) ?_
  refine gf_nmM (fun m21 hm21 => ?_)
  refine gf_vret C hQ dd_Gd_resemble_24 ?_
  have e1 : m5 h 1 = μ h 1 := by rw [hm5]; exact gf_up_j (by decide)
  have e2 : m13 h 2 = μ h 2 := by rw [hm13, gf_up_j (by decide), hm5]; exact gf_up_j (by decide)
  rw [hm21, e2, hm13, e1, hm5]
