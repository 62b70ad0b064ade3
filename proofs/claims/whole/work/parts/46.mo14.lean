/-! the reference: the figure to ask with -/
def gm_U (μ : gf_M) (i some f : Int) : Int := gm_mxc some (fun kd => pf_reck kd (μ 71 (10 + i)) (μ 71 (17 + i)) (pf_apd (gm_x μ) (μ 71 1) f) (μ 71 1 + 1)) 11
theorem gm_U_of {μ m : gf_M} {i some f : Int} (q : ∀ b : Int, m 71 b = μ 71 b) (h15 : m 65 15 = μ 71 1) (hf : ∀ j : Int, 0 ≤ j → j < μ 71 1 → m 73 j = μ 71 (24 + j)) : gm_mxc some (fun kd => pf_reck kd (m 71 (10 + i)) (m 71 (17 + i)) (pf_apd (m 73) (m 65 15) f) (m 65 15 + 1)) 11 = gm_U μ i some f := by
  unfold gm_U
  rw [q, q, h15]
  congr 1
  funext kd
  refine pf_reck_congr (fun j h0 h1 => ?_)
  unfold pf_apd
  by_cases e : j = μ 71 1
  · rw [if_pos e, if_pos e]
  · rw [if_neg e, if_neg e]; exact hf j h0 (by omega)
theorem dd_Mo_test_0 : decode cc_Mo_test 0 = .ok (.aload_n 0, 1) := by decide +kernel
theorem dd_Mo_test_1 : decode cc_Mo_test 1 = .ok (.iload_n 1, 1) := by decide +kernel
theorem dd_Mo_test_2 : decode cc_Mo_test 2 = .ok (.invokevirtual 183, 3) := by decide +kernel
theorem dd_Mo_test_5 : decode cc_Mo_test 5 = .ok (.ifCond .eq 10, 3) := by decide +kernel
theorem dd_Mo_test_8 : decode cc_Mo_test 8 = .ok (.iload_n 2, 1) := by decide +kernel
theorem dd_Mo_test_9 : decode cc_Mo_test 9 = .ok (.invokestatic 73, 3) := by decide +kernel
theorem dd_Mo_test_12 : decode cc_Mo_test 12 = .ok (.ifCond .ne 5, 3) := by decide +kernel
theorem dd_Mo_test_15 : decode cc_Mo_test 15 = .ok (.iconst (-1), 1) := by decide +kernel
theorem dd_Mo_test_16 : decode cc_Mo_test 16 = .ok (.ireturn, 1) := by decide +kernel
theorem dd_Mo_test_17 : decode cc_Mo_test 17 = .ok (.aload_n 0, 1) := by decide +kernel
theorem dd_Mo_test_18 : decode cc_Mo_test 18 = .ok (.getfield 30, 3) := by decide +kernel
theorem dd_Mo_test_21 : decode cc_Mo_test 21 = .ok (.iconst 1, 1) := by decide +kernel
theorem dd_Mo_test_22 : decode cc_Mo_test 22 = .ok (.iaload, 1) := by decide +kernel
theorem dd_Mo_test_23 : decode cc_Mo_test 23 = .ok (.bipush 8, 2) := by decide +kernel
theorem dd_Mo_test_25 : decode cc_Mo_test 25 = .ok (.if_icmp .ne 6, 3) := by decide +kernel
theorem dd_Mo_test_28 : decode cc_Mo_test 28 = .ok (.bipush (-4), 2) := by decide +kernel
theorem dd_Mo_test_30 : decode cc_Mo_test 30 = .ok (.ireturn, 1) := by decide +kernel
theorem dd_Mo_test_31 : decode cc_Mo_test 31 = .ok (.aload_n 0, 1) := by decide +kernel
theorem dd_Mo_test_32 : decode cc_Mo_test 32 = .ok (.iload_n 2, 1) := by decide +kernel
theorem dd_Mo_test_33 : decode cc_Mo_test 33 = .ok (.invokevirtual 244, 3) := by decide +kernel
theorem dd_Mo_test_36 : decode cc_Mo_test 36 = .ok (.istore_n 3, 1) := by decide +kernel
theorem dd_Mo_test_37 : decode cc_Mo_test 37 = .ok (.iload_n 3, 1) := by decide +kernel
theorem dd_Mo_test_38 : decode cc_Mo_test 38 = .ok (.ifCond .ge 7, 3) := by decide +kernel
theorem dd_Mo_test_41 : decode cc_Mo_test 41 = .ok (.iconst 0, 1) := by decide +kernel
theorem dd_Mo_test_42 : decode cc_Mo_test 42 = .ok (.goto 9, 3) := by decide +kernel
theorem dd_Mo_test_45 : decode cc_Mo_test 45 = .ok (.aload_n 0, 1) := by decide +kernel
theorem dd_Mo_test_46 : decode cc_Mo_test 46 = .ok (.iload_n 1, 1) := by decide +kernel
theorem dd_Mo_test_47 : decode cc_Mo_test 47 = .ok (.iload_n 2, 1) := by decide +kernel
theorem dd_Mo_test_48 : decode cc_Mo_test 48 = .ok (.invokevirtual 247, 3) := by decide +kernel
theorem dd_Mo_test_51 : decode cc_Mo_test 51 = .ok (.istore 4, 2) := by decide +kernel
theorem dd_Mo_test_53 : decode cc_Mo_test 53 = .ok (.iload 4, 2) := by decide +kernel
theorem dd_Mo_test_55 : decode cc_Mo_test 55 = .ok (.ifCond .ne 14, 3) := by decide +kernel
theorem dd_Mo_test_58 : decode cc_Mo_test 58 = .ok (.iload_n 3, 1) := by decide +kernel
theorem dd_Mo_test_59 : decode cc_Mo_test 59 = .ok (.ifCond .ge 7, 3) := by decide +kernel
theorem dd_Mo_test_62 : decode cc_Mo_test 62 = .ok (.iload_n 3, 1) := by decide +kernel
theorem dd_Mo_test_63 : decode cc_Mo_test 63 = .ok (.goto 5, 3) := by decide +kernel
theorem dd_Mo_test_66 : decode cc_Mo_test 66 = .ok (.bipush (-9), 2) := by decide +kernel
theorem dd_Mo_test_68 : decode cc_Mo_test 68 = .ok (.ireturn, 1) := by decide +kernel
theorem dd_Mo_test_69 : decode cc_Mo_test 69 = .ok (.aload_n 0, 1) := by decide +kernel
theorem dd_Mo_test_70 : decode cc_Mo_test 70 = .ok (.invokevirtual 149, 3) := by decide +kernel
theorem dd_Mo_test_73 : decode cc_Mo_test 73 = .ok (.iconst 0, 1) := by decide +kernel
theorem dd_Mo_test_74 : decode cc_Mo_test 74 = .ok (.istore 5, 2) := by decide +kernel
theorem dd_Mo_test_76 : decode cc_Mo_test 76 = .ok (.aload_n 0, 1) := by decide +kernel
theorem dd_Mo_test_77 : decode cc_Mo_test 77 = .ok (.iload_n 1, 1) := by decide +kernel
theorem dd_Mo_test_78 : decode cc_Mo_test 78 = .ok (.iconst 0, 1) := by decide +kernel
theorem dd_Mo_test_79 : decode cc_Mo_test 79 = .ok (.iload 4, 2) := by decide +kernel
theorem dd_Mo_test_81 : decode cc_Mo_test 81 = .ok (.invokevirtual 250, 3) := by decide +kernel
theorem dd_Mo_test_84 : decode cc_Mo_test 84 = .ok (.istore 6, 2) := by decide +kernel
theorem dd_Mo_test_86 : decode cc_Mo_test 86 = .ok (.iconst 1, 1) := by decide +kernel
theorem dd_Mo_test_87 : decode cc_Mo_test 87 = .ok (.istore 7, 2) := by decide +kernel
theorem dd_Mo_test_89 : decode cc_Mo_test 89 = .ok (.iload 7, 2) := by decide +kernel
theorem dd_Mo_test_91 : decode cc_Mo_test 91 = .ok (.bipush 10, 2) := by decide +kernel
theorem dd_Mo_test_93 : decode cc_Mo_test 93 = .ok (.if_icmp .ge 52, 3) := by decide +kernel
theorem dd_Mo_test_96 : decode cc_Mo_test 96 = .ok (.aload_n 0, 1) := by decide +kernel
theorem dd_Mo_test_97 : decode cc_Mo_test 97 = .ok (.iload_n 1, 1) := by decide +kernel
theorem dd_Mo_test_98 : decode cc_Mo_test 98 = .ok (.iload 7, 2) := by decide +kernel
theorem dd_Mo_test_100 : decode cc_Mo_test 100 = .ok (.iload 4, 2) := by decide +kernel
theorem dd_Mo_test_102 : decode cc_Mo_test 102 = .ok (.invokevirtual 250, 3) := by decide +kernel
theorem dd_Mo_test_105 : decode cc_Mo_test 105 = .ok (.istore 8, 2) := by decide +kernel
theorem dd_Mo_test_107 : decode cc_Mo_test 107 = .ok (.iload 8, 2) := by decide +kernel
theorem dd_Mo_test_109 : decode cc_Mo_test 109 = .ok (.iload 6, 2) := by decide +kernel
theorem dd_Mo_test_111 : decode cc_Mo_test 111 = .ok (.if_icmp .ge 8, 3) := by decide +kernel
theorem dd_Mo_test_114 : decode cc_Mo_test 114 = .ok (.iload 7, 2) := by decide +kernel
theorem dd_Mo_test_116 : decode cc_Mo_test 116 = .ok (.goto 5, 3) := by decide +kernel
theorem dd_Mo_test_119 : decode cc_Mo_test 119 = .ok (.iload 5, 2) := by decide +kernel
theorem dd_Mo_test_121 : decode cc_Mo_test 121 = .ok (.istore 5, 2) := by decide +kernel
theorem dd_Mo_test_123 : decode cc_Mo_test 123 = .ok (.iload 8, 2) := by decide +kernel
theorem dd_Mo_test_125 : decode cc_Mo_test 125 = .ok (.iload 6, 2) := by decide +kernel
theorem dd_Mo_test_127 : decode cc_Mo_test 127 = .ok (.if_icmp .ge 8, 3) := by decide +kernel
theorem dd_Mo_test_130 : decode cc_Mo_test 130 = .ok (.iload 8, 2) := by decide +kernel
theorem dd_Mo_test_132 : decode cc_Mo_test 132 = .ok (.goto 5, 3) := by decide +kernel
theorem dd_Mo_test_135 : decode cc_Mo_test 135 = .ok (.iload 6, 2) := by decide +kernel
theorem dd_Mo_test_137 : decode cc_Mo_test 137 = .ok (.istore 6, 2) := by decide +kernel
theorem dd_Mo_test_139 : decode cc_Mo_test 139 = .ok (.iinc 7 1, 3) := by decide +kernel
theorem dd_Mo_test_142 : decode cc_Mo_test 142 = .ok (.goto (-53), 3) := by decide +kernel
theorem dd_Mo_test_145 : decode cc_Mo_test 145 = .ok (.aload_n 0, 1) := by decide +kernel
theorem dd_Mo_test_146 : decode cc_Mo_test 146 = .ok (.iload 6, 2) := by decide +kernel
theorem dd_Mo_test_148 : decode cc_Mo_test 148 = .ok (.putfield 64, 3) := by decide +kernel
theorem dd_Mo_test_151 : decode cc_Mo_test 151 = .ok (.iload 5, 2) := by decide +kernel
theorem dd_Mo_test_153 : decode cc_Mo_test 153 = .ok (.ireturn, 1) := by decide +kernel
set_option maxRecDepth 100000 in
set_option maxHeartbeats 4000000 in
theorem ct_Mo_test (l : Launch) (E : gf_E) (i r : Int) (μ : gf_M) (hi : gf_R i) (hr : gf_R r) (hok : gm_ok μ) (hrs : ∀ r : Int, 0 ≤ r → r < 6 → -1 ≤ μ 66 r ∧ μ 66 r ≤ 40)  : gf_Mi l E yy_Mo_test cc_Mo_test 9 .int (gf_rm 4 104) 81 gf_ref μ [.ref (gf_ad E 65), .int (gf_i i), .int (gf_i r)] (fun q μ' => (¬ (0 ≤ i ∧ i < μ 71 0 ∧ 0 ≤ r ∧ r < 6) → q = -1 ∧ μ' = μ) ∧ (0 ≤ i ∧ i < μ 71 0 ∧ 0 ≤ r ∧ r < 6 → (μ 71 1 = 8 → q = -4 ∧ μ' = μ) ∧ (μ 71 1 < 8 → (μ 66 r = -1 → q = -3 ∧ μ' = gm_fd μ 1) ∧ (μ 66 r ≠ -1 → (¬ (2 ≤ μ 66 r ∧ μ 66 r ≤ 9) → q = -3 ∧ μ' = gm_fd μ 5) ∧ (2 ≤ μ 66 r ∧ μ 66 r ≤ 9 → (¬ pf_eok (gm_row μ r) (μ 66 r) → q = -3 ∧ gm_sc μ' (gm_fd μ 3)) ∧ (pf_eok (gm_row μ r) (μ 66 r) → (pf_ksB (μ 71 (10 + i)) (μ 71 (17 + i)) (gm_row μ r) (μ 66 r) = 0 → q = -9 ∧ gm_sc μ' μ) ∧ (pf_ksB (μ 71 (10 + i)) (μ 71 (17 + i)) (gm_row μ r) (μ 66 r) ≠ 0 → q = (pf_fst (gm_U μ i (pf_ksB (μ 71 (10 + i)) (μ 71 (17 + i)) (gm_row μ r) (μ 66 r))) 9).1 ∧ gm_sc μ' (gm_tl μ (pf_fst (gm_U μ i (pf_ksB (μ 71 (10 + i)) (μ 71 (17 + i)) (gm_row μ r) (μ 66 r))) 9).2)))))))) := by
  refine gf_mi (by decide +kernel) (Nat.le_of_ble_eq_true rfl) (by decide) (fun X Q hlx C hQ => ?_)
  subst hlx
  replace C : gf_C X E cc_Mo_test 9 "GuardFiguresModel" (gf_rm 4 104) := C
  show gf_G X E Q 9 gf_φ μ 0 [(0, .ref (gf_ad E 65)), (1, .int (gf_i i)), (2, .int (gf_i r))] []
  obtain ⟨hc, hgs, hn, hx, hd⟩ := id hok
  refine gf_aload_n C dd_Mo_test_0 0 rfl ?_
  refine gf_iload_n C dd_Mo_test_1 1 rfl ?_
  refine gf_callVi (st := []) (As := [.int (gf_i i)]) C wk_Mo_183 gf_cl7 (show gf_is 81 65 0 7 26 by decide) (ct_Mo_isGuard (gf_xl X) E i μ (by omega) (by omega)) rfl ⟨rfl, rfl, rfl, rfl⟩ (Nat.le_of_ble_eq_true rfl) rfl dd_Mo_test_2 (fun r2 m2 hR2 hp2 => ?_)
  have hr2 := hp2.1
  refine gf_pm hp2.2 ?_
  refine gf_if_eq 15 C dd_Mo_test_5 (by decide) (by omega) (fun h5 => ?_) (fun h5 => ?_)
  · skip
    refine gf_iconst C dd_Mo_test_15 ?_
    refine gf_iret C hQ dd_Mo_test_16 (by omega) ?_
    exact ⟨fun _ => ⟨rfl, rfl⟩, fun h => absurd h (by omega)⟩
  · skip
    refine gf_iload_n C dd_Mo_test_8 2 rfl ?_
    refine gf_callSi (st := []) (As := [.int (gf_i r)]) C wk_Mo_73 (ct_Mo_isRow (gf_xl X) E r μ (by omega)) rfl ⟨rfl, rfl, rfl, rfl⟩ (Nat.le_of_ble_eq_true rfl) rfl dd_Mo_test_9 (fun r9 m9 hR9 hp9 => ?_)
    have hr9 := hp9.1
    refine gf_pm hp9.2 ?_
    refine gf_if_ne 17 C dd_Mo_test_12 (by decide) (by omega) (fun h12 => ?_) (fun h12 => ?_)
    · skip
      have hin : 0 ≤ i ∧ i < μ 71 0 := by omega
      have hin2 : 0 ≤ r ∧ r < 6 := by omega
      clear hr2 hr9 hp2 hp9
      have hg := gm_ok_g hok hin
      have hg0 := hg.1
      have hrr := hrs r hin2.1 hin2.2
      refine gf_aload_n C dd_Mo_test_17 0 rfl ?_
      refine gf_getA (r := 71) C gf_cl7 fl_Mo_30 dd_Mo_test_18 rfl (show gf_is 81 65 0 7 26 by decide) (by decide) (by decide) ?_
      refine gf_iconst C dd_Mo_test_21 ?_
      refine gf_iald C dd_Mo_test_22 (show gf_is 81 71 1 0 392 by decide) (by omega) (fun hv22 => ?_)
      refine gf_bipush C dd_Mo_test_23 (by decide +kernel) ?_
      refine gf_icmp_ne 31 C dd_Mo_test_25 (by decide) (by omega) (by omega) (fun h25 => ?_) (fun h25 => ?_)
      · skip
        refine gf_aload_n C dd_Mo_test_31 0 rfl ?_
        refine gf_iload_n C dd_Mo_test_32 2 rfl ?_
        refine gf_callVi (st := []) (As := [.int (gf_i r)]) C wk_Mo_244 gf_cl7 (show gf_is 81 65 0 7 26 by decide) (ct_Mo_lacksTold (gf_xl X) E r μ (by omega) (hrs)) rfl ⟨rfl, rfl, rfl, rfl⟩ (Nat.le_of_ble_eq_true rfl) rfl dd_Mo_test_33 (fun r33 m33 hR33 hp33 => ?_)
        refine gf_istore_n (lv' := [(3, .int (gf_i r33)), (0, .ref (gf_ad E 65)), (1, .int (gf_i i)), (2, .int (gf_i r))]) C dd_Mo_test_36 (by decide) rfl ?_
        refine gf_iload_n C dd_Mo_test_37 0 rfl ?_
        refine gf_if_ge 45 C dd_Mo_test_38 (by decide) (by omega) (fun h38 => ?_) (fun h38 => ?_)
        · skip
          have hlk := hp33
          have hth : μ 66 r ≠ -1 := fun h => by have := (hlk.1 h).1; omega
          have hl2 := hlk.2 hth
          have hnn : 2 ≤ μ 66 r ∧ μ 66 r ≤ 9 := by
            rcases Classical.em (2 ≤ μ 66 r ∧ μ 66 r ≤ 9) with h | h
            · exact h
            · have := (hl2.1 h).1; omega
          have hl3 := hl2.2 hnn
          have heo : pf_eok (gm_row μ r) (μ 66 r) := by
            rcases Classical.em (pf_eok (gm_row μ r) (μ 66 r)) with h | h
            · exact h
            · have := (hl3.1 h).1; omega
          obtain ⟨-, f78, o78⟩ := hl3.2 heo
          clear hlk hl2 hl3 hp33
          have q71 : ∀ b : Int, m33 71 b = μ 71 b := fun b => o78 71 b (by decide)
          have q66 : ∀ b : Int, m33 66 b = μ 66 b := fun b => o78 66 b (by decide)
          have q66r := q66 r
          have he78 : pf_eok (m33 78) (m33 66 r) := by rw [q66]; exact pf_eok_congr (by omega) f78 heo
          refine gf_aload_n C dd_Mo_test_45 1 rfl ?_
          refine gf_iload_n C dd_Mo_test_46 2 rfl ?_
          refine gf_iload_n C dd_Mo_test_47 3 rfl ?_
          refine gf_callVi (st := []) (As := [.int (gf_i i), .int (gf_i r)]) C wk_Mo_247 gf_cl7 (show gf_is 81 65 0 7 26 by decide) (ct_Mo_kindSet (gf_xl X) E i r m33 (gm_okg_f hg q71) hin2 (by omega) he78) rfl ⟨rfl, rfl, rfl, rfl⟩ (Nat.le_of_ble_eq_true rfl) rfl dd_Mo_test_48 (fun r48 m48 hR48 hp48 => ?_)
          have hr48 := hp48.1
          refine gf_pm hp48.2 ?_
          refine gf_istore (lv' := [(4, .int (gf_i r48)), (3, .int (gf_i r33)), (0, .ref (gf_ad E 65)), (1, .int (gf_i i)), (2, .int (gf_i r))]) C dd_Mo_test_51 (by decide) rfl ?_
          refine gf_iload C dd_Mo_test_53 0 rfl ?_
          refine gf_if_ne 69 C dd_Mo_test_55 (by decide) (by omega) (fun h55 => ?_) (fun h55 => ?_)
          · skip
            have hks : r48 = pf_ksB (μ 71 (10 + i)) (μ 71 (17 + i)) (gm_row μ r) (μ 66 r) := by
              rw [hr48.1, q71, q71, q66]
              exact pf_ksB_congr (by omega) f78
            have hkR := hr48.2
            clear hr48 hp48
            refine gf_aload_n C dd_Mo_test_69 2 rfl ?_
            refine gf_callVv (st := []) (As := []) C wk_Mo_149 gf_cl7 (show gf_is 81 65 0 7 26 by decide) (ct_Mo_write (gf_xl X) E m33 (by rw [q71]; exact hn)) rfl ⟨rfl, rfl, rfl, rfl⟩ (Nat.le_of_ble_eq_true rfl) rfl dd_Mo_test_70 (fun m70 hp70 => ?_)
            obtain ⟨hw15, hw73, hwf⟩ := hp70
            have w15 : m70 65 15 = μ 71 1 := by rw [hw15]; exact q71 1
            have w71 : ∀ b : Int, m70 71 b = μ 71 b := fun b => by rw [hwf 71 b (by omega) (by omega)]; exact q71 b
            have w73 : ∀ j : Int, 0 ≤ j → j < μ 71 1 → m70 73 j = μ 71 (24 + j) := fun j h0 h1 => by rw [hw73 j h0 (by omega)]; exact q71 _
            have wsc : gm_sc m70 μ := fun a b hab => by
              unfold gm_scr at hab
              rw [hwf a b (by omega) (by omega), o78 a b (by omega)]
            refine gf_iconst C dd_Mo_test_73 ?_
            refine gf_istore (lv' := [(5, .int (gf_i 0)), (4, .int (gf_i r48)), (3, .int (gf_i r33)), (0, .ref (gf_ad E 65)), (1, .int (gf_i i)), (2, .int (gf_i r))]) C dd_Mo_test_74 (by decide) rfl ?_
            refine gf_aload_n C dd_Mo_test_76 3 rfl ?_
            refine gf_iload_n C dd_Mo_test_77 4 rfl ?_
            refine gf_iconst C dd_Mo_test_78 ?_
            refine gf_iload C dd_Mo_test_79 1 rfl ?_
            refine gf_callVi (st := []) (As := [.int (gf_i i), .int (gf_i 0), .int (gf_i r48)]) C wk_Mo_250 gf_cl7 (show gf_is 81 65 0 7 26 by decide) (ct_Mo_partBy (gf_xl X) E i 0 r48 m70 (gm_okg_f hg w71) (by decide) (by omega) (by omega) (by rw [w15]; intro j h0 h1; rw [w73 j h0 h1]; exact hx j h0 h1)) rfl ⟨rfl, rfl, rfl, rfl⟩ (Nat.le_of_ble_eq_true rfl) rfl dd_Mo_test_81 (fun r81 m81 hR81 hp81 => ?_)
            obtain ⟨hr81, hm81⟩ := hp81
            refine gf_istore (lv' := [(6, .int (gf_i r81)), (5, .int (gf_i 0)), (4, .int (gf_i r48)), (3, .int (gf_i r33)), (0, .ref (gf_ad E 65)), (1, .int (gf_i i)), (2, .int (gf_i r))]) C dd_Mo_test_84 (by decide) rfl ?_
            refine gf_iconst C dd_Mo_test_86 ?_
            refine gf_istore (lv' := [(7, .int (gf_i 1)), (6, .int (gf_i r81)), (5, .int (gf_i 0)), (4, .int (gf_i r48)), (3, .int (gf_i r33)), (0, .ref (gf_ad E 65)), (1, .int (gf_i i)), (2, .int (gf_i r))]) C dd_Mo_test_87 (by decide) rfl ?_
            have L89_1 : ∀ (N : Nat) (b z f : Int) (m : gf_M) , (1 ≤ f ∧ f ≤ 10 ∧ b = (pf_fst (gm_U μ i r48) (f - 1).toNat).1 ∧ z = (pf_fst (gm_U μ i r48) (f - 1).toNat).2 ∧ (0 ≤ z ∧ z ≤ 6) ∧ (0 ≤ b ∧ b ≤ 9) ∧ (∀ j : Int, 0 ≤ j → j < μ 71 1 → m 73 j = μ 71 (24 + j)) ∧ ∀ a b : Int, a ≠ 73 → m a b = m70 a b) → (10 - f).toNat < N → gf_G X E Q 9 gf_φ m 89 [(5, .int (gf_i b)), (6, .int (gf_i z)), (7, .int (gf_i f)), (0, .ref (gf_ad E 65)), (1, .int (gf_i i)), (4, .int (gf_i r48))] [] := by
              intro N
              induction N with
              | zero => intro b z f m hinv hN; exact absurd hN (Nat.not_lt_zero _)
              | succ N ih89_1 =>
                intro b z f m hinv hN
                have hinv0 := hinv
                obtain ⟨hf1, hf2, hb, hz, hzR, hbR, v73, vf⟩ := hinv
                have v15 : m 65 15 = μ 71 1 := by rw [vf 65 15 (by decide)]; exact w15
                have v71 : ∀ b : Int, m 71 b = μ 71 b := fun b => by rw [vf 71 b (by decide)]; exact w71 b
                refine gf_iload C dd_Mo_test_89 2 rfl ?_
                refine gf_bipush C dd_Mo_test_91 (by decide +kernel) ?_
                refine gf_icmp_ge 145 C dd_Mo_test_93 (by decide) (by omega) (by omega) (fun h93 => ?_) (fun h93 => ?_)
                · skip
                  refine gf_aload_n C dd_Mo_test_145 3 rfl ?_
                  refine gf_iload C dd_Mo_test_146 1 rfl ?_
                  refine gf_putI (z := 4) C gf_cl7 fl_Mo_64 dd_Mo_test_148 rfl rfl rfl (by decide +kernel) (show gf_is 81 65 0 7 26 by decide) (by omega) ?_
                  refine gf_nmM (fun m148 hm148 => ?_)
                  refine gf_iload C dd_Mo_test_151 0 rfl ?_
                  refine gf_iret C hQ dd_Mo_test_153 (by omega) ?_
                  rw [show (f - 1).toNat = 9 by omega, hks] at hb hz
                  refine ⟨fun h => absurd h (by omega), fun _ => ⟨fun h => absurd h (by omega), fun _ => ⟨fun h => absurd h hth, fun _ => ⟨fun h => absurd hnn h, fun _ => ⟨fun h => absurd heo h, fun _ => ⟨fun h => absurd h (by omega), fun _ => ⟨hb, ?_⟩⟩⟩⟩⟩⟩⟩
                  rw [← hz]
                  exact gm_sc_tl (fun a b hab => by rw [vf a b (by unfold gm_scr at hab; omega)]; exact wsc a b hab) hm148
                · skip
                  refine gf_aload_n C dd_Mo_test_96 3 rfl ?_
                  refine gf_iload_n C dd_Mo_test_97 4 rfl ?_
                  refine gf_iload C dd_Mo_test_98 2 rfl ?_
                  refine gf_iload C dd_Mo_test_100 5 rfl ?_
                  refine gf_callVi (st := []) (As := [.int (gf_i i), .int (gf_i f), .int (gf_i r48)]) C wk_Mo_250 gf_cl7 (show gf_is 81 65 0 7 26 by decide) (ct_Mo_partBy (gf_xl X) E i f r48 m (gm_okg_f hg v71) (by omega) (by omega) (by omega) (by rw [v15]; intro j h0 h1; rw [v73 j h0 h1]; exact hx j h0 h1)) rfl ⟨rfl, rfl, rfl, rfl⟩ (Nat.le_of_ble_eq_true rfl) rfl dd_Mo_test_102 (fun r102 m102 hR102 hp102 => ?_)
                  obtain ⟨hr102, hm102⟩ := hp102
                  refine gf_istore (lv' := [(8, .int (gf_i r102)), (5, .int (gf_i b)), (6, .int (gf_i z)), (7, .int (gf_i f)), (0, .ref (gf_ad E 65)), (1, .int (gf_i i)), (4, .int (gf_i r48))]) C dd_Mo_test_105 (by decide) rfl ?_
                  refine gf_iload C dd_Mo_test_107 0 rfl ?_
                  refine gf_iload C dd_Mo_test_109 2 rfl ?_
                  refine gf_icmp_ge 119 C dd_Mo_test_111 (by decide) (by omega) (by omega) (fun h111 => ?_) (fun h111 => ?_)
                  · skip
                    refine gf_iload C dd_Mo_test_119 1 rfl ?_
                    refine gf_istore (lv' := [(5, .int (gf_i b)), (8, .int (gf_i r102)), (6, .int (gf_i z)), (7, .int (gf_i f)), (0, .ref (gf_ad E 65)), (1, .int (gf_i i)), (4, .int (gf_i r48))]) C dd_Mo_test_121 (by decide) rfl ?_
                    refine gf_iload C dd_Mo_test_123 1 rfl ?_
                    refine gf_iload C dd_Mo_test_125 2 rfl ?_
                    refine gf_icmp_ge 135 C dd_Mo_test_127 (by decide) (by omega) (by omega) (fun h127 => ?_) (fun h127 => ?_)
                    · skip
                      refine gf_iload C dd_Mo_test_135 2 rfl ?_
                      refine gf_istore (lv' := [(6, .int (gf_i z)), (5, .int (gf_i b)), (8, .int (gf_i r102)), (7, .int (gf_i f)), (0, .ref (gf_ad E 65)), (1, .int (gf_i i)), (4, .int (gf_i r48))]) C dd_Mo_test_137 (by decide) rfl ?_
                      obtain ⟨x139, hx139⟩ : ∃ y : Int, y = f + 1 := ⟨_, rfl⟩
                      refine gf_iinc (q := 3) (v := x139) (lv' := [(7, .int (gf_i x139)), (6, .int (gf_i z)), (5, .int (gf_i b)), (8, .int (gf_i r102)), (0, .ref (gf_ad E 65)), (1, .int (gf_i i)), (4, .int (gf_i r48))]) C dd_Mo_test_139 rfl hx139 (by decide) rfl ?_
                      refine gf_goto 89 C dd_Mo_test_142 (by decide) ?_
                      refine gf_lsub [2, 1, 0, 4, 5, 6] rfl ?_
                      exact ih89_1 b z x139 m102 (by
                              have hu : r102 = gm_U μ i r48 f := by rw [hr102.1, gm_U_of v71 v15 v73]
                              refine ⟨by omega, by omega, ?_, ?_, by omega, by omega, fun j h0 h1 => by rw [hm102, gf_up_j (by omega)]; exact v73 j h0 h1, fun a b h => by rw [hm102, gf_up_k h]; exact vf a b h⟩
                              all_goals rw [show x139 - 1 = f by omega, pf_fst_s hf1, ← hu, ← hz]
                              all_goals first | (exfalso; omega) | (rw [if_pos (by omega)]; done) | (rw [if_neg (by omega)]; first | exact hb | exact hz)) (by omega)
                    · skip
                      refine gf_iload C dd_Mo_test_130 1 rfl ?_
                      refine gf_goto 137 C dd_Mo_test_132 (by decide) ?_
                      refine gf_istore (lv' := [(6, .int (gf_i r102)), (5, .int (gf_i b)), (8, .int (gf_i r102)), (7, .int (gf_i f)), (0, .ref (gf_ad E 65)), (1, .int (gf_i i)), (4, .int (gf_i r48))]) C dd_Mo_test_137 (by decide) rfl ?_
                      obtain ⟨x139, hx139⟩ : ∃ y : Int, y = f + 1 := ⟨_, rfl⟩
                      refine gf_iinc (q := 3) (v := x139) (lv' := [(7, .int (gf_i x139)), (6, .int (gf_i r102)), (5, .int (gf_i b)), (8, .int (gf_i r102)), (0, .ref (gf_ad E 65)), (1, .int (gf_i i)), (4, .int (gf_i r48))]) C dd_Mo_test_139 rfl hx139 (by decide) rfl ?_
                      refine gf_goto 89 C dd_Mo_test_142 (by decide) ?_
                      refine gf_lsub [2, 1, 0, 4, 5, 6] rfl ?_
                      exact ih89_1 b r102 x139 m102 (by
                              have hu : r102 = gm_U μ i r48 f := by rw [hr102.1, gm_U_of v71 v15 v73]
                              refine ⟨by omega, by omega, ?_, ?_, by omega, by omega, fun j h0 h1 => by rw [hm102, gf_up_j (by omega)]; exact v73 j h0 h1, fun a b h => by rw [hm102, gf_up_k h]; exact vf a b h⟩
                              all_goals rw [show x139 - 1 = f by omega, pf_fst_s hf1, ← hu, ← hz]
                              all_goals first | (exfalso; omega) | (rw [if_pos (by omega)]; done) | (rw [if_neg (by omega)]; first | exact hb | exact hz)) (by omega)
                  · skip
                    refine gf_iload C dd_Mo_test_114 3 rfl ?_
                    refine gf_goto 121 C dd_Mo_test_116 (by decide) ?_
                    refine gf_istore (lv' := [(5, .int (gf_i f)), (8, .int (gf_i r102)), (6, .int (gf_i z)), (7, .int (gf_i f)), (0, .ref (gf_ad E 65)), (1, .int (gf_i i)), (4, .int (gf_i r48))]) C dd_Mo_test_121 (by decide) rfl ?_
                    refine gf_iload C dd_Mo_test_123 1 rfl ?_
                    refine gf_iload C dd_Mo_test_125 2 rfl ?_
                    refine gf_icmp_ge 135 C dd_Mo_test_127 (by decide) (by omega) (by omega) (fun h127 => ?_) (fun h127 => ?_)
                    · skip
                      refine gf_iload C dd_Mo_test_135 2 rfl ?_
                      refine gf_istore (lv' := [(6, .int (gf_i z)), (5, .int (gf_i f)), (8, .int (gf_i r102)), (7, .int (gf_i f)), (0, .ref (gf_ad E 65)), (1, .int (gf_i i)), (4, .int (gf_i r48))]) C dd_Mo_test_137 (by decide) rfl ?_
                      obtain ⟨x139, hx139⟩ : ∃ y : Int, y = f + 1 := ⟨_, rfl⟩
                      refine gf_iinc (q := 3) (v := x139) (lv' := [(7, .int (gf_i x139)), (6, .int (gf_i z)), (5, .int (gf_i f)), (8, .int (gf_i r102)), (0, .ref (gf_ad E 65)), (1, .int (gf_i i)), (4, .int (gf_i r48))]) C dd_Mo_test_139 rfl hx139 (by decide) rfl ?_
                      refine gf_goto 89 C dd_Mo_test_142 (by decide) ?_
                      refine gf_lsub [2, 1, 0, 4, 5, 6] rfl ?_
                      exact ih89_1 f z x139 m102 (by
                              have hu : r102 = gm_U μ i r48 f := by rw [hr102.1, gm_U_of v71 v15 v73]
                              refine ⟨by omega, by omega, ?_, ?_, by omega, by omega, fun j h0 h1 => by rw [hm102, gf_up_j (by omega)]; exact v73 j h0 h1, fun a b h => by rw [hm102, gf_up_k h]; exact vf a b h⟩
                              all_goals rw [show x139 - 1 = f by omega, pf_fst_s hf1, ← hu, ← hz]
                              all_goals first | (exfalso; omega) | (rw [if_pos (by omega)]; done) | (rw [if_neg (by omega)]; first | exact hb | exact hz)) (by omega)
                    · skip
                      refine gf_iload C dd_Mo_test_130 1 rfl ?_
                      refine gf_goto 137 C dd_Mo_test_132 (by decide) ?_
                      refine gf_istore (lv' := [(6, .int (gf_i r102)), (5, .int (gf_i f)), (8, .int (gf_i r102)), (7, .int (gf_i f)), (0, .ref (gf_ad E 65)), (1, .int (gf_i i)), (4, .int (gf_i r48))]) C dd_Mo_test_137 (by decide) rfl ?_
                      obtain ⟨x139, hx139⟩ : ∃ y : Int, y = f + 1 := ⟨_, rfl⟩
                      refine gf_iinc (q := 3) (v := x139) (lv' := [(7, .int (gf_i x139)), (6, .int (gf_i r102)), (5, .int (gf_i f)), (8, .int (gf_i r102)), (0, .ref (gf_ad E 65)), (1, .int (gf_i i)), (4, .int (gf_i r48))]) C dd_Mo_test_139 rfl hx139 (by decide) rfl ?_
                      refine gf_goto 89 C dd_Mo_test_142 (by decide) ?_
                      refine gf_lsub [2, 1, 0, 4, 5, 6] rfl ?_
                      exact ih89_1 f r102 x139 m102 (by
                              have hu : r102 = gm_U μ i r48 f := by rw [hr102.1, gm_U_of v71 v15 v73]
                              refine ⟨by omega, by omega, ?_, ?_, by omega, by omega, fun j h0 h1 => by rw [hm102, gf_up_j (by omega)]; exact v73 j h0 h1, fun a b h => by rw [hm102, gf_up_k h]; exact vf a b h⟩
                              all_goals rw [show x139 - 1 = f by omega, pf_fst_s hf1, ← hu, ← hz]
                              all_goals first | (exfalso; omega) | (rw [if_pos (by omega)]; done) | (rw [if_neg (by omega)]; first | exact hb | exact hz)) (by omega)
            refine gf_lsub [2, 1, 0, 5, 6, 3] rfl ?_
            exact L89_1 _ 0 r81 1 m81 (by
                  refine ⟨by omega, by omega, rfl, ?_, by omega, by omega, fun j h0 h1 => by rw [hm81, gf_up_j (by omega)]; exact w73 j h0 h1, fun a b h => by rw [hm81]; exact gf_up_k h⟩
                  rw [hr81.1, gm_U_of w71 w15 w73]
                  rfl) (Nat.lt_succ_self _)
          · skip
            refine gf_iload_n C dd_Mo_test_58 1 rfl ?_
            refine gf_if_ge 66 C dd_Mo_test_59 (by decide) (by omega) (fun h59 => ?_) (fun h59 => ?_)
            · skip
              have hks : r48 = pf_ksB (μ 71 (10 + i)) (μ 71 (17 + i)) (gm_row μ r) (μ 66 r) := by
                rw [hr48.1, q71, q71, q66]
                exact pf_ksB_congr (by omega) f78
              refine gf_bipush C dd_Mo_test_66 (by decide +kernel) ?_
              refine gf_iret C hQ dd_Mo_test_68 (by omega) ?_
              refine ⟨fun h => absurd h (by omega), fun _ => ⟨fun h => absurd h (by omega), fun _ => ⟨fun h => absurd h hth, fun _ => ⟨fun h => absurd hnn h, fun _ => ⟨fun h => absurd heo h, fun _ => ⟨fun _ => ⟨rfl, (fun a b hab => o78 a b (by unfold gm_scr at hab; omega))⟩, fun h => absurd (by omega) h⟩⟩⟩⟩⟩⟩
            · skip
              exfalso; omega -- done
        · skip
          refine gf_iconst C dd_Mo_test_41 ?_
          refine gf_goto 51 C dd_Mo_test_42 (by decide) ?_
          refine gf_istore (lv' := [(4, .int (gf_i 0)), (3, .int (gf_i r33)), (0, .ref (gf_ad E 65)), (1, .int (gf_i i)), (2, .int (gf_i r))]) C dd_Mo_test_51 (by decide) rfl ?_
          refine gf_iload C dd_Mo_test_53 0 rfl ?_
          refine gf_if_ne 69 C dd_Mo_test_55 (by decide) (by omega) (fun h55 => ?_) (fun h55 => ?_)
          · skip
            exfalso; omega -- done
          · skip
            refine gf_iload_n C dd_Mo_test_58 1 rfl ?_
            refine gf_if_ge 66 C dd_Mo_test_59 (by decide) (by omega) (fun h59 => ?_) (fun h59 => ?_)
            · skip
              exfalso; omega -- done
            · skip
              refine gf_iload_n C dd_Mo_test_62 1 rfl ?_
              refine gf_goto 68 C dd_Mo_test_63 (by decide) ?_
              refine gf_iret C hQ dd_Mo_test_68 (by omega) ?_
              have hne : ¬ (r33 = 0) := by omega
              refine ⟨fun h => absurd h (by omega), fun _ => ⟨fun h => absurd h (by omega), fun _ => ⟨hp33.1, fun hth => ⟨(hp33.2 hth).1, fun hnn => ⟨((hp33.2 hth).2 hnn).1, fun heo => absurd (((hp33.2 hth).2 hnn).2 heo).1 hne⟩⟩⟩⟩⟩
      · skip
        refine gf_bipush C dd_Mo_test_28 (by decide +kernel) ?_
        refine gf_iret C hQ dd_Mo_test_30 (by omega) ?_
        exact ⟨fun h => absurd h (by omega), fun _ => ⟨fun _ => ⟨rfl, rfl⟩, fun h => absurd h (by omega)⟩⟩
    · skip
      refine gf_iconst C dd_Mo_test_15 ?_
      refine gf_iret C hQ dd_Mo_test_16 (by omega) ?_
      exact ⟨fun _ => ⟨rfl, rfl⟩, fun h => absurd h (by omega)⟩
