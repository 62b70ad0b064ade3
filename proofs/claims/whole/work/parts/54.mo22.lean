theorem gm_lm_f1 {μ m : gf_M} (h : ∀ b : Int, m 71 b = μ 71 b) {i c L : Int} {D : Int → Int → Int → Prop} (hl : gm_lm (gm_C1 m i c) (gm_M1 m) L D) : gm_lm (gm_C1 μ i c) (gm_M1 μ) L D := by
  unfold gm_C1 gm_M1 gm_x gm_rk at hl ⊢
  rw [show m 71 = μ 71 from funext h] at hl
  exact hl
theorem gm_lm_f2 {μ m : gf_M} (h : ∀ b : Int, m 71 b = μ 71 b) {i c L : Int} {D : Int → Int → Int → Prop} (hl : gm_lm (gm_C2 m i c) (gm_M2 m) L D) : gm_lm (gm_C2 μ i c) (gm_M2 μ) L D := by
  unfold gm_C2 gm_M2 gm_x gm_rk at hl ⊢
  rw [show m 71 = μ 71 from funext h] at hl
  exact hl
/-- what near() tells, for the reference -/
def gm_near (μ : gf_M) (i c q : Int) (μ' : gf_M) : Prop := (gm_rk μ i (gm_x μ) (μ 71 1) = c → q = 0 ∧ gm_sc μ' (gm_tl μ (pf_num (gm_x μ) (μ 71 1).toNat))) ∧ (gm_rk μ i (gm_x μ) (μ 71 1) ≠ c → ∃ L1 : Int, gm_lm (gm_C1 μ i c) (gm_M1 μ) L1 (fun _ _ _ => True) ∧ (0 ≤ L1 → q = 1 ∧ gm_sc μ' (gm_tl μ L1)) ∧ (L1 < 0 → ∃ L2 : Int, gm_lm (gm_C2 μ i c) (gm_M2 μ) L2 (fun _ _ _ => True) ∧ (0 ≤ L2 → q = 2 ∧ gm_sc μ' (gm_tl μ L2)) ∧ (L2 < 0 → q = -9 ∧ gm_sc μ' μ)))
theorem dd_Mo_near_0 : decode cc_Mo_near 0 = .ok (.aload_n 0, 1) := by decide +kernel
theorem dd_Mo_near_1 : decode cc_Mo_near 1 = .ok (.iload_n 1, 1) := by decide +kernel
theorem dd_Mo_near_2 : decode cc_Mo_near 2 = .ok (.invokevirtual 183, 3) := by decide +kernel
theorem dd_Mo_near_5 : decode cc_Mo_near 5 = .ok (.ifCond .eq 15, 3) := by decide +kernel
theorem dd_Mo_near_8 : decode cc_Mo_near 8 = .ok (.iload_n 2, 1) := by decide +kernel
theorem dd_Mo_near_9 : decode cc_Mo_near 9 = .ok (.i2l, 1) := by decide +kernel
theorem dd_Mo_near_10 : decode cc_Mo_near 10 = .ok (.lconst 0, 1) := by decide +kernel
theorem dd_Mo_near_11 : decode cc_Mo_near 11 = .ok (.ldc2_w 230, 3) := by decide +kernel
theorem dd_Mo_near_14 : decode cc_Mo_near 14 = .ok (.invokestatic 69, 3) := by decide +kernel
theorem dd_Mo_near_17 : decode cc_Mo_near 17 = .ok (.ifCond .ne 5, 3) := by decide +kernel
theorem dd_Mo_near_20 : decode cc_Mo_near 20 = .ok (.iconst (-1), 1) := by decide +kernel
theorem dd_Mo_near_21 : decode cc_Mo_near 21 = .ok (.ireturn, 1) := by decide +kernel
theorem dd_Mo_near_22 : decode cc_Mo_near 22 = .ok (.aload_n 0, 1) := by decide +kernel
theorem dd_Mo_near_23 : decode cc_Mo_near 23 = .ok (.iload_n 1, 1) := by decide +kernel
theorem dd_Mo_near_24 : decode cc_Mo_near 24 = .ok (.invokevirtual 162, 3) := by decide +kernel
theorem dd_Mo_near_27 : decode cc_Mo_near 27 = .ok (.iload_n 2, 1) := by decide +kernel
theorem dd_Mo_near_28 : decode cc_Mo_near 28 = .ok (.if_icmp .ne 20, 3) := by decide +kernel
theorem dd_Mo_near_31 : decode cc_Mo_near 31 = .ok (.aload_n 0, 1) := by decide +kernel
theorem dd_Mo_near_32 : decode cc_Mo_near 32 = .ok (.aload_n 0, 1) := by decide +kernel
theorem dd_Mo_near_33 : decode cc_Mo_near 33 = .ok (.getfield 36, 3) := by decide +kernel
theorem dd_Mo_near_36 : decode cc_Mo_near 36 = .ok (.aload_n 0, 1) := by decide +kernel
theorem dd_Mo_near_37 : decode cc_Mo_near 37 = .ok (.getfield 146, 3) := by decide +kernel
theorem dd_Mo_near_40 : decode cc_Mo_near 40 = .ok (.invokestatic 232, 3) := by decide +kernel
theorem dd_Mo_near_43 : decode cc_Mo_near 43 = .ok (.putfield 64, 3) := by decide +kernel
theorem dd_Mo_near_46 : decode cc_Mo_near 46 = .ok (.iconst 0, 1) := by decide +kernel
theorem dd_Mo_near_47 : decode cc_Mo_near 47 = .ok (.ireturn, 1) := by decide +kernel
theorem dd_Mo_near_48 : decode cc_Mo_near 48 = .ok (.iconst 1, 1) := by decide +kernel
theorem dd_Mo_near_49 : decode cc_Mo_near 49 = .ok (.istore_n 3, 1) := by decide +kernel
theorem dd_Mo_near_50 : decode cc_Mo_near 50 = .ok (.iload_n 3, 1) := by decide +kernel
theorem dd_Mo_near_51 : decode cc_Mo_near 51 = .ok (.iconst 3, 1) := by decide +kernel
theorem dd_Mo_near_52 : decode cc_Mo_near 52 = .ok (.if_icmp .ge 31, 3) := by decide +kernel
theorem dd_Mo_near_55 : decode cc_Mo_near 55 = .ok (.aload_n 0, 1) := by decide +kernel
theorem dd_Mo_near_56 : decode cc_Mo_near 56 = .ok (.iload_n 1, 1) := by decide +kernel
theorem dd_Mo_near_57 : decode cc_Mo_near 57 = .ok (.iload_n 2, 1) := by decide +kernel
theorem dd_Mo_near_58 : decode cc_Mo_near 58 = .ok (.iload_n 3, 1) := by decide +kernel
theorem dd_Mo_near_59 : decode cc_Mo_near 59 = .ok (.invokevirtual 236, 3) := by decide +kernel
theorem dd_Mo_near_62 : decode cc_Mo_near 62 = .ok (.istore 4, 2) := by decide +kernel
theorem dd_Mo_near_64 : decode cc_Mo_near 64 = .ok (.iload 4, 2) := by decide +kernel
theorem dd_Mo_near_66 : decode cc_Mo_near 66 = .ok (.ifCond .lt 11, 3) := by decide +kernel
theorem dd_Mo_near_69 : decode cc_Mo_near 69 = .ok (.aload_n 0, 1) := by decide +kernel
theorem dd_Mo_near_70 : decode cc_Mo_near 70 = .ok (.iload 4, 2) := by decide +kernel
theorem dd_Mo_near_72 : decode cc_Mo_near 72 = .ok (.putfield 64, 3) := by decide +kernel
theorem dd_Mo_near_75 : decode cc_Mo_near 75 = .ok (.iload_n 3, 1) := by decide +kernel
theorem dd_Mo_near_76 : decode cc_Mo_near 76 = .ok (.ireturn, 1) := by decide +kernel
theorem dd_Mo_near_77 : decode cc_Mo_near 77 = .ok (.iinc 3 1, 3) := by decide +kernel
theorem dd_Mo_near_80 : decode cc_Mo_near 80 = .ok (.goto (-30), 3) := by decide +kernel
theorem dd_Mo_near_83 : decode cc_Mo_near 83 = .ok (.bipush (-9), 2) := by decide +kernel
theorem dd_Mo_near_85 : decode cc_Mo_near 85 = .ok (.ireturn, 1) := by decide +kernel
set_option maxRecDepth 100000 in
set_option maxHeartbeats 4000000 in
theorem ct_Mo_near (l : Launch) (E : gf_E) (i c : Int) (μ : gf_M) (hi : gf_R i) (hcR : gf_R c) (hok : gm_ok μ)  : gf_Mi l E yy_Mo_near cc_Mo_near 5 .int (gf_rm 5 131) 81 gf_ref μ [.ref (gf_ad E 65), .int (gf_i i), .int (gf_i c)] (fun q μ' => (¬ (0 ≤ i ∧ i < μ 71 0 ∧ 0 ≤ c ∧ c ≤ 10) → q = -1 ∧ μ' = μ) ∧ (0 ≤ i ∧ i < μ 71 0 ∧ 0 ≤ c ∧ c ≤ 10 → gm_near μ i c q μ')) := by
  refine gf_mi (by decide +kernel) (Nat.le_of_ble_eq_true rfl) (by decide) (fun X Q hlx C hQ => ?_)
  subst hlx
  replace C : gf_C X E cc_Mo_near 5 "GuardFiguresModel" (gf_rm 5 131) := C
  show gf_G X E Q 5 gf_φ μ 0 [(0, .ref (gf_ad E 65)), (1, .int (gf_i i)), (2, .int (gf_i c))] []
  obtain ⟨hc, hgs, hn, hx, hd⟩ := id hok
  refine gf_aload_n C dd_Mo_near_0 0 rfl ?_
  refine gf_iload_n C dd_Mo_near_1 1 rfl ?_
  refine gf_callVi (st := []) (As := [.int (gf_i i)]) C wk_Mo_183 gf_cl7 (show gf_is 81 65 0 7 26 by decide) (ct_Mo_isGuard (gf_xl X) E i μ (by omega) (by omega)) rfl ⟨rfl, rfl, rfl, rfl⟩ (Nat.le_of_ble_eq_true rfl) rfl dd_Mo_near_2 (fun r2 m2 hR2 hp2 => ?_)
  have hr2 := hp2.1
  refine gf_pm hp2.2 ?_
  refine gf_if_eq 20 C dd_Mo_near_5 (by decide) (by omega) (fun h5 => ?_) (fun h5 => ?_)
  · skip
    refine gf_iconst C dd_Mo_near_20 ?_
    refine gf_iret C hQ dd_Mo_near_21 (by omega) ?_
    exact ⟨fun _ => ⟨rfl, rfl⟩, fun h => absurd h (by omega)⟩
  · skip
    refine gf_iload_n C dd_Mo_near_8 2 rfl ?_
    refine gf_gi2l C dd_Mo_near_9 (by omega) ?_
    refine gf_lconst 0 C dd_Mo_near_10 (by decide +kernel) ?_
    refine gf_ldc2 10 C dd_Mo_near_11 ck_Mo_230 (by decide +kernel) ?_
    refine gf_callSi (st := []) (As := [.long (gf_l c), .long (gf_l 0), .long (gf_l 10)]) C wk_Mo_69 (ct_Mo_in (gf_xl X) E c 0 10 μ (by omega) (by omega) (by omega)) rfl ⟨rfl, rfl, rfl, rfl⟩ (Nat.le_of_ble_eq_true rfl) rfl dd_Mo_near_14 (fun r14 m14 hR14 hp14 => ?_)
    have hr14 := hp14.1
    refine gf_pm hp14.2 ?_
    refine gf_if_ne 22 C dd_Mo_near_17 (by decide) (by omega) (fun h17 => ?_) (fun h17 => ?_)
    · skip
      have hin : 0 ≤ i ∧ i < μ 71 0 := by omega
      have hin2 : 0 ≤ c ∧ c ≤ 10 := by omega
      clear hr2 hr14 hp2 hp14
      have hg := gm_ok_g hok hin
      refine gf_aload_n C dd_Mo_near_22 0 rfl ?_
      refine gf_iload_n C dd_Mo_near_23 1 rfl ?_
      refine gf_callVi (st := []) (As := [.int (gf_i i)]) C wk_Mo_162 gf_cl7 (show gf_is 81 65 0 7 26 by decide) (ct_Mo_now (gf_xl X) E i μ (hg) (hn) (hx)) rfl ⟨rfl, rfl, rfl, rfl⟩ (Nat.le_of_ble_eq_true rfl) rfl dd_Mo_near_24 (fun r24 m24 hR24 hp24 => ?_)
      obtain ⟨⟨hwa, hwR⟩, hw⟩ := hp24
      have w15 := hw.1
      have q71 : ∀ b : Int, m24 71 b = μ 71 b := fun b => hw.2.2 71 b (by omega) (by omega)
      have hnx := gm_nx_f q71 hn hx
      have hsw := gm_sc_w hw
      refine gf_iload_n C dd_Mo_near_27 2 rfl ?_
      refine gf_icmp_ne 48 C dd_Mo_near_28 (by decide) (by omega) (by omega) (fun h28 => ?_) (fun h28 => ?_)
      · skip
        refine gf_iconst C dd_Mo_near_48 ?_
        refine gf_istore_n (lv' := [(3, .int (gf_i 1)), (0, .ref (gf_ad E 65)), (1, .int (gf_i i)), (2, .int (gf_i c))]) C dd_Mo_near_49 (by decide) rfl ?_
        refine gf_iload_n C dd_Mo_near_50 0 rfl ?_
        refine gf_iconst C dd_Mo_near_51 ?_
        refine gf_icmp_ge 83 C dd_Mo_near_52 (by decide) (by omega) (by omega) (fun h52 => ?_) (fun h52 => ?_)
        · exact absurd h52 (by decide)
        · skip
          refine gf_aload_n C dd_Mo_near_55 1 rfl ?_
          refine gf_iload_n C dd_Mo_near_56 2 rfl ?_
          refine gf_iload_n C dd_Mo_near_57 3 rfl ?_
          refine gf_iload_n C dd_Mo_near_58 0 rfl ?_
          refine gf_callVi (st := []) (As := [.int (gf_i i), .int (gf_i c), .int (gf_i 1)]) C wk_Mo_236 gf_cl7 (show gf_is 81 65 0 7 26 by decide) (ct_Mo_leastWith_1 (gf_xl X) E i c m24 (gm_okg_f hg q71) hcR hnx.1 hnx.2) rfl ⟨rfl, rfl, rfl, rfl⟩ (Nat.le_of_ble_eq_true rfl) rfl dd_Mo_near_59 (fun r59 m59 hR59 hp59 => ?_)
          obtain ⟨⟨hl1, hR1⟩, hs1⟩ := hp59
          obtain ⟨L1, hL1⟩ : ∃ L : Int, L = r59 := ⟨_, rfl⟩
          rw [← hL1] at hl1 hR1
          have hss := gm_sc_tr hs1 hsw
          have q712 := gm_sc_71 hss
          have hnx2 := gm_nx_f q712 hn hx
          refine gf_istore (lv' := [(4, .int (gf_i r59)), (3, .int (gf_i 1)), (0, .ref (gf_ad E 65)), (1, .int (gf_i i)), (2, .int (gf_i c))]) C dd_Mo_near_62 (by decide) rfl ?_
          refine gf_iload C dd_Mo_near_64 0 rfl ?_
          refine gf_if_lt 77 C dd_Mo_near_66 (by decide) (by omega) (fun h66 => ?_) (fun h66 => ?_)
          · skip
            have hneg : L1 < 0 := by omega
            refine gf_iinc (q := 1) (v := 2) (lv' := [(3, .int (gf_i 2)), (4, .int (gf_i r59)), (0, .ref (gf_ad E 65)), (1, .int (gf_i i)), (2, .int (gf_i c))]) C dd_Mo_near_77 rfl (show (2 : Int) = 1 + 1 by decide) (by decide) rfl ?_
            refine gf_goto 50 C dd_Mo_near_80 (by decide) ?_
            refine gf_iload_n C dd_Mo_near_50 0 rfl ?_
            refine gf_iconst C dd_Mo_near_51 ?_
            refine gf_icmp_ge 83 C dd_Mo_near_52 (by decide) (by omega) (by omega) (fun h52 => ?_) (fun h52 => ?_)
            · exact absurd h52 (by decide)
            · skip
              refine gf_aload_n C dd_Mo_near_55 2 rfl ?_
              refine gf_iload_n C dd_Mo_near_56 3 rfl ?_
              refine gf_iload_n C dd_Mo_near_57 4 rfl ?_
              refine gf_iload_n C dd_Mo_near_58 0 rfl ?_
              refine gf_callVi (st := []) (As := [.int (gf_i i), .int (gf_i c), .int (gf_i 2)]) C wk_Mo_236 gf_cl7 (show gf_is 81 65 0 7 26 by decide) (ct_Mo_leastWith_2 (gf_xl X) E i c m59 (gm_okg_f hg q712) hcR hnx2.1 hnx2.2) rfl ⟨rfl, rfl, rfl, rfl⟩ (Nat.le_of_ble_eq_true rfl) rfl dd_Mo_near_59 (fun r59 m59 hR59 hp59 => ?_)
              obtain ⟨⟨hl2, hR2⟩, hs2⟩ := hp59
              have hs3 := gm_sc_tr hs2 hss
              refine gf_istore (lv' := [(4, .int (gf_i r59)), (3, .int (gf_i 2)), (0, .ref (gf_ad E 65)), (1, .int (gf_i i)), (2, .int (gf_i c))]) C dd_Mo_near_62 (by decide) rfl ?_
              refine gf_iload C dd_Mo_near_64 0 rfl ?_
              refine gf_if_lt 77 C dd_Mo_near_66 (by decide) (by omega) (fun h66 => ?_) (fun h66 => ?_)
              · skip
                refine gf_iinc (q := 1) (v := 3) (lv' := [(3, .int (gf_i 3)), (4, .int (gf_i r59)), (0, .ref (gf_ad E 65)), (1, .int (gf_i i)), (2, .int (gf_i c))]) C dd_Mo_near_77 rfl (show (3 : Int) = 2 + 1 by decide) (by decide) rfl ?_
                refine gf_goto 50 C dd_Mo_near_80 (by decide) ?_
                refine gf_iload_n C dd_Mo_near_50 0 rfl ?_
                refine gf_iconst C dd_Mo_near_51 ?_
                refine gf_icmp_ge 83 C dd_Mo_near_52 (by decide) (by omega) (by omega) (fun h52 => ?_) (fun h52 => ?_)
                · skip
                  refine gf_bipush C dd_Mo_near_83 (by decide +kernel) ?_
                  refine gf_iret C hQ dd_Mo_near_85 (by omega) ?_
                  exact ⟨fun h => absurd h (by omega), fun _ => ⟨fun h => absurd (by omega) h28, fun _ => ⟨L1, gm_lm_f1 q71 hl1, fun h => absurd h (by omega), fun _ => ⟨r59, gm_lm_f2 q712 hl2, fun h => absurd h (by omega), fun _ => ⟨rfl, hs3⟩⟩⟩⟩⟩
                · exact absurd h52 (by decide)
              · skip
                refine gf_aload_n C dd_Mo_near_69 2 rfl ?_
                refine gf_iload C dd_Mo_near_70 0 rfl ?_
                refine gf_putI (z := 4) C gf_cl7 fl_Mo_64 dd_Mo_near_72 rfl rfl rfl (by decide +kernel) (show gf_is 81 65 0 7 26 by decide) (by omega) ?_
                refine gf_nmM (fun m72 hm72 => ?_)
                refine gf_iload_n C dd_Mo_near_75 1 rfl ?_
                refine gf_iret C hQ dd_Mo_near_76 (by omega) ?_
                exact ⟨fun h => absurd h (by omega), fun _ => ⟨fun h => absurd (by omega) h28, fun _ => ⟨L1, gm_lm_f1 q71 hl1, fun h => absurd h (by omega), fun _ => ⟨r59, gm_lm_f2 q712 hl2, fun _ => ⟨rfl, gm_sc_tl hs3 hm72⟩, fun h => absurd h (by omega)⟩⟩⟩⟩
          · skip
            refine gf_aload_n C dd_Mo_near_69 2 rfl ?_
            refine gf_iload C dd_Mo_near_70 0 rfl ?_
            refine gf_putI (z := 4) C gf_cl7 fl_Mo_64 dd_Mo_near_72 rfl rfl rfl (by decide +kernel) (show gf_is 81 65 0 7 26 by decide) (by omega) ?_
            refine gf_nmM (fun m72 hm72 => ?_)
            refine gf_iload_n C dd_Mo_near_75 1 rfl ?_
            refine gf_iret C hQ dd_Mo_near_76 (by omega) ?_
            exact ⟨fun h => absurd h (by omega), fun _ => ⟨fun h => absurd (by omega) h28, fun _ => ⟨r59, gm_lm_f1 q71 (hL1 ▸ hl1), fun _ => ⟨rfl, gm_sc_tl hss hm72⟩, fun h => absurd h (by omega)⟩⟩⟩
      · skip
        refine gf_aload_n C dd_Mo_near_31 0 rfl ?_
        refine gf_aload_n C dd_Mo_near_32 0 rfl ?_
        refine gf_getA (r := 73) C gf_cl7 fl_Mo_36 dd_Mo_near_33 rfl (show gf_is 81 65 0 7 26 by decide) (by decide) (by decide) ?_
        refine gf_aload_n C dd_Mo_near_36 0 rfl ?_
        refine gf_getI (z := 15) C gf_cl7 fl_Mo_146 dd_Mo_near_37 rfl rfl (show gf_is 81 65 0 7 26 by decide) (fun hv37 => ?_)
        refine gf_callSi (st := [.ref (gf_ad E 65)]) (As := [.ref (gf_ad E 73), .int (gf_i (m24 65 15))]) C wk_Mo_232 (ct_Mo_asNumber (gf_xl X) E 73 (m24 65 15) 8 m24 (show gf_is 81 73 1 0 8 by decide) (by omega) (by rw [w15]; exact gm_wr_x hw hn hx)) rfl ⟨rfl, rfl, rfl, rfl⟩ (Nat.le_of_ble_eq_true rfl) rfl dd_Mo_near_40 (fun r40 m40 hR40 hp40 => ?_)
        have hr40 := hp40.1
        refine gf_pm hp40.2 ?_
        refine gf_putI (z := 4) C gf_cl7 fl_Mo_64 dd_Mo_near_43 rfl rfl rfl (by decide +kernel) (show gf_is 81 65 0 7 26 by decide) (by omega) ?_
        refine gf_nmM (fun m43 hm43 => ?_)
        refine gf_iconst C dd_Mo_near_46 ?_
        refine gf_iret C hQ dd_Mo_near_47 (by omega) ?_
        refine ⟨fun h => absurd h (by omega), fun _ => ⟨fun _ => ⟨rfl, ?_⟩, fun h => absurd (by omega) h⟩⟩
        have hnum : r40 = pf_num (gm_x μ) (μ 71 1).toNat := by
          rw [hr40.1, w15]
          exact pf_num_congr _ (fun j h0 h1 => hw.2.1 j h0 (by omega))
        rw [← hnum]
        exact gm_sc_tl hsw hm43
    · skip
      refine gf_iconst C dd_Mo_near_20 ?_
      refine gf_iret C hQ dd_Mo_near_21 (by omega) ?_
      exact ⟨fun _ => ⟨rfl, rfl⟩, fun h => absurd h (by omega)⟩
