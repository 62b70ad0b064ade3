theorem dd_La_0 : decode code 0 = .ok (.new 7, 3) := by decide +kernel
theorem dd_La_3 : decode code 3 = .ok (.dup, 1) := by decide +kernel
theorem dd_La_4 : decode code 4 = .ok (.invokespecial 9, 3) := by decide +kernel
theorem dd_La_7 : decode code 7 = .ok (.astore_n 1, 1) := by decide +kernel
theorem dd_La_8 : decode code 8 = .ok (.new 10, 3) := by decide +kernel
theorem dd_La_11 : decode code 11 = .ok (.dup, 1) := by decide +kernel
theorem dd_La_12 : decode code 12 = .ok (.invokespecial 12, 3) := by decide +kernel
theorem dd_La_15 : decode code 15 = .ok (.astore_n 2, 1) := by decide +kernel
theorem dd_La_16 : decode code 16 = .ok (.iconst 0, 1) := by decide +kernel
theorem dd_La_17 : decode code 17 = .ok (.istore_n 3, 1) := by decide +kernel
theorem dd_La_18 : decode code 18 = .ok (.iload_n 3, 1) := by decide +kernel
theorem dd_La_19 : decode code 19 = .ok (.aload_n 0, 1) := by decide +kernel
theorem dd_La_20 : decode code 20 = .ok (.arraylength, 1) := by decide +kernel
theorem dd_La_21 : decode code 21 = .ok (.bipush 6, 2) := by decide +kernel
theorem dd_La_23 : decode code 23 = .ok (.isub, 1) := by decide +kernel
theorem dd_La_24 : decode code 24 = .ok (.if_icmp .gt 1337, 3) := by decide +kernel
theorem dd_La_27 : decode code 27 = .ok (.aload_n 0, 1) := by decide +kernel
theorem dd_La_28 : decode code 28 = .ok (.iload_n 3, 1) := by decide +kernel
theorem dd_La_29 : decode code 29 = .ok (.iaload, 1) := by decide +kernel
theorem dd_La_30 : decode code 30 = .ok (.bipush 63, 2) := by decide +kernel
theorem dd_La_32 : decode code 32 = .ok (.iand, 1) := by decide +kernel
theorem dd_La_33 : decode code 33 = .ok (.tableswitch 1322 0 41 #[183, 216, 259, 292, 315, 378, 401, 434, 477, 500, 523, 556, 589, 612, 635, 648, 681, 704, 727, 750, 773, 796, 819, 842, 855, 868, 901, 934, 977, 1010, 1043, 1076, 1109, 1142, 1175, 1208, 1221, 1235, 1249, 1272, 1285, 1308], 183) := by decide +kernel
theorem dd_La_1355 : decode code 1355 = .ok (.iinc 3 6, 3) := by decide +kernel
theorem dd_La_1358 : decode code 1358 = .ok (.goto (-1340), 3) := by decide +kernel
theorem dd_La_1361 : decode code 1361 = .ok (.iconst 1, 1) := by decide +kernel
theorem dd_La_1362 : decode code 1362 = .ok (.ireturn, 1) := by decide +kernel
set_option maxRecDepth 100000 in
set_option maxHeartbeats 4000000 in
theorem la_loop {X : gf_X} {E : gf_E} {Q : State → Prop} {b L : Nat} {xs : Nat → Int32} (C : gf_C X E code 4 "GuardFiguresLaw" room_1) (S : la_S X E b L xs) (hend : ∀ (μ : gf_M) (lv : List (Nat × Value)), gf_G X E Q 4 la_φ μ 1362 lv [.int (gf_i 1)]) : ∀ (N : Nat) (i : Int) (μ : gf_M), gf_I μ → 0 ≤ i → i ≤ (L : Int) + 6 → ((L : Int) + 6 - i).toNat < N → gf_G X E Q 4 la_φ μ 18 (la_lv E b i) [] := by
  intro N
  have hL := S.2.2.2
  induction N with
  | zero => intro i μ _ _ _ hN; exact absurd hN (Nat.not_lt_zero _)
  | succ N ih =>
    intro i μ hI hi hi2 hN
    show gf_G X E Q 4 la_φ μ 18 [(3, .int (gf_i i)), (2, .ref (gf_ad E 65)), (1, .ref (gf_ad E 0)), (0, .ref b)] []
    refine gf_iload_n C dd_La_18 0 rfl ?_
    refine gf_aload_n C dd_La_19 3 rfl ?_
    refine gf_slen C S dd_La_20 ?_
    refine gf_bipush C dd_La_21 (by decide +kernel) ?_
    refine gf_isub C dd_La_23 ?_
    refine gf_icmp_gt 1361 C dd_La_24 (by decide) (by omega) (by omega) (fun _ => gf_iconst C dd_La_1361 (hend μ _)) (fun h => ?_)
    refine gf_aload_n C dd_La_27 3 rfl ?_
    refine gf_iload_n C dd_La_28 0 rfl ?_
    refine gf_sld C S dd_La_29 (by omega) ?_
    refine gf_bipush C dd_La_30 (by decide +kernel) ?_
    refine gf_iand63 C dd_La_32 ?_
    refine gf_nm (fun y hy => ?_)
    have hyR : 0 ≤ y ∧ y < 64 := by omega
    clear hy
    have kk : ∀ μ' : gf_M, gf_I μ' → gf_G X E Q 4 la_φ μ' 1355 (la_lv E b i) [] := fun μ' hI' => by
      show gf_G X E Q 4 la_φ μ' 1355 [(3, .int (gf_i i)), (2, .ref (gf_ad E 65)), (1, .ref (gf_ad E 0)), (0, .ref b)] []
      refine gf_iinc (q := 0) (v := i + 6) (lv' := [(3, .int (gf_i (i + 6))), (2, .ref (gf_ad E 65)), (1, .ref (gf_ad E 0)), (0, .ref b)]) C dd_La_1355 rfl rfl (by decide) rfl ?_
      refine gf_goto 18 C dd_La_1358 (by decide) ?_
      exact ih (i + 6) μ' hI' (by omega) (by omega) (by omega)
    have hi6 : 0 ≤ i ∧ i + 6 ≤ (L : Int) := by omega
    by_cases h41 : y < 42
    · obtain ⟨k, rfl⟩ : ∃ k : Nat, y = (k : Int) := ⟨y.toNat, by omega⟩
      have hk : k < 42 := by omega
      clear hyR h41
      match k, hk with
      | 0, _ => exact gf_tblI 216 C dd_La_33 (by decide) (by decide) (by decide) rfl (by decide) (la_row C S hI hi6 kk)
      | 1, _ => exact gf_tblI 249 C dd_La_33 (by decide) (by decide) (by decide) rfl (by decide) (la_lay C S hI hi6 kk)
      | 2, _ => exact gf_tblI 292 C dd_La_33 (by decide) (by decide) (by decide) rfl (by decide) (la_at C S hI hi6 kk)
      | 3, _ => exact gf_tblI 325 C dd_La_33 (by decide) (by decide) (by decide) rfl (by decide) (la_tear C S hI hi6 kk)
      | 4, _ => exact gf_tblI 348 C dd_La_33 (by decide) (by decide) (by decide) rfl (by decide) (la_copy C S hI hi6 kk)
      | 5, _ => exact gf_tblI 411 C dd_La_33 (by decide) (by decide) (by decide) rfl (by decide) (la_mean C S hI hi6 kk)
      | 6, _ => exact gf_tblI 434 C dd_La_33 (by decide) (by decide) (by decide) rfl (by decide) (la_text C S hI hi6 kk)
      | 7, _ => exact gf_tblI 467 C dd_La_33 (by decide) (by decide) (by decide) rfl (by decide) (la_put C S hI hi6 kk)
      | 8, _ => exact gf_tblI 510 C dd_La_33 (by decide) (by decide) (by decide) rfl (by decide) (la_fault C S hI hi6 kk)
      | 9, _ => exact gf_tblI 533 C dd_La_33 (by decide) (by decide) (by decide) rfl (by decide) (la_house C S hI hi6 kk)
      | 10, _ => exact gf_tblI 556 C dd_La_33 (by decide) (by decide) (by decide) rfl (by decide) (la_guard C S hI hi6 kk)
      | 11, _ => exact gf_tblI 589 C dd_La_33 (by decide) (by decide) (by decide) rfl (by decide) (la_mark C S hI hi6 kk)
      | 12, _ => exact gf_tblI 622 C dd_La_33 (by decide) (by decide) (by decide) rfl (by decide) (la_figure C S hI hi6 kk)
      | 13, _ => exact gf_tblI 645 C dd_La_33 (by decide) (by decide) (by decide) rfl (by decide) (la_add C S hI hi6 kk)
      | 14, _ => exact gf_tblI 668 C dd_La_33 (by decide) (by decide) (by decide) rfl (by decide) (la_drop C S hI hi6 kk)
      | 15, _ => exact gf_tblI 681 C dd_La_33 (by decide) (by decide) (by decide) rfl (by decide) (la_change C S hI hi6 kk)
      | 16, _ => exact gf_tblI 714 C dd_La_33 (by decide) (by decide) (by decide) rfl (by decide) (la_swap C S hI hi6 kk)
      | 17, _ => exact gf_tblI 737 C dd_La_33 (by decide) (by decide) (by decide) rfl (by decide) (la_undo C S hI hi6 kk)
      | 18, _ => exact gf_tblI 760 C dd_La_33 (by decide) (by decide) (by decide) rfl (by decide) (la_keep C S hI hi6 kk)
      | 19, _ => exact gf_tblI 783 C dd_La_33 (by decide) (by decide) (by decide) rfl (by decide) (la_on C S hI hi6 kk)
      | 20, _ => exact gf_tblI 806 C dd_La_33 (by decide) (by decide) (by decide) rfl (by decide) (la_slips C S hI hi6 kk)
      | 21, _ => exact gf_tblI 829 C dd_La_33 (by decide) (by decide) (by decide) rfl (by decide) (la_swaps C S hI hi6 kk)
      | 22, _ => exact gf_tblI 852 C dd_La_33 (by decide) (by decide) (by decide) rfl (by decide) (la_jumps C S hI hi6 kk)
      | 23, _ => exact gf_tblI 875 C dd_La_33 (by decide) (by decide) (by decide) rfl (by decide) (la_best C S hI hi6 kk)
      | 24, _ => exact gf_tblI 888 C dd_La_33 (by decide) (by decide) (by decide) rfl (by decide) (la_cover C S hI hi6 kk)
      | 25, _ => exact gf_tblI 901 C dd_La_33 (by decide) (by decide) (by decide) rfl (by decide) (la_next C S hI hi6 kk)
      | 26, _ => exact gf_tblI 934 C dd_La_33 (by decide) (by decide) (by decide) rfl (by decide) (la_near C S hI hi6 kk)
      | 27, _ => exact gf_tblI 967 C dd_La_33 (by decide) (by decide) (by decide) rfl (by decide) (la_fills C S hI hi6 kk)
      | 28, _ => exact gf_tblI 1010 C dd_La_33 (by decide) (by decide) (by decide) rfl (by decide) (la_kinds C S hI hi6 kk)
      | 29, _ => exact gf_tblI 1043 C dd_La_33 (by decide) (by decide) (by decide) rfl (by decide) (la_firsts C S hI hi6 kk)
      | 30, _ => exact gf_tblI 1076 C dd_La_33 (by decide) (by decide) (by decide) rfl (by decide) (la_test C S hI hi6 kk)
      | 31, _ => exact gf_tblI 1109 C dd_La_33 (by decide) (by decide) (by decide) rfl (by decide) (la_duel C S hI hi6 kk)
      | 32, _ => exact gf_tblI 1142 C dd_La_33 (by decide) (by decide) (by decide) rfl (by decide) (la_odds C S hI hi6 kk)
      | 33, _ => exact gf_tblI 1175 C dd_La_33 (by decide) (by decide) (by decide) rfl (by decide) (la_mid C S hI hi6 kk)
      | 34, _ => exact gf_tblI 1208 C dd_La_33 (by decide) (by decide) (by decide) rfl (by decide) (la_lots C S hI hi6 kk)
      | 35, _ => exact gf_tblI 1241 C dd_La_33 (by decide) (by decide) (by decide) rfl (by decide) (la_asked C S hI hi6 kk)
      | 36, _ => exact gf_tblI 1254 C dd_La_33 (by decide) (by decide) (by decide) rfl (by decide) (la_upper C S hI hi6 kk)
      | 37, _ => exact gf_tblI 1268 C dd_La_33 (by decide) (by decide) (by decide) rfl (by decide) (la_lower C S hI hi6 kk)
      | 38, _ => exact gf_tblI 1282 C dd_La_33 (by decide) (by decide) (by decide) rfl (by decide) (la_count C S hI hi6 kk)
      | 39, _ => exact gf_tblI 1305 C dd_La_33 (by decide) (by decide) (by decide) rfl (by decide) (la_finding C S hI hi6 kk)
      | 40, _ => exact gf_tblI 1318 C dd_La_33 (by decide) (by decide) (by decide) rfl (by decide) (la_findings C S hI hi6 kk)
      | 41, _ => exact gf_tblI 1341 C dd_La_33 (by decide) (by decide) (by decide) rfl (by decide) (la_digest C S hI hi6 kk)
      | k + 42, hk => exact absurd hk (by omega)
    · exact gf_tblO 1355 C dd_La_33 (by omega) (by omega) (by decide) (kk μ hI)
