theorem dd_Mo_leastWith_29 : decode cc_Mo_leastWith 29 = .ok (.iload 5, 2) := by decide +kernel
theorem dd_Mo_leastWith_31 : decode cc_Mo_leastWith 31 = .ok (.iconst 1, 1) := by decide +kernel
theorem dd_Mo_leastWith_32 : decode cc_Mo_leastWith 32 = .ok (.iadd, 1) := by decide +kernel
theorem dd_Mo_leastWith_49 : decode cc_Mo_leastWith 49 = .ok (.aload_n 0, 1) := by decide +kernel
theorem dd_Mo_leastWith_50 : decode cc_Mo_leastWith 50 = .ok (.getfield 146, 3) := by decide +kernel
theorem dd_Mo_leastWith_89 : decode cc_Mo_leastWith 89 = .ok (.bipush 100, 2) := by decide +kernel
theorem dd_Mo_leastWith_122 : decode cc_Mo_leastWith 122 = .ok (.iload 9, 2) := by decide +kernel
theorem dd_Mo_leastWith_124 : decode cc_Mo_leastWith 124 = .ok (.bipush 10, 2) := by decide +kernel
theorem dd_Mo_leastWith_126 : decode cc_Mo_leastWith 126 = .ok (.idiv, 1) := by decide +kernel
set_option maxRecDepth 100000 in
set_option maxHeartbeats 4000000 in
theorem ct_Mo_leastWith_2 (l : Launch) (E : gf_E) (i c : Int) (μ : gf_M) (hg : gm_okg μ i) (hcR : gf_R c) (hn : 0 ≤ μ 71 1 ∧ μ 71 1 ≤ 8) (hx : ∀ j : Int, 0 ≤ j → j < μ 71 1 → 0 ≤ μ 71 (24 + j) ∧ μ 71 (24 + j) ≤ 9)  : gf_Mi l E yy_Mo_leastWith cc_Mo_leastWith 12 .int (gf_rm 4 100) 81 gf_ref μ [.ref (gf_ad E 65), .int (gf_i i), .int (gf_i c), .int (gf_i 2)] (fun q μ' => (gm_lm (gm_C2 μ i c) (gm_M2 μ) q (fun _ _ _ => True) ∧ -1 ≤ q ∧ q < 100000000) ∧ gm_sc μ' μ) := by
  refine gf_mi (by decide +kernel) (Nat.le_of_ble_eq_true rfl) (by decide) (fun X Q hlx C hQ => ?_)
  subst hlx
  replace C : gf_C X E cc_Mo_leastWith 12 "GuardFiguresModel" (gf_rm 4 100) := C
  show gf_G X E Q 12 gf_φ μ 0 [(0, .ref (gf_ad E 65)), (1, .int (gf_i i)), (2, .int (gf_i c)), (3, .int (gf_i 2))] []
  have hg0 := hg.1
  refine gf_aload_n C dd_Mo_leastWith_0 0 rfl ?_
  refine gf_callVv (st := []) (As := []) C wk_Mo_149 gf_cl7 (show gf_is 81 65 0 7 26 by decide) (ct_Mo_write (gf_xl X) E μ hn) rfl ⟨rfl, rfl, rfl, rfl⟩ (Nat.le_of_ble_eq_true rfl) rfl dd_Mo_leastWith_1 (fun m1 hp1 => ?_)
  obtain ⟨hw15, hw73, hwf⟩ := hp1
  refine gf_iconst C dd_Mo_leastWith_4 ?_
  refine gf_istore (lv' := [(4, .int (gf_i (-1))), (0, .ref (gf_ad E 65)), (1, .int (gf_i i)), (2, .int (gf_i c)), (3, .int (gf_i 2))]) C dd_Mo_leastWith_5 (by decide) rfl ?_
  refine gf_iconst C dd_Mo_leastWith_7 ?_
  refine gf_istore (lv' := [(5, .int (gf_i 0)), (4, .int (gf_i (-1))), (0, .ref (gf_ad E 65)), (1, .int (gf_i i)), (2, .int (gf_i c)), (3, .int (gf_i 2))]) C dd_Mo_leastWith_8 (by decide) rfl ?_
  have L10_1 : ∀ (N : Nat) (L a : Int) (m : gf_M) , (0 ≤ a ∧ a ≤ μ 71 1 ∧ (-1 ≤ L ∧ L < 100000000) ∧ gm_lm (gm_C2 μ i c) (gm_M2 μ) L (fun a' b' v' => a' < a) ∧ m 65 15 = μ 71 1 ∧ (∀ j : Int, 0 ≤ j → j < 8 → m 73 j = gm_x μ j) ∧ ∀ a b : Int, ¬ (a = 65 ∧ b = 15) → a ≠ 73 → m a b = μ a b) → (8 - a).toNat < N → gf_G X E Q 12 gf_φ m 10 [(4, .int (gf_i L)), (5, .int (gf_i a)), (0, .ref (gf_ad E 65)), (1, .int (gf_i i)), (2, .int (gf_i c)), (3, .int (gf_i 2))] [] := by
    intro N
    induction N with
    | zero => intro L a m hinv hN; exact absurd hN (Nat.not_lt_zero _)
    | succ N ih10_1 =>
      intro L a m hinv hN
      have hinv0 := hinv
      obtain ⟨ha0, ha1, haR, hal, ha15, ha73, haf⟩ := hinv
      refine gf_iload C dd_Mo_leastWith_10 1 rfl ?_
      refine gf_aload_n C dd_Mo_leastWith_12 2 rfl ?_
      refine gf_getI (z := 15) C gf_cl7 fl_Mo_146 dd_Mo_leastWith_13 rfl rfl (show gf_is 81 65 0 7 26 by decide) (fun hv13 => ?_)
      refine gf_icmp_ge 251 C dd_Mo_leastWith_16 (by decide) (by omega) (by omega) (fun h16 => ?_) (fun h16 => ?_)
      · skip
        refine gf_iload C dd_Mo_leastWith_251 0 rfl ?_
        refine gf_iret C hQ dd_Mo_leastWith_253 (by omega) ?_
        exact ⟨⟨gm_lm_sub hal (fun a' b' v' _ hc => by have := hc.1; omega), haR⟩, fun a b hab => by unfold gm_scr at hab; exact haf a b (by omega) (by omega)⟩
      · skip
        refine gf_iload_n C dd_Mo_leastWith_19 5 rfl ?_
        refine gf_iconst C dd_Mo_leastWith_20 ?_
        refine gf_icmp_ne 29 C dd_Mo_leastWith_21 (by decide) (by omega) (by omega) (fun h21 => ?_) (fun h21 => ?_)
        · skip
          refine gf_iload C dd_Mo_leastWith_29 1 rfl ?_
          refine gf_iconst C dd_Mo_leastWith_31 ?_
          refine gf_iadd C dd_Mo_leastWith_32 ?_
          refine gf_nm (fun x33 hx33 => ?_)
          refine gf_istore (lv' := [(6, .int (gf_i x33)), (4, .int (gf_i L)), (5, .int (gf_i a)), (0, .ref (gf_ad E 65)), (1, .int (gf_i i)), (2, .int (gf_i c)), (3, .int (gf_i 2))]) C dd_Mo_leastWith_33 (by decide) rfl ?_
          have L35_2 : ∀ (N : Nat) (L2 b : Int) (m2 : gf_M) , ((a + 1 ≤ b ∧ b ≤ μ 71 1) ∧ (-1 ≤ L2 ∧ L2 < 100000000) ∧ gm_lm (gm_C2 μ i c) (gm_M2 μ) L2 (fun a' b' v' => a' < a ∨ (a' = a ∧ b' < b)) ∧ m2 65 15 = μ 71 1 ∧ (∀ j : Int, 0 ≤ j → j < 8 → m2 73 j = gm_x μ j) ∧ ∀ a b : Int, ¬ (a = 65 ∧ b = 15) → a ≠ 73 → m2 a b = μ a b) → (9 - b).toNat < N → gf_G X E Q 12 gf_φ m2 35 [(4, .int (gf_i L2)), (6, .int (gf_i b)), (0, .ref (gf_ad E 65)), (1, .int (gf_i i)), (2, .int (gf_i c)), (3, .int (gf_i 2)), (5, .int (gf_i a))] [] := by
            intro N
            induction N with
            | zero => intro L2 b m2 hinv hN; exact absurd hN (Nat.not_lt_zero _)
            | succ N ih35_2 =>
              intro L2 b m2 hinv hN
              have hinv0 := hinv
              obtain ⟨hb0, hbR, hbl, hb15, hb73, hbf⟩ := hinv
              refine gf_iload C dd_Mo_leastWith_35 1 rfl ?_
              refine gf_iload_n C dd_Mo_leastWith_37 5 rfl ?_
              refine gf_iconst C dd_Mo_leastWith_38 ?_
              refine gf_icmp_ne 49 C dd_Mo_leastWith_39 (by decide) (by omega) (by omega) (fun h39 => ?_) (fun h39 => ?_)
              · skip
                refine gf_aload_n C dd_Mo_leastWith_49 2 rfl ?_
                refine gf_getI (z := 15) C gf_cl7 fl_Mo_146 dd_Mo_leastWith_50 rfl rfl (show gf_is 81 65 0 7 26 by decide) (fun hv50 => ?_)
                refine gf_icmp_ge 245 C dd_Mo_leastWith_53 (by decide) (by omega) (by omega) (fun h53 => ?_) (fun h53 => ?_)
                · skip
                  obtain ⟨x245, hx245⟩ : ∃ y : Int, y = a + 1 := ⟨_, rfl⟩
                  refine gf_iinc (q := 6) (v := x245) (lv' := [(5, .int (gf_i x245)), (4, .int (gf_i L2)), (6, .int (gf_i b)), (0, .ref (gf_ad E 65)), (1, .int (gf_i i)), (2, .int (gf_i c)), (3, .int (gf_i 2))]) C dd_Mo_leastWith_245 rfl hx245 (by decide) rfl ?_
                  refine gf_goto 10 C dd_Mo_leastWith_248 (by decide) ?_
                  refine gf_lsub [1, 0, 3, 4, 5, 6] rfl ?_
                  exact ih10_1 L2 x245 m2 (by
                          refine ⟨by omega, by omega, hbR, gm_lm_sub hbl (fun a' b' v' hd hc => ?_), hb15, hb73, hbf⟩
                          rcases (show a' < a ∨ a' = a by omega) with h | h
                          · exact Or.inl h
                          · exact Or.inr ⟨h, by have := hc.1; omega⟩) (by omega)
                · skip
                  have hab : 0 ≤ b ∧ b < μ 71 1 ∧ a < b := by omega
                  refine gf_aload_n C dd_Mo_leastWith_56 2 rfl ?_
                  refine gf_getA (r := 73) C gf_cl7 fl_Mo_36 dd_Mo_leastWith_57 rfl (show gf_is 81 65 0 7 26 by decide) (by decide) (by decide) ?_
                  refine gf_iload C dd_Mo_leastWith_60 6 rfl ?_
                  refine gf_iald C dd_Mo_leastWith_62 (show gf_is 81 73 1 0 8 by decide) (by omega) (fun hv62 => ?_)
                  refine gf_nm (fun x63 hx63 => ?_)
                  refine gf_istore (lv' := [(7, .int (gf_i x63)), (4, .int (gf_i L2)), (6, .int (gf_i b)), (0, .ref (gf_ad E 65)), (1, .int (gf_i i)), (2, .int (gf_i c)), (3, .int (gf_i 2)), (5, .int (gf_i a))]) C dd_Mo_leastWith_63 (by decide) rfl ?_
                  refine gf_aload_n C dd_Mo_leastWith_65 3 rfl ?_
                  refine gf_getA (r := 73) C gf_cl7 fl_Mo_36 dd_Mo_leastWith_66 rfl (show gf_is 81 65 0 7 26 by decide) (by decide) (by decide) ?_
                  refine gf_iload C dd_Mo_leastWith_69 2 rfl ?_
                  refine gf_iald C dd_Mo_leastWith_71 (show gf_is 81 73 1 0 8 by decide) (by omega) (fun hv71 => ?_)
                  refine gf_nm (fun x72 hx72 => ?_)
                  refine gf_istore (lv' := [(8, .int (gf_i x72)), (7, .int (gf_i x63)), (4, .int (gf_i L2)), (6, .int (gf_i b)), (0, .ref (gf_ad E 65)), (1, .int (gf_i i)), (2, .int (gf_i c)), (3, .int (gf_i 2)), (5, .int (gf_i a))]) C dd_Mo_leastWith_72 (by decide) rfl ?_
                  have hone : x63 = gm_x μ a := by rw [hx63]; exact hb73 a (by omega) (by omega)
                  have htwo : x72 = gm_x μ b := by rw [hx72]; exact hb73 b (by omega) (by omega)
                  have hxa := hx a (by omega) (by omega)
                  have hxb := hx b (by omega) (by omega)
                  have hxa2 : gm_x μ a = μ 71 (24 + a) := rfl
                  have hxb2 : gm_x μ b = μ 71 (24 + b) := rfl
                  refine gf_iconst C dd_Mo_leastWith_74 ?_
                  refine gf_istore (lv' := [(9, .int (gf_i 0)), (8, .int (gf_i x72)), (7, .int (gf_i x63)), (4, .int (gf_i L2)), (6, .int (gf_i b)), (0, .ref (gf_ad E 65)), (1, .int (gf_i i)), (2, .int (gf_i c)), (3, .int (gf_i 2)), (5, .int (gf_i a))]) C dd_Mo_leastWith_75 (by decide) rfl ?_
                  have L77_3 : ∀ (N : Nat) (L3 v : Int) (m3 : gf_M) , (0 ≤ v ∧ v ≤ 100 ∧ (-1 ≤ L3 ∧ L3 < 100000000) ∧ gm_lm (gm_C2 μ i c) (gm_M2 μ) L3 (fun a' b' v' => a' < a ∨ (a' = a ∧ (b' < b ∨ (b' = b ∧ v' < v)))) ∧ m3 65 15 = μ 71 1 ∧ (∀ j : Int, 0 ≤ j → j < 8 → j ≠ a → j ≠ b → m3 73 j = gm_x μ j) ∧ ∀ a b : Int, ¬ (a = 65 ∧ b = 15) → a ≠ 73 → m3 a b = μ a b) → (100 - v).toNat < N → gf_G X E Q 12 gf_φ m3 77 [(4, .int (gf_i L3)), (9, .int (gf_i v)), (0, .ref (gf_ad E 65)), (1, .int (gf_i i)), (2, .int (gf_i c)), (3, .int (gf_i 2)), (5, .int (gf_i a)), (6, .int (gf_i b)), (7, .int (gf_i x63)), (8, .int (gf_i x72))] [] := by
                    intro N
                    induction N with
                    | zero => intro L3 v m3 hinv hN; exact absurd hN (Nat.not_lt_zero _)
                    | succ N ih77_3 =>
                      intro L3 v m3 hinv hN
                      have hinv0 := hinv
                      obtain ⟨hv0, hv1, hvR, hvl, hv15, hv73, hvf⟩ := hinv
                      refine gf_iload C dd_Mo_leastWith_77 1 rfl ?_
                      refine gf_iload_n C dd_Mo_leastWith_79 5 rfl ?_
                      refine gf_iconst C dd_Mo_leastWith_80 ?_
                      refine gf_icmp_ne 89 C dd_Mo_leastWith_81 (by decide) (by omega) (by omega) (fun h81 => ?_) (fun h81 => ?_)
                      · skip
                        refine gf_bipush C dd_Mo_leastWith_89 (by decide +kernel) ?_
                        refine gf_icmp_ge 221 C dd_Mo_leastWith_91 (by decide) (by omega) (by omega) (fun h91 => ?_) (fun h91 => ?_)
                        · skip
                          refine gf_aload_n C dd_Mo_leastWith_221 2 rfl ?_
                          refine gf_getA (r := 73) C gf_cl7 fl_Mo_36 dd_Mo_leastWith_222 rfl (show gf_is 81 65 0 7 26 by decide) (by decide) (by decide) ?_
                          refine gf_iload C dd_Mo_leastWith_225 6 rfl ?_
                          refine gf_iload C dd_Mo_leastWith_227 8 rfl ?_
                          refine gf_iast C dd_Mo_leastWith_229 (show gf_is 81 73 1 0 8 by decide) (by omega) (by omega) ?_
                          refine gf_nmM (fun m229 hm229 => ?_)
                          refine gf_aload_n C dd_Mo_leastWith_230 2 rfl ?_
                          refine gf_getA (r := 73) C gf_cl7 fl_Mo_36 dd_Mo_leastWith_231 rfl (show gf_is 81 65 0 7 26 by decide) (by decide) (by decide) ?_
                          refine gf_iload C dd_Mo_leastWith_234 7 rfl ?_
                          refine gf_iload C dd_Mo_leastWith_236 9 rfl ?_
                          refine gf_iast C dd_Mo_leastWith_238 (show gf_is 81 73 1 0 8 by decide) (by omega) (by omega) ?_
                          refine gf_nmM (fun m238 hm238 => ?_)
                          obtain ⟨x239, hx239⟩ : ∃ y : Int, y = b + 1 := ⟨_, rfl⟩
                          refine gf_iinc (q := 7) (v := x239) (lv' := [(6, .int (gf_i x239)), (4, .int (gf_i L3)), (9, .int (gf_i v)), (0, .ref (gf_ad E 65)), (1, .int (gf_i i)), (2, .int (gf_i c)), (3, .int (gf_i 2)), (5, .int (gf_i a)), (7, .int (gf_i x63)), (8, .int (gf_i x72))]) C dd_Mo_leastWith_239 rfl hx239 (by decide) rfl ?_
                          refine gf_goto 35 C dd_Mo_leastWith_242 (by decide) ?_
                          refine gf_lsub [1, 0, 3, 4, 5, 6, 7] rfl ?_
                          exact ih35_2 L3 x239 m238 (by
                                  have o238 : ∀ a b : Int, a ≠ 73 → m238 a b = m3 a b := fun a b h => by rw [hm238, gf_up_k h, hm229, gf_up_k h]
                                  refine ⟨by omega, hvR, gm_lm_sub hvl (fun a' b' v' hd hc => ?_), by rw [o238 65 15 (by decide)]; exact hv15, fun j h0 h1 => ?_, fun a b h1 h2 => by rw [o238 a b h2]; exact hvf a b h1 h2⟩
                                  · rcases hd with h | ⟨h, h2⟩
                                    · exact Or.inl h
                                    · refine Or.inr ⟨h, ?_⟩
                                      rcases (show b' < b ∨ b' = b by omega) with h3 | h3
                                      · exact Or.inl h3
                                      · exact Or.inr ⟨h3, by have := hc.2.1; omega⟩
                                  · rw [hm238, hm229]
                                    by_cases e : j = b
                                    · rw [e, gf_up_s]; exact htwo
                                    · rw [gf_up_j e]
                                      by_cases e2 : j = a
                                      · rw [e2, gf_up_s]; exact hone
                                      · rw [gf_up_j e2]; exact hv73 j h0 h1 e2 e) (by omega)
                        · skip
                          skip
                          refine gf_aload_n C dd_Mo_leastWith_94 2 rfl ?_
                          refine gf_getA (r := 73) C gf_cl7 fl_Mo_36 dd_Mo_leastWith_95 rfl (show gf_is 81 65 0 7 26 by decide) (by decide) (by decide) ?_
                          refine gf_iload C dd_Mo_leastWith_98 6 rfl ?_
                          refine gf_iload C dd_Mo_leastWith_100 1 rfl ?_
                          refine gf_bipush C dd_Mo_leastWith_102 (by decide +kernel) ?_
                          refine gf_irem C dd_Mo_leastWith_104 (by omega) ?_
                          refine gf_iast C dd_Mo_leastWith_105 (show gf_is 81 73 1 0 8 by decide) (by omega) (by omega) ?_
                          refine gf_nmM (fun m105 hm105 => ?_)
                          refine gf_aload_n C dd_Mo_leastWith_106 2 rfl ?_
                          refine gf_getA (r := 73) C gf_cl7 fl_Mo_36 dd_Mo_leastWith_107 rfl (show gf_is 81 65 0 7 26 by decide) (by decide) (by decide) ?_
                          refine gf_iload C dd_Mo_leastWith_110 7 rfl ?_
                          refine gf_iload_n C dd_Mo_leastWith_112 5 rfl ?_
                          refine gf_iconst C dd_Mo_leastWith_113 ?_
                          refine gf_icmp_ne 122 C dd_Mo_leastWith_114 (by decide) (by omega) (by omega) (fun h114 => ?_) (fun h114 => ?_)
                          · skip
                            refine gf_iload C dd_Mo_leastWith_122 1 rfl ?_
                            refine gf_bipush C dd_Mo_leastWith_124 (by decide +kernel) ?_
                            refine gf_idiv C dd_Mo_leastWith_126 (by omega) ?_
                            refine gf_iast C dd_Mo_leastWith_127 (show gf_is 81 73 1 0 8 by decide) (by omega) (by omega) ?_
                            refine gf_nmM (fun m127 hm127 => ?_)
                            have f127 : ∀ j : Int, 0 ≤ j → j < 8 → m127 73 j = (gm_y2 (gm_x μ) a b v) j := fun j h0 h1 => by
                              rw [hm127, hm105]
                              unfold gm_y2
                              by_cases e : j = b
                              · rw [if_pos e, e, gf_up_s]
                              · rw [if_neg e, gf_up_j e]
                                by_cases e2 : j = a
                                · rw [if_pos e2, e2, gf_up_s]
                                · rw [if_neg e2, gf_up_j e2]; exact hv73 j h0 h1 e2 e
                            have hyR : ∀ j : Int, 0 ≤ j → j < μ 71 1 → 0 ≤ (gm_y2 (gm_x μ) a b v) j ∧ (gm_y2 (gm_x μ) a b v) j ≤ 9 := fun j h0 h1 => by
                              unfold gm_y2
                              split
                              · omega
                              · split
                                · omega
                                · exact hx j h0 h1
                            have o127 : ∀ a b : Int, a ≠ 73 → m127 a b = m3 a b := fun a b h => by rw [hm127, gf_up_k h, hm105, gf_up_k h]
                            have e127 : m127 65 15 = μ 71 1 := by rw [o127 65 15 (by decide)]; exact hv15
                            have q127 : ∀ b : Int, m127 71 b = μ 71 b := fun b => by rw [o127 71 b (by decide)]; exact hvf 71 b (by omega) (by omega)
                            have ya := f127 a (by omega) (by omega)
                            have yb := f127 b (by omega) (by omega)
                            have hF127 : ∀ j : Int, 0 ≤ j → j < m127 65 15 → 0 ≤ m127 73 j ∧ m127 73 j ≤ 9 := fun j h0 h1 => by
                              rw [f127 j h0 (by omega)]
                              exact hyR j h0 (by omega)
                            have yv : gm_y2 (gm_x μ) a b v a = v % 10 := by unfold gm_y2; rw [if_neg (by omega), if_pos rfl]
                            have yw : gm_y2 (gm_x μ) a b v b = v / 10 := if_pos rfl
                            rw [yv] at ya
                            rw [yw] at yb
                            refine gf_aload_n C dd_Mo_leastWith_128 2 rfl ?_
                            refine gf_getA (r := 73) C gf_cl7 fl_Mo_36 dd_Mo_leastWith_129 rfl (show gf_is 81 65 0 7 26 by decide) (by decide) (by decide) ?_
                            refine gf_iload C dd_Mo_leastWith_132 6 rfl ?_
                            refine gf_iald C dd_Mo_leastWith_134 (show gf_is 81 73 1 0 8 by decide) (by omega) (fun hv134 => ?_)
                            refine gf_iload C dd_Mo_leastWith_135 8 rfl ?_
                            refine gf_icmp_eq 173 C dd_Mo_leastWith_137 (by decide) (by omega) (by omega) (fun h137 => ?_) (fun h137 => ?_)
                            · skip
                              refine gf_iconst C dd_Mo_leastWith_173 ?_
                              refine gf_istore (lv' := [(10, .int (gf_i 0)), (4, .int (gf_i L3)), (9, .int (gf_i v)), (0, .ref (gf_ad E 65)), (1, .int (gf_i i)), (2, .int (gf_i c)), (3, .int (gf_i 2)), (5, .int (gf_i a)), (6, .int (gf_i b)), (7, .int (gf_i x63)), (8, .int (gf_i x72))]) C dd_Mo_leastWith_174 (by decide) rfl ?_
                              refine gf_aload_n C dd_Mo_leastWith_176 3 rfl ?_
                              refine gf_getA (r := 73) C gf_cl7 fl_Mo_36 dd_Mo_leastWith_177 rfl (show gf_is 81 65 0 7 26 by decide) (by decide) (by decide) ?_
                              refine gf_aload_n C dd_Mo_leastWith_180 3 rfl ?_
                              refine gf_getI (z := 15) C gf_cl7 fl_Mo_146 dd_Mo_leastWith_181 rfl rfl (show gf_is 81 65 0 7 26 by decide) (fun hv181 => ?_)
                              refine gf_callSi (st := []) (As := [.ref (gf_ad E 73), .int (gf_i (m127 65 15))]) C wk_Mo_232 (ct_Mo_asNumber (gf_xl X) E 73 (m127 65 15) 8 m127 (show gf_is 81 73 1 0 8 by decide) (by omega) hF127) rfl ⟨rfl, rfl, rfl, rfl⟩ (Nat.le_of_ble_eq_true rfl) rfl dd_Mo_leastWith_184 (fun r184 m184 hR184 hp184 => ?_)
                              have hr184 := hp184.1
                              refine gf_pm hp184.2 ?_
                              have hnum : r184 = gm_M2 μ a b v := by
                                rw [hr184.1, e127]
                                exact pf_num_congr _ (fun j h0 h1 => f127 j h0 (by omega))
                              have hnR := hr184.2
                              clear hr184 hp184
                              refine gf_istore (lv' := [(11, .int (gf_i r184)), (10, .int (gf_i 0)), (4, .int (gf_i L3)), (9, .int (gf_i v)), (0, .ref (gf_ad E 65)), (1, .int (gf_i i)), (2, .int (gf_i c)), (3, .int (gf_i 2)), (5, .int (gf_i a)), (6, .int (gf_i b)), (7, .int (gf_i x63)), (8, .int (gf_i x72))]) C dd_Mo_leastWith_187 (by decide) rfl ?_
                              refine gf_iload C dd_Mo_leastWith_189 1 rfl ?_
                              refine gf_if_eq 211 C dd_Mo_leastWith_191 (by decide) (by omega) (fun h191 => ?_) (fun h191 => ?_)
                              · skip
                                refine gf_iload C dd_Mo_leastWith_211 2 rfl ?_
                                refine gf_istore (lv' := [(4, .int (gf_i L3)), (11, .int (gf_i r184)), (10, .int (gf_i 0)), (9, .int (gf_i v)), (0, .ref (gf_ad E 65)), (1, .int (gf_i i)), (2, .int (gf_i c)), (3, .int (gf_i 2)), (5, .int (gf_i a)), (6, .int (gf_i b)), (7, .int (gf_i x63)), (8, .int (gf_i x72))]) C dd_Mo_leastWith_213 (by decide) rfl ?_
                                obtain ⟨x215, hx215⟩ : ∃ y : Int, y = v + 1 := ⟨_, rfl⟩
                                refine gf_iinc (q := 3) (v := x215) (lv' := [(9, .int (gf_i x215)), (4, .int (gf_i L3)), (11, .int (gf_i r184)), (10, .int (gf_i 0)), (0, .ref (gf_ad E 65)), (1, .int (gf_i i)), (2, .int (gf_i c)), (3, .int (gf_i 2)), (5, .int (gf_i a)), (6, .int (gf_i b)), (7, .int (gf_i x63)), (8, .int (gf_i x72))]) C dd_Mo_leastWith_215 rfl hx215 (by decide) rfl ?_
                                refine gf_goto 77 C dd_Mo_leastWith_218 (by decide) ?_
                                refine gf_lsub [1, 0, 4, 5, 6, 7, 8, 9, 10, 11] rfl ?_
                                exact ih77_3 L3 x215 m127 (by
                                        refine ⟨by omega, by omega, by omega, ?_, e127, fun j h0 h1 h2 h3 => ?_, fun a b h1 h2 => by rw [o127 a b h2]; exact hvf a b h1 h2⟩
                                        · have hs : ∀ a' b' v' : Int, (a' < a ∨ (a' = a ∧ (b' < b ∨ (b' = b ∧ v' < x215)))) → (a' < a ∨ (a' = a ∧ (b' < b ∨ (b' = b ∧ v' < v)))) ∨ (a' = a ∧ b' = b ∧ v' = v) := fun a' b' v' h => by omega
                                          first
                                          | (have hnc : ¬ gm_C2 μ i c a b v := fun h => by
                                               have h1 := h.2.2.1
                                               have h2 := h.2.2.2.1
                                               have h3 := h.2.2.2.2
                                               first | omega | (rw [← hre] at h2; omega) | (rw [← hre] at h3; omega)
                                             exact gm_lm_no hvl hnc hs)
                                          | (have hcc : gm_C2 μ i c a b v := ⟨⟨by omega, by omega, by omega⟩, ⟨by omega, by omega⟩, by omega, by omega, by rw [← hre]; omega⟩
                                             refine gm_lm_yes hvl hcc (by omega) ?_ hs
                                             rw [← hnum]
                                             first | (rw [if_pos (by omega)]; done) | (rw [if_neg (by omega)]; done))
                                        · rw [f127 j h0 h1]
                                          unfold gm_y2
                                          rw [if_neg h3, if_neg h2]) (by omega)
                              · exact absurd h191 (by decide)
                            · skip
                              refine gf_aload_n C dd_Mo_leastWith_140 2 rfl ?_
                              refine gf_getA (r := 73) C gf_cl7 fl_Mo_36 dd_Mo_leastWith_141 rfl (show gf_is 81 65 0 7 26 by decide) (by decide) (by decide) ?_
                              refine gf_iload C dd_Mo_leastWith_144 7 rfl ?_
                              refine gf_iald C dd_Mo_leastWith_146 (show gf_is 81 73 1 0 8 by decide) (by omega) (fun hv146 => ?_)
                              refine gf_iload C dd_Mo_leastWith_147 9 rfl ?_
                              refine gf_icmp_eq 173 C dd_Mo_leastWith_149 (by decide) (by omega) (by omega) (fun h149 => ?_) (fun h149 => ?_)
                              · skip
                                refine gf_iconst C dd_Mo_leastWith_173 ?_
                                refine gf_istore (lv' := [(10, .int (gf_i 0)), (4, .int (gf_i L3)), (9, .int (gf_i v)), (0, .ref (gf_ad E 65)), (1, .int (gf_i i)), (2, .int (gf_i c)), (3, .int (gf_i 2)), (5, .int (gf_i a)), (6, .int (gf_i b)), (7, .int (gf_i x63)), (8, .int (gf_i x72))]) C dd_Mo_leastWith_174 (by decide) rfl ?_
                                refine gf_aload_n C dd_Mo_leastWith_176 3 rfl ?_
                                refine gf_getA (r := 73) C gf_cl7 fl_Mo_36 dd_Mo_leastWith_177 rfl (show gf_is 81 65 0 7 26 by decide) (by decide) (by decide) ?_
                                refine gf_aload_n C dd_Mo_leastWith_180 3 rfl ?_
                                refine gf_getI (z := 15) C gf_cl7 fl_Mo_146 dd_Mo_leastWith_181 rfl rfl (show gf_is 81 65 0 7 26 by decide) (fun hv181 => ?_)
                                refine gf_callSi (st := []) (As := [.ref (gf_ad E 73), .int (gf_i (m127 65 15))]) C wk_Mo_232 (ct_Mo_asNumber (gf_xl X) E 73 (m127 65 15) 8 m127 (show gf_is 81 73 1 0 8 by decide) (by omega) hF127) rfl ⟨rfl, rfl, rfl, rfl⟩ (Nat.le_of_ble_eq_true rfl) rfl dd_Mo_leastWith_184 (fun r184 m184 hR184 hp184 => ?_)
                                have hr184 := hp184.1
                                refine gf_pm hp184.2 ?_
                                have hnum : r184 = gm_M2 μ a b v := by
                                  rw [hr184.1, e127]
                                  exact pf_num_congr _ (fun j h0 h1 => f127 j h0 (by omega))
                                have hnR := hr184.2
                                clear hr184 hp184
                                refine gf_istore (lv' := [(11, .int (gf_i r184)), (10, .int (gf_i 0)), (4, .int (gf_i L3)), (9, .int (gf_i v)), (0, .ref (gf_ad E 65)), (1, .int (gf_i i)), (2, .int (gf_i c)), (3, .int (gf_i 2)), (5, .int (gf_i a)), (6, .int (gf_i b)), (7, .int (gf_i x63)), (8, .int (gf_i x72))]) C dd_Mo_leastWith_187 (by decide) rfl ?_
                                refine gf_iload C dd_Mo_leastWith_189 1 rfl ?_
                                refine gf_if_eq 211 C dd_Mo_leastWith_191 (by decide) (by omega) (fun h191 => ?_) (fun h191 => ?_)
                                · skip
                                  refine gf_iload C dd_Mo_leastWith_211 2 rfl ?_
                                  refine gf_istore (lv' := [(4, .int (gf_i L3)), (11, .int (gf_i r184)), (10, .int (gf_i 0)), (9, .int (gf_i v)), (0, .ref (gf_ad E 65)), (1, .int (gf_i i)), (2, .int (gf_i c)), (3, .int (gf_i 2)), (5, .int (gf_i a)), (6, .int (gf_i b)), (7, .int (gf_i x63)), (8, .int (gf_i x72))]) C dd_Mo_leastWith_213 (by decide) rfl ?_
                                  obtain ⟨x215, hx215⟩ : ∃ y : Int, y = v + 1 := ⟨_, rfl⟩
                                  refine gf_iinc (q := 3) (v := x215) (lv' := [(9, .int (gf_i x215)), (4, .int (gf_i L3)), (11, .int (gf_i r184)), (10, .int (gf_i 0)), (0, .ref (gf_ad E 65)), (1, .int (gf_i i)), (2, .int (gf_i c)), (3, .int (gf_i 2)), (5, .int (gf_i a)), (6, .int (gf_i b)), (7, .int (gf_i x63)), (8, .int (gf_i x72))]) C dd_Mo_leastWith_215 rfl hx215 (by decide) rfl ?_
                                  refine gf_goto 77 C dd_Mo_leastWith_218 (by decide) ?_
                                  refine gf_lsub [1, 0, 4, 5, 6, 7, 8, 9, 10, 11] rfl ?_
                                  exact ih77_3 L3 x215 m127 (by
                                          refine ⟨by omega, by omega, by omega, ?_, e127, fun j h0 h1 h2 h3 => ?_, fun a b h1 h2 => by rw [o127 a b h2]; exact hvf a b h1 h2⟩
                                          · have hs : ∀ a' b' v' : Int, (a' < a ∨ (a' = a ∧ (b' < b ∨ (b' = b ∧ v' < x215)))) → (a' < a ∨ (a' = a ∧ (b' < b ∨ (b' = b ∧ v' < v)))) ∨ (a' = a ∧ b' = b ∧ v' = v) := fun a' b' v' h => by omega
                                            first
                                            | (have hnc : ¬ gm_C2 μ i c a b v := fun h => by
                                                 have h1 := h.2.2.1
                                                 have h2 := h.2.2.2.1
                                                 have h3 := h.2.2.2.2
                                                 first | omega | (rw [← hre] at h2; omega) | (rw [← hre] at h3; omega)
                                               exact gm_lm_no hvl hnc hs)
                                            | (have hcc : gm_C2 μ i c a b v := ⟨⟨by omega, by omega, by omega⟩, ⟨by omega, by omega⟩, by omega, by omega, by rw [← hre]; omega⟩
                                               refine gm_lm_yes hvl hcc (by omega) ?_ hs
                                               rw [← hnum]
                                               first | (rw [if_pos (by omega)]; done) | (rw [if_neg (by omega)]; done))
                                          · rw [f127 j h0 h1]
                                            unfold gm_y2
                                            rw [if_neg h3, if_neg h2]) (by omega)
                                · exact absurd h191 (by decide)
                              · skip
                                refine gf_aload_n C dd_Mo_leastWith_152 2 rfl ?_
                                refine gf_iload_n C dd_Mo_leastWith_153 3 rfl ?_
                                refine gf_aload_n C dd_Mo_leastWith_154 2 rfl ?_
                                refine gf_getA (r := 73) C gf_cl7 fl_Mo_36 dd_Mo_leastWith_155 rfl (show gf_is 81 65 0 7 26 by decide) (by decide) (by decide) ?_
                                refine gf_aload_n C dd_Mo_leastWith_158 2 rfl ?_
                                refine gf_getI (z := 15) C gf_cl7 fl_Mo_146 dd_Mo_leastWith_159 rfl rfl (show gf_is 81 65 0 7 26 by decide) (fun hv159 => ?_)
                                refine gf_callVi (st := []) (As := [.int (gf_i i), .ref (gf_ad E 73), .int (gf_i (m127 65 15))]) C wk_Mo_152 gf_cl7 (show gf_is 81 65 0 7 26 by decide) (ct_Mo_byGuard (gf_xl X) E i 73 (m127 65 15) 8 m127 (gm_okg_f hg q127) (show gf_is 81 73 1 0 8 by decide) (by omega) hF127) rfl ⟨rfl, rfl, rfl, rfl⟩ (Nat.le_of_ble_eq_true rfl) rfl dd_Mo_leastWith_162 (fun r162 m162 hR162 hp162 => ?_)
                                have hr162 := hp162.1
                                refine gf_pm hp162.2 ?_
                                have hre : r162 = gm_rk μ i (gm_y2 (gm_x μ) a b v) (μ 71 1) := by
                                  rw [hr162.1, gm_rk_f q127, e127]
                                  exact gm_rk_congr (fun j h0 h1 => f127 j h0 (by omega))
                                have hr162b := hr162.2
                                clear hr162 hp162
                                refine gf_iload_n C dd_Mo_leastWith_165 4 rfl ?_
                                refine gf_icmp_ne 173 C dd_Mo_leastWith_166 (by decide) (by omega) (by omega) (fun h166 => ?_) (fun h166 => ?_)
                                · skip
                                  refine gf_iconst C dd_Mo_leastWith_173 ?_
                                  refine gf_istore (lv' := [(10, .int (gf_i 0)), (4, .int (gf_i L3)), (9, .int (gf_i v)), (0, .ref (gf_ad E 65)), (1, .int (gf_i i)), (2, .int (gf_i c)), (3, .int (gf_i 2)), (5, .int (gf_i a)), (6, .int (gf_i b)), (7, .int (gf_i x63)), (8, .int (gf_i x72))]) C dd_Mo_leastWith_174 (by decide) rfl ?_
                                  refine gf_aload_n C dd_Mo_leastWith_176 3 rfl ?_
                                  refine gf_getA (r := 73) C gf_cl7 fl_Mo_36 dd_Mo_leastWith_177 rfl (show gf_is 81 65 0 7 26 by decide) (by decide) (by decide) ?_
                                  refine gf_aload_n C dd_Mo_leastWith_180 3 rfl ?_
                                  refine gf_getI (z := 15) C gf_cl7 fl_Mo_146 dd_Mo_leastWith_181 rfl rfl (show gf_is 81 65 0 7 26 by decide) (fun hv181 => ?_)
                                  refine gf_callSi (st := []) (As := [.ref (gf_ad E 73), .int (gf_i (m127 65 15))]) C wk_Mo_232 (ct_Mo_asNumber (gf_xl X) E 73 (m127 65 15) 8 m127 (show gf_is 81 73 1 0 8 by decide) (by omega) hF127) rfl ⟨rfl, rfl, rfl, rfl⟩ (Nat.le_of_ble_eq_true rfl) rfl dd_Mo_leastWith_184 (fun r184 m184 hR184 hp184 => ?_)
                                  have hr184 := hp184.1
                                  refine gf_pm hp184.2 ?_
                                  have hnum : r184 = gm_M2 μ a b v := by
                                    rw [hr184.1, e127]
                                    exact pf_num_congr _ (fun j h0 h1 => f127 j h0 (by omega))
                                  have hnR := hr184.2
                                  clear hr184 hp184
                                  refine gf_istore (lv' := [(11, .int (gf_i r184)), (10, .int (gf_i 0)), (4, .int (gf_i L3)), (9, .int (gf_i v)), (0, .ref (gf_ad E 65)), (1, .int (gf_i i)), (2, .int (gf_i c)), (3, .int (gf_i 2)), (5, .int (gf_i a)), (6, .int (gf_i b)), (7, .int (gf_i x63)), (8, .int (gf_i x72))]) C dd_Mo_leastWith_187 (by decide) rfl ?_
                                  refine gf_iload C dd_Mo_leastWith_189 1 rfl ?_
                                  refine gf_if_eq 211 C dd_Mo_leastWith_191 (by decide) (by omega) (fun h191 => ?_) (fun h191 => ?_)
                                  · skip
                                    refine gf_iload C dd_Mo_leastWith_211 2 rfl ?_
                                    refine gf_istore (lv' := [(4, .int (gf_i L3)), (11, .int (gf_i r184)), (10, .int (gf_i 0)), (9, .int (gf_i v)), (0, .ref (gf_ad E 65)), (1, .int (gf_i i)), (2, .int (gf_i c)), (3, .int (gf_i 2)), (5, .int (gf_i a)), (6, .int (gf_i b)), (7, .int (gf_i x63)), (8, .int (gf_i x72))]) C dd_Mo_leastWith_213 (by decide) rfl ?_
                                    obtain ⟨x215, hx215⟩ : ∃ y : Int, y = v + 1 := ⟨_, rfl⟩
                                    refine gf_iinc (q := 3) (v := x215) (lv' := [(9, .int (gf_i x215)), (4, .int (gf_i L3)), (11, .int (gf_i r184)), (10, .int (gf_i 0)), (0, .ref (gf_ad E 65)), (1, .int (gf_i i)), (2, .int (gf_i c)), (3, .int (gf_i 2)), (5, .int (gf_i a)), (6, .int (gf_i b)), (7, .int (gf_i x63)), (8, .int (gf_i x72))]) C dd_Mo_leastWith_215 rfl hx215 (by decide) rfl ?_
                                    refine gf_goto 77 C dd_Mo_leastWith_218 (by decide) ?_
                                    refine gf_lsub [1, 0, 4, 5, 6, 7, 8, 9, 10, 11] rfl ?_
                                    exact ih77_3 L3 x215 m127 (by
                                            refine ⟨by omega, by omega, by omega, ?_, e127, fun j h0 h1 h2 h3 => ?_, fun a b h1 h2 => by rw [o127 a b h2]; exact hvf a b h1 h2⟩
                                            · have hs : ∀ a' b' v' : Int, (a' < a ∨ (a' = a ∧ (b' < b ∨ (b' = b ∧ v' < x215)))) → (a' < a ∨ (a' = a ∧ (b' < b ∨ (b' = b ∧ v' < v)))) ∨ (a' = a ∧ b' = b ∧ v' = v) := fun a' b' v' h => by omega
                                              first
                                              | (have hnc : ¬ gm_C2 μ i c a b v := fun h => by
                                                   have h1 := h.2.2.1
                                                   have h2 := h.2.2.2.1
                                                   have h3 := h.2.2.2.2
                                                   first | omega | (rw [← hre] at h2; omega) | (rw [← hre] at h3; omega)
                                                 exact gm_lm_no hvl hnc hs)
                                              | (have hcc : gm_C2 μ i c a b v := ⟨⟨by omega, by omega, by omega⟩, ⟨by omega, by omega⟩, by omega, by omega, by rw [← hre]; omega⟩
                                                 refine gm_lm_yes hvl hcc (by omega) ?_ hs
                                                 rw [← hnum]
                                                 first | (rw [if_pos (by omega)]; done) | (rw [if_neg (by omega)]; done))
                                            · rw [f127 j h0 h1]
                                              unfold gm_y2
                                              rw [if_neg h3, if_neg h2]) (by omega)
                                  · exact absurd h191 (by decide)
                                · skip
                                  refine gf_iconst C dd_Mo_leastWith_169 ?_
                                  refine gf_goto 174 C dd_Mo_leastWith_170 (by decide) ?_
                                  refine gf_istore (lv' := [(10, .int (gf_i 1)), (4, .int (gf_i L3)), (9, .int (gf_i v)), (0, .ref (gf_ad E 65)), (1, .int (gf_i i)), (2, .int (gf_i c)), (3, .int (gf_i 2)), (5, .int (gf_i a)), (6, .int (gf_i b)), (7, .int (gf_i x63)), (8, .int (gf_i x72))]) C dd_Mo_leastWith_174 (by decide) rfl ?_
                                  refine gf_aload_n C dd_Mo_leastWith_176 3 rfl ?_
                                  refine gf_getA (r := 73) C gf_cl7 fl_Mo_36 dd_Mo_leastWith_177 rfl (show gf_is 81 65 0 7 26 by decide) (by decide) (by decide) ?_
                                  refine gf_aload_n C dd_Mo_leastWith_180 3 rfl ?_
                                  refine gf_getI (z := 15) C gf_cl7 fl_Mo_146 dd_Mo_leastWith_181 rfl rfl (show gf_is 81 65 0 7 26 by decide) (fun hv181 => ?_)
                                  refine gf_callSi (st := []) (As := [.ref (gf_ad E 73), .int (gf_i (m127 65 15))]) C wk_Mo_232 (ct_Mo_asNumber (gf_xl X) E 73 (m127 65 15) 8 m127 (show gf_is 81 73 1 0 8 by decide) (by omega) hF127) rfl ⟨rfl, rfl, rfl, rfl⟩ (Nat.le_of_ble_eq_true rfl) rfl dd_Mo_leastWith_184 (fun r184 m184 hR184 hp184 => ?_)
                                  have hr184 := hp184.1
                                  refine gf_pm hp184.2 ?_
                                  have hnum : r184 = gm_M2 μ a b v := by
                                    rw [hr184.1, e127]
                                    exact pf_num_congr _ (fun j h0 h1 => f127 j h0 (by omega))
                                  have hnR := hr184.2
                                  clear hr184 hp184
                                  refine gf_istore (lv' := [(11, .int (gf_i r184)), (10, .int (gf_i 1)), (4, .int (gf_i L3)), (9, .int (gf_i v)), (0, .ref (gf_ad E 65)), (1, .int (gf_i i)), (2, .int (gf_i c)), (3, .int (gf_i 2)), (5, .int (gf_i a)), (6, .int (gf_i b)), (7, .int (gf_i x63)), (8, .int (gf_i x72))]) C dd_Mo_leastWith_187 (by decide) rfl ?_
                                  refine gf_iload C dd_Mo_leastWith_189 1 rfl ?_
                                  refine gf_if_eq 211 C dd_Mo_leastWith_191 (by decide) (by omega) (fun h191 => ?_) (fun h191 => ?_)
                                  · exact absurd h191 (by decide)
                                  · skip
                                    refine gf_iload C dd_Mo_leastWith_194 2 rfl ?_
                                    refine gf_if_lt 206 C dd_Mo_leastWith_196 (by decide) (by omega) (fun h196 => ?_) (fun h196 => ?_)
                                    · skip
                                      refine gf_iload C dd_Mo_leastWith_206 0 rfl ?_
                                      refine gf_goto 213 C dd_Mo_leastWith_208 (by decide) ?_
                                      refine gf_istore (lv' := [(4, .int (gf_i r184)), (11, .int (gf_i r184)), (10, .int (gf_i 1)), (9, .int (gf_i v)), (0, .ref (gf_ad E 65)), (1, .int (gf_i i)), (2, .int (gf_i c)), (3, .int (gf_i 2)), (5, .int (gf_i a)), (6, .int (gf_i b)), (7, .int (gf_i x63)), (8, .int (gf_i x72))]) C dd_Mo_leastWith_213 (by decide) rfl ?_
                                      obtain ⟨x215, hx215⟩ : ∃ y : Int, y = v + 1 := ⟨_, rfl⟩
                                      refine gf_iinc (q := 3) (v := x215) (lv' := [(9, .int (gf_i x215)), (4, .int (gf_i r184)), (11, .int (gf_i r184)), (10, .int (gf_i 1)), (0, .ref (gf_ad E 65)), (1, .int (gf_i i)), (2, .int (gf_i c)), (3, .int (gf_i 2)), (5, .int (gf_i a)), (6, .int (gf_i b)), (7, .int (gf_i x63)), (8, .int (gf_i x72))]) C dd_Mo_leastWith_215 rfl hx215 (by decide) rfl ?_
                                      refine gf_goto 77 C dd_Mo_leastWith_218 (by decide) ?_
                                      refine gf_lsub [1, 0, 4, 5, 6, 7, 8, 9, 10, 11] rfl ?_
                                      exact ih77_3 r184 x215 m127 (by
                                              refine ⟨by omega, by omega, by omega, ?_, e127, fun j h0 h1 h2 h3 => ?_, fun a b h1 h2 => by rw [o127 a b h2]; exact hvf a b h1 h2⟩
                                              · have hs : ∀ a' b' v' : Int, (a' < a ∨ (a' = a ∧ (b' < b ∨ (b' = b ∧ v' < x215)))) → (a' < a ∨ (a' = a ∧ (b' < b ∨ (b' = b ∧ v' < v)))) ∨ (a' = a ∧ b' = b ∧ v' = v) := fun a' b' v' h => by omega
                                                first
                                                | (have hnc : ¬ gm_C2 μ i c a b v := fun h => by
                                                     have h1 := h.2.2.1
                                                     have h2 := h.2.2.2.1
                                                     have h3 := h.2.2.2.2
                                                     first | omega | (rw [← hre] at h2; omega) | (rw [← hre] at h3; omega)
                                                   exact gm_lm_no hvl hnc hs)
                                                | (have hcc : gm_C2 μ i c a b v := ⟨⟨by omega, by omega, by omega⟩, ⟨by omega, by omega⟩, by omega, by omega, by rw [← hre]; omega⟩
                                                   refine gm_lm_yes hvl hcc (by omega) ?_ hs
                                                   rw [← hnum]
                                                   first | (rw [if_pos (by omega)]; done) | (rw [if_neg (by omega)]; done))
                                              · rw [f127 j h0 h1]
                                                unfold gm_y2
                                                rw [if_neg h3, if_neg h2]) (by omega)
                                    · skip
                                      refine gf_iload C dd_Mo_leastWith_199 0 rfl ?_
                                      refine gf_iload C dd_Mo_leastWith_201 2 rfl ?_
                                      refine gf_icmp_ge 211 C dd_Mo_leastWith_203 (by decide) (by omega) (by omega) (fun h203 => ?_) (fun h203 => ?_)
                                      · skip
                                        refine gf_iload C dd_Mo_leastWith_211 2 rfl ?_
                                        refine gf_istore (lv' := [(4, .int (gf_i L3)), (11, .int (gf_i r184)), (10, .int (gf_i 1)), (9, .int (gf_i v)), (0, .ref (gf_ad E 65)), (1, .int (gf_i i)), (2, .int (gf_i c)), (3, .int (gf_i 2)), (5, .int (gf_i a)), (6, .int (gf_i b)), (7, .int (gf_i x63)), (8, .int (gf_i x72))]) C dd_Mo_leastWith_213 (by decide) rfl ?_
                                        obtain ⟨x215, hx215⟩ : ∃ y : Int, y = v + 1 := ⟨_, rfl⟩
                                        refine gf_iinc (q := 3) (v := x215) (lv' := [(9, .int (gf_i x215)), (4, .int (gf_i L3)), (11, .int (gf_i r184)), (10, .int (gf_i 1)), (0, .ref (gf_ad E 65)), (1, .int (gf_i i)), (2, .int (gf_i c)), (3, .int (gf_i 2)), (5, .int (gf_i a)), (6, .int (gf_i b)), (7, .int (gf_i x63)), (8, .int (gf_i x72))]) C dd_Mo_leastWith_215 rfl hx215 (by decide) rfl ?_
                                        refine gf_goto 77 C dd_Mo_leastWith_218 (by decide) ?_
                                        refine gf_lsub [1, 0, 4, 5, 6, 7, 8, 9, 10, 11] rfl ?_
                                        exact ih77_3 L3 x215 m127 (by
                                                refine ⟨by omega, by omega, by omega, ?_, e127, fun j h0 h1 h2 h3 => ?_, fun a b h1 h2 => by rw [o127 a b h2]; exact hvf a b h1 h2⟩
                                                · have hs : ∀ a' b' v' : Int, (a' < a ∨ (a' = a ∧ (b' < b ∨ (b' = b ∧ v' < x215)))) → (a' < a ∨ (a' = a ∧ (b' < b ∨ (b' = b ∧ v' < v)))) ∨ (a' = a ∧ b' = b ∧ v' = v) := fun a' b' v' h => by omega
                                                  first
                                                  | (have hnc : ¬ gm_C2 μ i c a b v := fun h => by
                                                       have h1 := h.2.2.1
                                                       have h2 := h.2.2.2.1
                                                       have h3 := h.2.2.2.2
                                                       first | omega | (rw [← hre] at h2; omega) | (rw [← hre] at h3; omega)
                                                     exact gm_lm_no hvl hnc hs)
                                                  | (have hcc : gm_C2 μ i c a b v := ⟨⟨by omega, by omega, by omega⟩, ⟨by omega, by omega⟩, by omega, by omega, by rw [← hre]; omega⟩
                                                     refine gm_lm_yes hvl hcc (by omega) ?_ hs
                                                     rw [← hnum]
                                                     first | (rw [if_pos (by omega)]; done) | (rw [if_neg (by omega)]; done))
                                                · rw [f127 j h0 h1]
                                                  unfold gm_y2
                                                  rw [if_neg h3, if_neg h2]) (by omega)
                                      · skip
                                        refine gf_iload C dd_Mo_leastWith_206 0 rfl ?_
                                        refine gf_goto 213 C dd_Mo_leastWith_208 (by decide) ?_
                                        refine gf_istore (lv' := [(4, .int (gf_i r184)), (11, .int (gf_i r184)), (10, .int (gf_i 1)), (9, .int (gf_i v)), (0, .ref (gf_ad E 65)), (1, .int (gf_i i)), (2, .int (gf_i c)), (3, .int (gf_i 2)), (5, .int (gf_i a)), (6, .int (gf_i b)), (7, .int (gf_i x63)), (8, .int (gf_i x72))]) C dd_Mo_leastWith_213 (by decide) rfl ?_
                                        obtain ⟨x215, hx215⟩ : ∃ y : Int, y = v + 1 := ⟨_, rfl⟩
                                        refine gf_iinc (q := 3) (v := x215) (lv' := [(9, .int (gf_i x215)), (4, .int (gf_i r184)), (11, .int (gf_i r184)), (10, .int (gf_i 1)), (0, .ref (gf_ad E 65)), (1, .int (gf_i i)), (2, .int (gf_i c)), (3, .int (gf_i 2)), (5, .int (gf_i a)), (6, .int (gf_i b)), (7, .int (gf_i x63)), (8, .int (gf_i x72))]) C dd_Mo_leastWith_215 rfl hx215 (by decide) rfl ?_
                                        refine gf_goto 77 C dd_Mo_leastWith_218 (by decide) ?_
                                        refine gf_lsub [1, 0, 4, 5, 6, 7, 8, 9, 10, 11] rfl ?_
                                        exact ih77_3 r184 x215 m127 (by
                                                refine ⟨by omega, by omega, by omega, ?_, e127, fun j h0 h1 h2 h3 => ?_, fun a b h1 h2 => by rw [o127 a b h2]; exact hvf a b h1 h2⟩
                                                · have hs : ∀ a' b' v' : Int, (a' < a ∨ (a' = a ∧ (b' < b ∨ (b' = b ∧ v' < x215)))) → (a' < a ∨ (a' = a ∧ (b' < b ∨ (b' = b ∧ v' < v)))) ∨ (a' = a ∧ b' = b ∧ v' = v) := fun a' b' v' h => by omega
                                                  first
                                                  | (have hnc : ¬ gm_C2 μ i c a b v := fun h => by
                                                       have h1 := h.2.2.1
                                                       have h2 := h.2.2.2.1
                                                       have h3 := h.2.2.2.2
                                                       first | omega | (rw [← hre] at h2; omega) | (rw [← hre] at h3; omega)
                                                     exact gm_lm_no hvl hnc hs)
                                                  | (have hcc : gm_C2 μ i c a b v := ⟨⟨by omega, by omega, by omega⟩, ⟨by omega, by omega⟩, by omega, by omega, by rw [← hre]; omega⟩
                                                     refine gm_lm_yes hvl hcc (by omega) ?_ hs
                                                     rw [← hnum]
                                                     first | (rw [if_pos (by omega)]; done) | (rw [if_neg (by omega)]; done))
                                                · rw [f127 j h0 h1]
                                                  unfold gm_y2
                                                  rw [if_neg h3, if_neg h2]) (by omega)
                          · exact absurd h114 (by decide)
                      · exact absurd h81 (by decide)
                  refine gf_lsub [3, 0, 5, 6, 7, 8, 9, 4, 2, 1] rfl ?_
                  exact L77_3 _ L2 0 m2 (⟨by omega, by omega, hbR, gm_lm_sub hbl (fun a' b' v' hd hc => by
                            rcases hd with h | ⟨h, h2⟩
                            · exact Or.inl h
                            · rcases h2 with h2 | ⟨h2, h3⟩
                              · exact Or.inr ⟨h, h2⟩
                              · exfalso
                                have h4 := hc.2.1
                                omega), hb15, fun j h0 h1 _ _ => hb73 j h0 h1, hbf⟩) (Nat.lt_succ_self _)
              · exact absurd h39 (by decide)
          refine gf_lsub [1, 0, 3, 4, 5, 6, 2] rfl ?_
          exact L35_2 _ L x33 m (⟨by omega, haR, gm_lm_sub hal (fun a' b' v' hd hc => by
                    rcases hd with h | h
                    · exact h
                    · exfalso
                      have h2 := hc.1
                      omega), ha15, ha73, haf⟩) (Nat.lt_succ_self _)
        · exact absurd h21 (by decide)
  refine gf_lsub [1, 0, 2, 3, 4, 5] rfl ?_
  exact L10_1 _ (-1) 0 m1 (⟨by omega, by omega, by omega, Or.inl ⟨rfl, fun a b v hd hc => by have := hc.1; omega⟩, hw15, hw73, hwf⟩) (Nat.lt_succ_self _)
