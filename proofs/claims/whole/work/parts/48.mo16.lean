theorem dd_Mo_lots_0 : decode cc_Mo_lots 0 = .ok (.iload_n 1, 1) := by decide +kernel
theorem dd_Mo_lots_1 : decode cc_Mo_lots 1 = .ok (.i2l, 1) := by decide +kernel
theorem dd_Mo_lots_2 : decode cc_Mo_lots 2 = .ok (.lconst 1, 1) := by decide +kernel
theorem dd_Mo_lots_3 : decode cc_Mo_lots 3 = .ok (.ldc2_w 266, 3) := by decide +kernel
theorem dd_Mo_lots_6 : decode cc_Mo_lots 6 = .ok (.invokestatic 69, 3) := by decide +kernel
theorem dd_Mo_lots_9 : decode cc_Mo_lots 9 = .ok (.ifCond .eq 15, 3) := by decide +kernel
theorem dd_Mo_lots_12 : decode cc_Mo_lots 12 = .ok (.iload_n 2, 1) := by decide +kernel
theorem dd_Mo_lots_13 : decode cc_Mo_lots 13 = .ok (.i2l, 1) := by decide +kernel
theorem dd_Mo_lots_14 : decode cc_Mo_lots 14 = .ok (.lconst 1, 1) := by decide +kernel
theorem dd_Mo_lots_15 : decode cc_Mo_lots 15 = .ok (.ldc2_w 268, 3) := by decide +kernel
theorem dd_Mo_lots_18 : decode cc_Mo_lots 18 = .ok (.invokestatic 69, 3) := by decide +kernel
theorem dd_Mo_lots_21 : decode cc_Mo_lots 21 = .ok (.ifCond .ne 5, 3) := by decide +kernel
theorem dd_Mo_lots_24 : decode cc_Mo_lots 24 = .ok (.iconst (-1), 1) := by decide +kernel
theorem dd_Mo_lots_25 : decode cc_Mo_lots 25 = .ok (.ireturn, 1) := by decide +kernel
theorem dd_Mo_lots_26 : decode cc_Mo_lots 26 = .ok (.aload_n 0, 1) := by decide +kernel
theorem dd_Mo_lots_27 : decode cc_Mo_lots 27 = .ok (.getfield 30, 3) := by decide +kernel
theorem dd_Mo_lots_30 : decode cc_Mo_lots 30 = .ok (.iconst 0, 1) := by decide +kernel
theorem dd_Mo_lots_31 : decode cc_Mo_lots 31 = .ok (.iaload, 1) := by decide +kernel
theorem dd_Mo_lots_32 : decode cc_Mo_lots 32 = .ok (.ifCond .ne 6, 3) := by decide +kernel
theorem dd_Mo_lots_35 : decode cc_Mo_lots 35 = .ok (.bipush (-4), 2) := by decide +kernel
theorem dd_Mo_lots_37 : decode cc_Mo_lots 37 = .ok (.ireturn, 1) := by decide +kernel
theorem dd_Mo_lots_38 : decode cc_Mo_lots 38 = .ok (.aload_n 0, 1) := by decide +kernel
theorem dd_Mo_lots_39 : decode cc_Mo_lots 39 = .ok (.getfield 30, 3) := by decide +kernel
theorem dd_Mo_lots_42 : decode cc_Mo_lots 42 = .ok (.iconst 2, 1) := by decide +kernel
theorem dd_Mo_lots_43 : decode cc_Mo_lots 43 = .ok (.iaload, 1) := by decide +kernel
theorem dd_Mo_lots_44 : decode cc_Mo_lots 44 = .ok (.iload_n 1, 1) := by decide +kernel
theorem dd_Mo_lots_45 : decode cc_Mo_lots 45 = .ok (.iadd, 1) := by decide +kernel
theorem dd_Mo_lots_46 : decode cc_Mo_lots 46 = .ok (.bipush 40, 2) := by decide +kernel
theorem dd_Mo_lots_48 : decode cc_Mo_lots 48 = .ok (.if_icmp .le 6, 3) := by decide +kernel
theorem dd_Mo_lots_51 : decode cc_Mo_lots 51 = .ok (.bipush (-2), 2) := by decide +kernel
theorem dd_Mo_lots_53 : decode cc_Mo_lots 53 = .ok (.ireturn, 1) := by decide +kernel
theorem dd_Mo_lots_54 : decode cc_Mo_lots 54 = .ok (.iload_n 2, 1) := by decide +kernel
theorem dd_Mo_lots_55 : decode cc_Mo_lots 55 = .ok (.i2l, 1) := by decide +kernel
theorem dd_Mo_lots_56 : decode cc_Mo_lots 56 = .ok (.lstore_n 3, 1) := by decide +kernel
theorem dd_Mo_lots_57 : decode cc_Mo_lots 57 = .ok (.iconst 0, 1) := by decide +kernel
theorem dd_Mo_lots_58 : decode cc_Mo_lots 58 = .ok (.istore 5, 2) := by decide +kernel
theorem dd_Mo_lots_60 : decode cc_Mo_lots 60 = .ok (.iload 5, 2) := by decide +kernel
theorem dd_Mo_lots_62 : decode cc_Mo_lots 62 = .ok (.iload_n 1, 1) := by decide +kernel
theorem dd_Mo_lots_63 : decode cc_Mo_lots 63 = .ok (.if_icmp .ge 132, 3) := by decide +kernel
theorem dd_Mo_lots_66 : decode cc_Mo_lots 66 = .ok (.lload_n 3, 1) := by decide +kernel
theorem dd_Mo_lots_67 : decode cc_Mo_lots 67 = .ok (.ldc2_w 270, 3) := by decide +kernel
theorem dd_Mo_lots_70 : decode cc_Mo_lots 70 = .ok (.lmul, 1) := by decide +kernel
theorem dd_Mo_lots_71 : decode cc_Mo_lots 71 = .ok (.ldc2_w 272, 3) := by decide +kernel
theorem dd_Mo_lots_74 : decode cc_Mo_lots 74 = .ok (.lrem, 1) := by decide +kernel
theorem dd_Mo_lots_75 : decode cc_Mo_lots 75 = .ok (.lstore_n 3, 1) := by decide +kernel
theorem dd_Mo_lots_76 : decode cc_Mo_lots 76 = .ok (.lload_n 3, 1) := by decide +kernel
theorem dd_Mo_lots_77 : decode cc_Mo_lots 77 = .ok (.ldc2_w 189, 3) := by decide +kernel
theorem dd_Mo_lots_80 : decode cc_Mo_lots 80 = .ok (.lrem, 1) := by decide +kernel
theorem dd_Mo_lots_81 : decode cc_Mo_lots 81 = .ok (.l2i, 1) := by decide +kernel
theorem dd_Mo_lots_82 : decode cc_Mo_lots 82 = .ok (.istore 6, 2) := by decide +kernel
theorem dd_Mo_lots_84 : decode cc_Mo_lots 84 = .ok (.lload_n 3, 1) := by decide +kernel
theorem dd_Mo_lots_85 : decode cc_Mo_lots 85 = .ok (.ldc2_w 240, 3) := by decide +kernel
theorem dd_Mo_lots_88 : decode cc_Mo_lots 88 = .ok (.ldiv, 1) := by decide +kernel
theorem dd_Mo_lots_89 : decode cc_Mo_lots 89 = .ok (.ldc2_w 230, 3) := by decide +kernel
theorem dd_Mo_lots_92 : decode cc_Mo_lots 92 = .ok (.lrem, 1) := by decide +kernel
theorem dd_Mo_lots_93 : decode cc_Mo_lots 93 = .ok (.l2i, 1) := by decide +kernel
theorem dd_Mo_lots_94 : decode cc_Mo_lots 94 = .ok (.istore 7, 2) := by decide +kernel
theorem dd_Mo_lots_96 : decode cc_Mo_lots 96 = .ok (.lload_n 3, 1) := by decide +kernel
theorem dd_Mo_lots_97 : decode cc_Mo_lots 97 = .ok (.ldc2_w 274, 3) := by decide +kernel
theorem dd_Mo_lots_100 : decode cc_Mo_lots 100 = .ok (.ldiv, 1) := by decide +kernel
theorem dd_Mo_lots_101 : decode cc_Mo_lots 101 = .ok (.ldc2_w 240, 3) := by decide +kernel
theorem dd_Mo_lots_104 : decode cc_Mo_lots 104 = .ok (.lrem, 1) := by decide +kernel
theorem dd_Mo_lots_105 : decode cc_Mo_lots 105 = .ok (.l2i, 1) := by decide +kernel
theorem dd_Mo_lots_106 : decode cc_Mo_lots 106 = .ok (.istore 8, 2) := by decide +kernel
theorem dd_Mo_lots_108 : decode cc_Mo_lots 108 = .ok (.aload_n 0, 1) := by decide +kernel
theorem dd_Mo_lots_109 : decode cc_Mo_lots 109 = .ok (.invokevirtual 201, 3) := by decide +kernel
theorem dd_Mo_lots_112 : decode cc_Mo_lots 112 = .ok (.iload 6, 2) := by decide +kernel
theorem dd_Mo_lots_114 : decode cc_Mo_lots 114 = .ok (.iconst 2, 1) := by decide +kernel
theorem dd_Mo_lots_115 : decode cc_Mo_lots 115 = .ok (.if_icmp .ge 23, 3) := by decide +kernel
theorem dd_Mo_lots_118 : decode cc_Mo_lots 118 = .ok (.aload_n 0, 1) := by decide +kernel
theorem dd_Mo_lots_119 : decode cc_Mo_lots 119 = .ok (.getfield 30, 3) := by decide +kernel
theorem dd_Mo_lots_122 : decode cc_Mo_lots 122 = .ok (.iconst 1, 1) := by decide +kernel
theorem dd_Mo_lots_123 : decode cc_Mo_lots 123 = .ok (.iaload, 1) := by decide +kernel
theorem dd_Mo_lots_124 : decode cc_Mo_lots 124 = .ok (.bipush 8, 2) := by decide +kernel
theorem dd_Mo_lots_126 : decode cc_Mo_lots 126 = .ok (.if_icmp .ge 12, 3) := by decide +kernel
theorem dd_Mo_lots_129 : decode cc_Mo_lots 129 = .ok (.aload_n 0, 1) := by decide +kernel
theorem dd_Mo_lots_130 : decode cc_Mo_lots 130 = .ok (.iload 7, 2) := by decide +kernel
theorem dd_Mo_lots_132 : decode cc_Mo_lots 132 = .ok (.invokevirtual 204, 3) := by decide +kernel
theorem dd_Mo_lots_135 : decode cc_Mo_lots 135 = .ok (.goto 54, 3) := by decide +kernel
theorem dd_Mo_lots_138 : decode cc_Mo_lots 138 = .ok (.iload 6, 2) := by decide +kernel
theorem dd_Mo_lots_140 : decode cc_Mo_lots 140 = .ok (.iconst 2, 1) := by decide +kernel
theorem dd_Mo_lots_141 : decode cc_Mo_lots 141 = .ok (.if_icmp .ne 19, 3) := by decide +kernel
theorem dd_Mo_lots_144 : decode cc_Mo_lots 144 = .ok (.aload_n 0, 1) := by decide +kernel
theorem dd_Mo_lots_145 : decode cc_Mo_lots 145 = .ok (.getfield 30, 3) := by decide +kernel
theorem dd_Mo_lots_148 : decode cc_Mo_lots 148 = .ok (.iconst 1, 1) := by decide +kernel
theorem dd_Mo_lots_149 : decode cc_Mo_lots 149 = .ok (.iaload, 1) := by decide +kernel
theorem dd_Mo_lots_150 : decode cc_Mo_lots 150 = .ok (.ifCond .le 10, 3) := by decide +kernel
theorem dd_Mo_lots_153 : decode cc_Mo_lots 153 = .ok (.aload_n 0, 1) := by decide +kernel
theorem dd_Mo_lots_154 : decode cc_Mo_lots 154 = .ok (.invokevirtual 207, 3) := by decide +kernel
theorem dd_Mo_lots_157 : decode cc_Mo_lots 157 = .ok (.goto 32, 3) := by decide +kernel
theorem dd_Mo_lots_160 : decode cc_Mo_lots 160 = .ok (.iload 6, 2) := by decide +kernel
theorem dd_Mo_lots_162 : decode cc_Mo_lots 162 = .ok (.iconst 3, 1) := by decide +kernel
theorem dd_Mo_lots_163 : decode cc_Mo_lots 163 = .ok (.if_icmp .ne 26, 3) := by decide +kernel
theorem dd_Mo_lots_166 : decode cc_Mo_lots 166 = .ok (.iload 8, 2) := by decide +kernel
theorem dd_Mo_lots_168 : decode cc_Mo_lots 168 = .ok (.aload_n 0, 1) := by decide +kernel
theorem dd_Mo_lots_169 : decode cc_Mo_lots 169 = .ok (.getfield 30, 3) := by decide +kernel
theorem dd_Mo_lots_172 : decode cc_Mo_lots 172 = .ok (.iconst 1, 1) := by decide +kernel
theorem dd_Mo_lots_173 : decode cc_Mo_lots 173 = .ok (.iaload, 1) := by decide +kernel
theorem dd_Mo_lots_174 : decode cc_Mo_lots 174 = .ok (.if_icmp .ge 15, 3) := by decide +kernel
theorem dd_Mo_lots_177 : decode cc_Mo_lots 177 = .ok (.aload_n 0, 1) := by decide +kernel
theorem dd_Mo_lots_178 : decode cc_Mo_lots 178 = .ok (.getfield 30, 3) := by decide +kernel
theorem dd_Mo_lots_181 : decode cc_Mo_lots 181 = .ok (.bipush 24, 2) := by decide +kernel
theorem dd_Mo_lots_183 : decode cc_Mo_lots 183 = .ok (.iload 8, 2) := by decide +kernel
theorem dd_Mo_lots_185 : decode cc_Mo_lots 185 = .ok (.iadd, 1) := by decide +kernel
theorem dd_Mo_lots_186 : decode cc_Mo_lots 186 = .ok (.iload 7, 2) := by decide +kernel
theorem dd_Mo_lots_188 : decode cc_Mo_lots 188 = .ok (.iastore, 1) := by decide +kernel
theorem dd_Mo_lots_189 : decode cc_Mo_lots 189 = .ok (.iinc 5 1, 3) := by decide +kernel
theorem dd_Mo_lots_192 : decode cc_Mo_lots 192 = .ok (.goto (-132), 3) := by decide +kernel
theorem dd_Mo_lots_195 : decode cc_Mo_lots 195 = .ok (.aload_n 0, 1) := by decide +kernel
theorem dd_Mo_lots_196 : decode cc_Mo_lots 196 = .ok (.getfield 30, 3) := by decide +kernel
theorem dd_Mo_lots_199 : decode cc_Mo_lots 199 = .ok (.iconst 1, 1) := by decide +kernel
theorem dd_Mo_lots_200 : decode cc_Mo_lots 200 = .ok (.iaload, 1) := by decide +kernel
theorem dd_Mo_lots_201 : decode cc_Mo_lots 201 = .ok (.ireturn, 1) := by decide +kernel
set_option maxRecDepth 100000 in
set_option maxHeartbeats 4000000 in
theorem ct_Mo_lots (l : Launch) (E : gf_E) (n s : Int) (μ : gf_M) (hnR : gf_R n) (hsR : gf_R s) (hc : 0 ≤ μ 71 0 ∧ μ 71 0 ≤ 7) (hn : 0 ≤ μ 71 1 ∧ μ 71 1 ≤ 8) (hd : 0 ≤ μ 71 2 ∧ μ 71 2 ≤ 40)  : gf_Mi l E yy_Mo_lots cc_Mo_lots 9 .int (gf_rm 1 25) 81 gf_ref μ [.ref (gf_ad E 65), .int (gf_i n), .int (gf_i s)] (fun q μ' => (¬ (1 ≤ n ∧ n ≤ 20 ∧ 1 ≤ s ∧ s ≤ 2147483646) → q = -1 ∧ μ' = μ) ∧ (1 ≤ n ∧ n ≤ 20 ∧ 1 ≤ s ∧ s ≤ 2147483646 → (μ 71 0 = 0 → q = -4 ∧ μ' = μ) ∧ (μ 71 0 ≠ 0 → (40 < μ 71 2 + n → q = -2 ∧ μ' = μ) ∧ (μ 71 2 + n ≤ 40 → q = gm_lots μ s n.toNat 71 1 ∧ μ' = gm_lots μ s n.toNat)))) := by
  refine gf_mi (by decide +kernel) (Nat.le_of_ble_eq_true rfl) (by decide) (fun X Q hlx C hQ => ?_)
  subst hlx
  replace C : gf_C X E cc_Mo_lots 9 "GuardFiguresModel" (gf_rm 1 25) := C
  show gf_G X E Q 9 gf_φ μ 0 [(0, .ref (gf_ad E 65)), (1, .int (gf_i n)), (2, .int (gf_i s))] []
  refine gf_iload_n C dd_Mo_lots_0 1 rfl ?_
  refine gf_gi2l C dd_Mo_lots_1 (by omega) ?_
  refine gf_lconst 1 C dd_Mo_lots_2 (by decide +kernel) ?_
  refine gf_ldc2 20 C dd_Mo_lots_3 ck_Mo_266 (by decide +kernel) ?_
  refine gf_callSi (st := []) (As := [.long (gf_l n), .long (gf_l 1), .long (gf_l 20)]) C wk_Mo_69 (ct_Mo_in (gf_xl X) E n 1 20 μ (by omega) (by omega) (by omega)) rfl ⟨rfl, rfl, rfl, rfl⟩ (Nat.le_of_ble_eq_true rfl) rfl dd_Mo_lots_6 (fun r6 m6 hR6 hp6 => ?_)
  have hr6 := hp6.1
  refine gf_pm hp6.2 ?_
  refine gf_if_eq 24 C dd_Mo_lots_9 (by decide) (by omega) (fun h9 => ?_) (fun h9 => ?_)
  · skip
    refine gf_iconst C dd_Mo_lots_24 ?_
    refine gf_iret C hQ dd_Mo_lots_25 (by omega) ?_
    exact ⟨fun _ => ⟨rfl, rfl⟩, fun h => absurd h (by omega)⟩
  · skip
    refine gf_iload_n C dd_Mo_lots_12 2 rfl ?_
    refine gf_gi2l C dd_Mo_lots_13 (by omega) ?_
    refine gf_lconst 1 C dd_Mo_lots_14 (by decide +kernel) ?_
    refine gf_ldc2 2147483646 C dd_Mo_lots_15 ck_Mo_268 (by decide +kernel) ?_
    refine gf_callSi (st := []) (As := [.long (gf_l s), .long (gf_l 1), .long (gf_l 2147483646)]) C wk_Mo_69 (ct_Mo_in (gf_xl X) E s 1 2147483646 μ (by omega) (by omega) (by omega)) rfl ⟨rfl, rfl, rfl, rfl⟩ (Nat.le_of_ble_eq_true rfl) rfl dd_Mo_lots_18 (fun r18 m18 hR18 hp18 => ?_)
    have hr18 := hp18.1
    refine gf_pm hp18.2 ?_
    refine gf_if_ne 26 C dd_Mo_lots_21 (by decide) (by omega) (fun h21 => ?_) (fun h21 => ?_)
    · skip
      have hin : 1 ≤ n ∧ n ≤ 20 ∧ 1 ≤ s ∧ s ≤ 2147483646 := by omega
      clear hr6 hr18 hp6 hp18
      refine gf_aload_n C dd_Mo_lots_26 0 rfl ?_
      refine gf_getA (r := 71) C gf_cl7 fl_Mo_30 dd_Mo_lots_27 rfl (show gf_is 81 65 0 7 26 by decide) (by decide) (by decide) ?_
      refine gf_iconst C dd_Mo_lots_30 ?_
      refine gf_iald C dd_Mo_lots_31 (show gf_is 81 71 1 0 392 by decide) (by omega) (fun hv31 => ?_)
      refine gf_if_ne 38 C dd_Mo_lots_32 (by decide) (by omega) (fun h32 => ?_) (fun h32 => ?_)
      · skip
        refine gf_aload_n C dd_Mo_lots_38 0 rfl ?_
        refine gf_getA (r := 71) C gf_cl7 fl_Mo_30 dd_Mo_lots_39 rfl (show gf_is 81 65 0 7 26 by decide) (by decide) (by decide) ?_
        refine gf_iconst C dd_Mo_lots_42 ?_
        refine gf_iald C dd_Mo_lots_43 (show gf_is 81 71 1 0 392 by decide) (by omega) (fun hv43 => ?_)
        refine gf_iload_n C dd_Mo_lots_44 1 rfl ?_
        refine gf_iadd C dd_Mo_lots_45 ?_
        refine gf_bipush C dd_Mo_lots_46 (by decide +kernel) ?_
        refine gf_icmp_le 54 C dd_Mo_lots_48 (by decide) (by omega) (by omega) (fun h48 => ?_) (fun h48 => ?_)
        · skip
          refine gf_iload_n C dd_Mo_lots_54 2 rfl ?_
          refine gf_gi2l C dd_Mo_lots_55 (by omega) ?_
          refine gf_lstore_n (lv' := [(3, .long (gf_l s)), (0, .ref (gf_ad E 65)), (1, .int (gf_i n)), (2, .int (gf_i s))]) C dd_Mo_lots_56 (by decide) rfl ?_
          refine gf_iconst C dd_Mo_lots_57 ?_
          refine gf_istore (lv' := [(5, .int (gf_i 0)), (3, .long (gf_l s)), (0, .ref (gf_ad E 65)), (1, .int (gf_i n)), (2, .int (gf_i s))]) C dd_Mo_lots_58 (by decide) rfl ?_
          have L60_1 : ∀ (N : Nat) (x d : Int) (m : gf_M) , (0 ≤ d ∧ d ≤ n ∧ x = pf_lot s d.toNat ∧ m = gm_lots μ s d.toNat ∧ (0 ≤ m 71 1 ∧ m 71 1 ≤ 8) ∧ m 71 2 = μ 71 2 + d) → (20 - d).toNat < N → gf_G X E Q 9 gf_φ m 60 [(3, .long (gf_l x)), (5, .int (gf_i d)), (0, .ref (gf_ad E 65)), (1, .int (gf_i n)), (2, .int (gf_i s))] [] := by
            intro N
            induction N with
            | zero => intro x d m hinv hN; exact absurd hN (Nat.not_lt_zero _)
            | succ N ih60_1 =>
              intro x d m hinv hN
              have hinv0 := hinv
              obtain ⟨hd0, hd1, hx, hm, hz, hdd⟩ := hinv
              have hlR := pf_lot_R (s := s) (by omega) d.toNat
              rw [← hx] at hlR
              refine gf_iload C dd_Mo_lots_60 1 rfl ?_
              refine gf_iload_n C dd_Mo_lots_62 3 rfl ?_
              refine gf_icmp_ge 195 C dd_Mo_lots_63 (by decide) (by omega) (by omega) (fun h63 => ?_) (fun h63 => ?_)
              · skip
                refine gf_aload_n C dd_Mo_lots_195 2 rfl ?_
                refine gf_getA (r := 71) C gf_cl7 fl_Mo_30 dd_Mo_lots_196 rfl (show gf_is 81 65 0 7 26 by decide) (by decide) (by decide) ?_
                refine gf_iconst C dd_Mo_lots_199 ?_
                refine gf_iald C dd_Mo_lots_200 (show gf_is 81 71 1 0 392 by decide) (by omega) (fun hv200 => ?_)
                refine gf_iret C hQ dd_Mo_lots_201 (by omega) ?_
                have en : d.toNat = n.toNat := by omega
                rw [en] at hm
                exact ⟨fun h => absurd h (by omega), fun _ => ⟨fun h => absurd h (by omega), fun _ => ⟨fun h => absurd h (by omega), fun _ => ⟨by rw [hm], hm⟩⟩⟩⟩
              · skip
                refine gf_lload_n C dd_Mo_lots_66 0 rfl ?_
                refine gf_ldc2 48271 C dd_Mo_lots_67 ck_Mo_270 (by decide +kernel) ?_
                refine gf_lmul C dd_Mo_lots_70 ?_
                refine gf_ldc2 2147483647 C dd_Mo_lots_71 ck_Mo_272 (by decide +kernel) ?_
                refine gf_lrem C dd_Mo_lots_74 (by omega) ?_
                refine gf_nml (fun x75 hx75 => ?_)
                refine gf_lstore_n (lv' := [(3, .long (gf_l x75)), (5, .int (gf_i d)), (0, .ref (gf_ad E 65)), (1, .int (gf_i n)), (2, .int (gf_i s))]) C dd_Mo_lots_75 (by decide) rfl ?_
                refine gf_lload_n C dd_Mo_lots_76 0 rfl ?_
                refine gf_ldc2 4 C dd_Mo_lots_77 ck_Mo_189 (by decide +kernel) ?_
                refine gf_lrem C dd_Mo_lots_80 (by omega) ?_
                refine gf_gl2i C dd_Mo_lots_81 ?_
                refine gf_nm (fun x82 hx82 => ?_)
                refine gf_istore (lv' := [(6, .int (gf_i x82)), (3, .long (gf_l x75)), (5, .int (gf_i d)), (0, .ref (gf_ad E 65)), (1, .int (gf_i n)), (2, .int (gf_i s))]) C dd_Mo_lots_82 (by decide) rfl ?_
                have t8 : Int.tdiv x75 8 = x75 / 8 := Int.tdiv_eq_ediv_of_nonneg (by omega)
                have t128 : Int.tdiv x75 128 = x75 / 128 := Int.tdiv_eq_ediv_of_nonneg (by omega)
                refine gf_lload_n C dd_Mo_lots_84 1 rfl ?_
                refine gf_ldc2 8 C dd_Mo_lots_85 ck_Mo_240 (by decide +kernel) ?_
                refine gf_ldiv C dd_Mo_lots_88 (by omega) ?_
                refine gf_ldc2 10 C dd_Mo_lots_89 ck_Mo_230 (by decide +kernel) ?_
                refine gf_lrem C dd_Mo_lots_92 (by omega) ?_
                refine gf_gl2i C dd_Mo_lots_93 ?_
                refine gf_nm (fun x94 hx94 => ?_)
                refine gf_istore (lv' := [(7, .int (gf_i x94)), (6, .int (gf_i x82)), (3, .long (gf_l x75)), (5, .int (gf_i d)), (0, .ref (gf_ad E 65)), (1, .int (gf_i n)), (2, .int (gf_i s))]) C dd_Mo_lots_94 (by decide) rfl ?_
                refine gf_lload_n C dd_Mo_lots_96 2 rfl ?_
                refine gf_ldc2 128 C dd_Mo_lots_97 ck_Mo_274 (by decide +kernel) ?_
                refine gf_ldiv C dd_Mo_lots_100 (by omega) ?_
                refine gf_ldc2 8 C dd_Mo_lots_101 ck_Mo_240 (by decide +kernel) ?_
                refine gf_lrem C dd_Mo_lots_104 (by omega) ?_
                refine gf_gl2i C dd_Mo_lots_105 ?_
                refine gf_nm (fun x106 hx106 => ?_)
                refine gf_istore (lv' := [(8, .int (gf_i x106)), (7, .int (gf_i x94)), (6, .int (gf_i x82)), (3, .long (gf_l x75)), (5, .int (gf_i d)), (0, .ref (gf_ad E 65)), (1, .int (gf_i n)), (2, .int (gf_i s))]) C dd_Mo_lots_106 (by decide) rfl ?_
                refine gf_aload_n C dd_Mo_lots_108 5 rfl ?_
                refine gf_callVv (st := []) (As := []) C wk_Mo_201 gf_cl7 (show gf_is 81 65 0 7 26 by decide) (ct_Mo_note (gf_xl X) E m (by omega) (by omega)) rfl ⟨rfl, rfl, rfl, rfl⟩ (Nat.le_of_ble_eq_true rfl) rfl dd_Mo_lots_109 (fun m109 hp109 => ?_)
                have n1 : m109 71 1 = m 71 1 := by rw [hp109]; exact gm_nt_b (by omega) (by omega)
                have n2 : m109 71 2 = m 71 2 + 1 := by rw [hp109]; exact gm_nt_2
                have y7 : x94 = x75 / 8 % 10 := by rw [hx94, t8]
                have y8 : x106 = x75 / 128 % 8 := by rw [hx106, t128]
                have r82 : 0 ≤ x82 ∧ x82 ≤ 3 := by omega
                have r94 : 0 ≤ x94 ∧ x94 ≤ 9 := by omega
                have r106 : 0 ≤ x106 ∧ x106 ≤ 7 := by omega
                have hl2 : x75 = pf_lot s (d.toNat + 1) := by
                  rw [hx75, hx]
                  rfl
                have hL : ∀ mm : gf_M, ((x82 < 2 ∧ m109 71 1 < 8 ∧ mm = gm_app m109 x94) ∨ (¬ (x82 < 2 ∧ m109 71 1 < 8) ∧ (x82 = 2 ∧ 0 < m109 71 1) ∧ mm = gm_off m109) ∨ (¬ (x82 < 2 ∧ m109 71 1 < 8) ∧ ¬ (x82 = 2 ∧ 0 < m109 71 1) ∧ (x82 = 3 ∧ x106 < m109 71 1) ∧ mm = gf_up m109 71 (24 + x106) x94) ∨ (¬ (x82 < 2 ∧ m109 71 1 < 8) ∧ ¬ (x82 = 2 ∧ 0 < m109 71 1) ∧ ¬ (x82 = 3 ∧ x106 < m109 71 1) ∧ mm = m109)) → mm = gm_lotW m109 x75 := by
                  intro mm h
                  unfold gm_lotW
                  rw [← y7, ← y8, ← hx82]
                  rcases h with ⟨h1, h2, h3⟩ | ⟨h1, h2, h3⟩ | ⟨h1, h2, h3, h4⟩ | ⟨h1, h2, h3, h4⟩
                  · rw [if_pos ⟨h1, h2⟩]; exact h3
                  · rw [if_neg h1, if_pos h2]; exact h3
                  · rw [if_neg h1, if_neg h2, if_pos h3]; exact h4
                  · rw [if_neg h1, if_neg h2, if_neg h3]; exact h4
                clear t8 t128 hx94 hx106 y7 y8 hx75 hx82
                refine gf_iload C dd_Mo_lots_112 2 rfl ?_
                refine gf_iconst C dd_Mo_lots_114 ?_
                refine gf_icmp_ge 138 C dd_Mo_lots_115 (by decide) (by omega) (by omega) (fun h115 => ?_) (fun h115 => ?_)
                · skip
                  refine gf_iload C dd_Mo_lots_138 2 rfl ?_
                  refine gf_iconst C dd_Mo_lots_140 ?_
                  refine gf_icmp_ne 160 C dd_Mo_lots_141 (by decide) (by omega) (by omega) (fun h141 => ?_) (fun h141 => ?_)
                  · skip
                    refine gf_iload C dd_Mo_lots_160 2 rfl ?_
                    refine gf_iconst C dd_Mo_lots_162 ?_
                    refine gf_icmp_ne 189 C dd_Mo_lots_163 (by decide) (by omega) (by omega) (fun h163 => ?_) (fun h163 => ?_)
                    · skip
                      obtain ⟨x189, hx189⟩ : ∃ y : Int, y = d + 1 := ⟨_, rfl⟩
                      refine gf_iinc (q := 4) (v := x189) (lv' := [(5, .int (gf_i x189)), (8, .int (gf_i x106)), (7, .int (gf_i x94)), (6, .int (gf_i x82)), (3, .long (gf_l x75)), (0, .ref (gf_ad E 65)), (1, .int (gf_i n)), (2, .int (gf_i s))]) C dd_Mo_lots_189 rfl hx189 (by decide) rfl ?_
                      refine gf_goto 60 C dd_Mo_lots_192 (by decide) ?_
                      refine gf_lsub [4, 0, 5, 6, 7] rfl ?_
                      exact ih60_1 x75 x189 m109 (by
                              have hW : m109 = gm_lotW m109 x75 := hL _ (by
                                first
                                | exact Or.inl ⟨by omega, by omega, hp132⟩
                                | exact Or.inr (Or.inl ⟨by omega, by omega, hp154⟩)
                                | exact Or.inr (Or.inr (Or.inl ⟨by omega, by omega, by omega, hm188⟩))
                                | exact Or.inr (Or.inr (Or.inr ⟨by omega, by omega, by omega, rfl⟩)))
                              have hG : m109 = gm_lots μ s (d.toNat + 1) := by
                                rw [hW, hl2, hp109, hm]
                                rfl
                              refine ⟨by omega, by omega, by rw [hx189, show (d + 1).toNat = d.toNat + 1 by omega]; exact hl2, by rw [hx189, show (d + 1).toNat = d.toNat + 1 by omega]; exact hG, by rw [hW]; exact gm_lotW_1 (by omega), ?_⟩
                              rw [hW, gm_lotW_2 (by omega), n2]
                              omega) (by omega)
                    · skip
                      refine gf_iload C dd_Mo_lots_166 0 rfl ?_
                      refine gf_aload_n C dd_Mo_lots_168 5 rfl ?_
                      refine gf_getA (r := 71) C gf_cl7 fl_Mo_30 dd_Mo_lots_169 rfl (show gf_is 81 65 0 7 26 by decide) (by decide) (by decide) ?_
                      refine gf_iconst C dd_Mo_lots_172 ?_
                      refine gf_iald C dd_Mo_lots_173 (show gf_is 81 71 1 0 392 by decide) (by omega) (fun hv173 => ?_)
                      refine gf_icmp_ge 189 C dd_Mo_lots_174 (by decide) (by omega) (by omega) (fun h174 => ?_) (fun h174 => ?_)
                      · skip
                        obtain ⟨x189, hx189⟩ : ∃ y : Int, y = d + 1 := ⟨_, rfl⟩
                        refine gf_iinc (q := 4) (v := x189) (lv' := [(5, .int (gf_i x189)), (8, .int (gf_i x106)), (7, .int (gf_i x94)), (6, .int (gf_i x82)), (3, .long (gf_l x75)), (0, .ref (gf_ad E 65)), (1, .int (gf_i n)), (2, .int (gf_i s))]) C dd_Mo_lots_189 rfl hx189 (by decide) rfl ?_
                        refine gf_goto 60 C dd_Mo_lots_192 (by decide) ?_
                        refine gf_lsub [4, 0, 5, 6, 7] rfl ?_
                        exact ih60_1 x75 x189 m109 (by
                                have hW : m109 = gm_lotW m109 x75 := hL _ (by
                                  first
                                  | exact Or.inl ⟨by omega, by omega, hp132⟩
                                  | exact Or.inr (Or.inl ⟨by omega, by omega, hp154⟩)
                                  | exact Or.inr (Or.inr (Or.inl ⟨by omega, by omega, by omega, hm188⟩))
                                  | exact Or.inr (Or.inr (Or.inr ⟨by omega, by omega, by omega, rfl⟩)))
                                have hG : m109 = gm_lots μ s (d.toNat + 1) := by
                                  rw [hW, hl2, hp109, hm]
                                  rfl
                                refine ⟨by omega, by omega, by rw [hx189, show (d + 1).toNat = d.toNat + 1 by omega]; exact hl2, by rw [hx189, show (d + 1).toNat = d.toNat + 1 by omega]; exact hG, by rw [hW]; exact gm_lotW_1 (by omega), ?_⟩
                                rw [hW, gm_lotW_2 (by omega), n2]
                                omega) (by omega)
                      · skip
                        refine gf_aload_n C dd_Mo_lots_177 5 rfl ?_
                        refine gf_getA (r := 71) C gf_cl7 fl_Mo_30 dd_Mo_lots_178 rfl (show gf_is 81 65 0 7 26 by decide) (by decide) (by decide) ?_
                        refine gf_bipush C dd_Mo_lots_181 (by decide +kernel) ?_
                        refine gf_iload C dd_Mo_lots_183 0 rfl ?_
                        refine gf_iadd C dd_Mo_lots_185 ?_
                        refine gf_iload C dd_Mo_lots_186 1 rfl ?_
                        refine gf_iast C dd_Mo_lots_188 (show gf_is 81 71 1 0 392 by decide) (by omega) (by omega) ?_
                        refine gf_nmM (fun m188 hm188 => ?_)
                        obtain ⟨x189, hx189⟩ : ∃ y : Int, y = d + 1 := ⟨_, rfl⟩
                        refine gf_iinc (q := 4) (v := x189) (lv' := [(5, .int (gf_i x189)), (8, .int (gf_i x106)), (7, .int (gf_i x94)), (6, .int (gf_i x82)), (3, .long (gf_l x75)), (0, .ref (gf_ad E 65)), (1, .int (gf_i n)), (2, .int (gf_i s))]) C dd_Mo_lots_189 rfl hx189 (by decide) rfl ?_
                        refine gf_goto 60 C dd_Mo_lots_192 (by decide) ?_
                        refine gf_lsub [4, 0, 5, 6, 7] rfl ?_
                        exact ih60_1 x75 x189 m188 (by
                                have hW : m188 = gm_lotW m109 x75 := hL _ (by
                                  first
                                  | exact Or.inl ⟨by omega, by omega, hp132⟩
                                  | exact Or.inr (Or.inl ⟨by omega, by omega, hp154⟩)
                                  | exact Or.inr (Or.inr (Or.inl ⟨by omega, by omega, by omega, hm188⟩))
                                  | exact Or.inr (Or.inr (Or.inr ⟨by omega, by omega, by omega, rfl⟩)))
                                have hG : m188 = gm_lots μ s (d.toNat + 1) := by
                                  rw [hW, hl2, hp109, hm]
                                  rfl
                                refine ⟨by omega, by omega, by rw [hx189, show (d + 1).toNat = d.toNat + 1 by omega]; exact hl2, by rw [hx189, show (d + 1).toNat = d.toNat + 1 by omega]; exact hG, by rw [hW]; exact gm_lotW_1 (by omega), ?_⟩
                                rw [hW, gm_lotW_2 (by omega), n2]
                                omega) (by omega)
                  · skip
                    refine gf_aload_n C dd_Mo_lots_144 5 rfl ?_
                    refine gf_getA (r := 71) C gf_cl7 fl_Mo_30 dd_Mo_lots_145 rfl (show gf_is 81 65 0 7 26 by decide) (by decide) (by decide) ?_
                    refine gf_iconst C dd_Mo_lots_148 ?_
                    refine gf_iald C dd_Mo_lots_149 (show gf_is 81 71 1 0 392 by decide) (by omega) (fun hv149 => ?_)
                    refine gf_if_le 160 C dd_Mo_lots_150 (by decide) (by omega) (fun h150 => ?_) (fun h150 => ?_)
                    · skip
                      refine gf_iload C dd_Mo_lots_160 2 rfl ?_
                      refine gf_iconst C dd_Mo_lots_162 ?_
                      refine gf_icmp_ne 189 C dd_Mo_lots_163 (by decide) (by omega) (by omega) (fun h163 => ?_) (fun h163 => ?_)
                      · skip
                        obtain ⟨x189, hx189⟩ : ∃ y : Int, y = d + 1 := ⟨_, rfl⟩
                        refine gf_iinc (q := 4) (v := x189) (lv' := [(5, .int (gf_i x189)), (8, .int (gf_i x106)), (7, .int (gf_i x94)), (6, .int (gf_i x82)), (3, .long (gf_l x75)), (0, .ref (gf_ad E 65)), (1, .int (gf_i n)), (2, .int (gf_i s))]) C dd_Mo_lots_189 rfl hx189 (by decide) rfl ?_
                        refine gf_goto 60 C dd_Mo_lots_192 (by decide) ?_
                        refine gf_lsub [4, 0, 5, 6, 7] rfl ?_
                        exact ih60_1 x75 x189 m109 (by
                                have hW : m109 = gm_lotW m109 x75 := hL _ (by
                                  first
                                  | exact Or.inl ⟨by omega, by omega, hp132⟩
                                  | exact Or.inr (Or.inl ⟨by omega, by omega, hp154⟩)
                                  | exact Or.inr (Or.inr (Or.inl ⟨by omega, by omega, by omega, hm188⟩))
                                  | exact Or.inr (Or.inr (Or.inr ⟨by omega, by omega, by omega, rfl⟩)))
                                have hG : m109 = gm_lots μ s (d.toNat + 1) := by
                                  rw [hW, hl2, hp109, hm]
                                  rfl
                                refine ⟨by omega, by omega, by rw [hx189, show (d + 1).toNat = d.toNat + 1 by omega]; exact hl2, by rw [hx189, show (d + 1).toNat = d.toNat + 1 by omega]; exact hG, by rw [hW]; exact gm_lotW_1 (by omega), ?_⟩
                                rw [hW, gm_lotW_2 (by omega), n2]
                                omega) (by omega)
                      · skip
                        refine gf_iload C dd_Mo_lots_166 0 rfl ?_
                        refine gf_aload_n C dd_Mo_lots_168 5 rfl ?_
                        refine gf_getA (r := 71) C gf_cl7 fl_Mo_30 dd_Mo_lots_169 rfl (show gf_is 81 65 0 7 26 by decide) (by decide) (by decide) ?_
                        refine gf_iconst C dd_Mo_lots_172 ?_
                        refine gf_iald C dd_Mo_lots_173 (show gf_is 81 71 1 0 392 by decide) (by omega) (fun hv173 => ?_)
                        refine gf_icmp_ge 189 C dd_Mo_lots_174 (by decide) (by omega) (by omega) (fun h174 => ?_) (fun h174 => ?_)
                        · skip
                          obtain ⟨x189, hx189⟩ : ∃ y : Int, y = d + 1 := ⟨_, rfl⟩
                          refine gf_iinc (q := 4) (v := x189) (lv' := [(5, .int (gf_i x189)), (8, .int (gf_i x106)), (7, .int (gf_i x94)), (6, .int (gf_i x82)), (3, .long (gf_l x75)), (0, .ref (gf_ad E 65)), (1, .int (gf_i n)), (2, .int (gf_i s))]) C dd_Mo_lots_189 rfl hx189 (by decide) rfl ?_
                          refine gf_goto 60 C dd_Mo_lots_192 (by decide) ?_
                          refine gf_lsub [4, 0, 5, 6, 7] rfl ?_
                          exact ih60_1 x75 x189 m109 (by
                                  have hW : m109 = gm_lotW m109 x75 := hL _ (by
                                    first
                                    | exact Or.inl ⟨by omega, by omega, hp132⟩
                                    | exact Or.inr (Or.inl ⟨by omega, by omega, hp154⟩)
                                    | exact Or.inr (Or.inr (Or.inl ⟨by omega, by omega, by omega, hm188⟩))
                                    | exact Or.inr (Or.inr (Or.inr ⟨by omega, by omega, by omega, rfl⟩)))
                                  have hG : m109 = gm_lots μ s (d.toNat + 1) := by
                                    rw [hW, hl2, hp109, hm]
                                    rfl
                                  refine ⟨by omega, by omega, by rw [hx189, show (d + 1).toNat = d.toNat + 1 by omega]; exact hl2, by rw [hx189, show (d + 1).toNat = d.toNat + 1 by omega]; exact hG, by rw [hW]; exact gm_lotW_1 (by omega), ?_⟩
                                  rw [hW, gm_lotW_2 (by omega), n2]
                                  omega) (by omega)
                        · skip
                          refine gf_aload_n C dd_Mo_lots_177 5 rfl ?_
                          refine gf_getA (r := 71) C gf_cl7 fl_Mo_30 dd_Mo_lots_178 rfl (show gf_is 81 65 0 7 26 by decide) (by decide) (by decide) ?_
                          refine gf_bipush C dd_Mo_lots_181 (by decide +kernel) ?_
                          refine gf_iload C dd_Mo_lots_183 0 rfl ?_
                          refine gf_iadd C dd_Mo_lots_185 ?_
                          refine gf_iload C dd_Mo_lots_186 1 rfl ?_
                          refine gf_iast C dd_Mo_lots_188 (show gf_is 81 71 1 0 392 by decide) (by omega) (by omega) ?_
                          refine gf_nmM (fun m188 hm188 => ?_)
                          obtain ⟨x189, hx189⟩ : ∃ y : Int, y = d + 1 := ⟨_, rfl⟩
                          refine gf_iinc (q := 4) (v := x189) (lv' := [(5, .int (gf_i x189)), (8, .int (gf_i x106)), (7, .int (gf_i x94)), (6, .int (gf_i x82)), (3, .long (gf_l x75)), (0, .ref (gf_ad E 65)), (1, .int (gf_i n)), (2, .int (gf_i s))]) C dd_Mo_lots_189 rfl hx189 (by decide) rfl ?_
                          refine gf_goto 60 C dd_Mo_lots_192 (by decide) ?_
                          refine gf_lsub [4, 0, 5, 6, 7] rfl ?_
                          exact ih60_1 x75 x189 m188 (by
                                  have hW : m188 = gm_lotW m109 x75 := hL _ (by
                                    first
                                    | exact Or.inl ⟨by omega, by omega, hp132⟩
                                    | exact Or.inr (Or.inl ⟨by omega, by omega, hp154⟩)
                                    | exact Or.inr (Or.inr (Or.inl ⟨by omega, by omega, by omega, hm188⟩))
                                    | exact Or.inr (Or.inr (Or.inr ⟨by omega, by omega, by omega, rfl⟩)))
                                  have hG : m188 = gm_lots μ s (d.toNat + 1) := by
                                    rw [hW, hl2, hp109, hm]
                                    rfl
                                  refine ⟨by omega, by omega, by rw [hx189, show (d + 1).toNat = d.toNat + 1 by omega]; exact hl2, by rw [hx189, show (d + 1).toNat = d.toNat + 1 by omega]; exact hG, by rw [hW]; exact gm_lotW_1 (by omega), ?_⟩
                                  rw [hW, gm_lotW_2 (by omega), n2]
                                  omega) (by omega)
                    · skip
                      refine gf_aload_n C dd_Mo_lots_153 5 rfl ?_
                      refine gf_callVv (st := []) (As := []) C wk_Mo_207 gf_cl7 (show gf_is 81 65 0 7 26 by decide) (ct_Mo_takeOff (gf_xl X) E m109 (by omega)) rfl ⟨rfl, rfl, rfl, rfl⟩ (Nat.le_of_ble_eq_true rfl) rfl dd_Mo_lots_154 (fun m154 hp154 => ?_)
                      refine gf_goto 189 C dd_Mo_lots_157 (by decide) ?_
                      obtain ⟨x189, hx189⟩ : ∃ y : Int, y = d + 1 := ⟨_, rfl⟩
                      refine gf_iinc (q := 4) (v := x189) (lv' := [(5, .int (gf_i x189)), (8, .int (gf_i x106)), (7, .int (gf_i x94)), (6, .int (gf_i x82)), (3, .long (gf_l x75)), (0, .ref (gf_ad E 65)), (1, .int (gf_i n)), (2, .int (gf_i s))]) C dd_Mo_lots_189 rfl hx189 (by decide) rfl ?_
                      refine gf_goto 60 C dd_Mo_lots_192 (by decide) ?_
                      refine gf_lsub [4, 0, 5, 6, 7] rfl ?_
                      exact ih60_1 x75 x189 m154 (by
                              have hW : m154 = gm_lotW m109 x75 := hL _ (by
                                first
                                | exact Or.inl ⟨by omega, by omega, hp132⟩
                                | exact Or.inr (Or.inl ⟨by omega, by omega, hp154⟩)
                                | exact Or.inr (Or.inr (Or.inl ⟨by omega, by omega, by omega, hm188⟩))
                                | exact Or.inr (Or.inr (Or.inr ⟨by omega, by omega, by omega, rfl⟩)))
                              have hG : m154 = gm_lots μ s (d.toNat + 1) := by
                                rw [hW, hl2, hp109, hm]
                                rfl
                              refine ⟨by omega, by omega, by rw [hx189, show (d + 1).toNat = d.toNat + 1 by omega]; exact hl2, by rw [hx189, show (d + 1).toNat = d.toNat + 1 by omega]; exact hG, by rw [hW]; exact gm_lotW_1 (by omega), ?_⟩
                              rw [hW, gm_lotW_2 (by omega), n2]
                              omega) (by omega)
                · skip
                  refine gf_aload_n C dd_Mo_lots_118 5 rfl ?_
                  refine gf_getA (r := 71) C gf_cl7 fl_Mo_30 dd_Mo_lots_119 rfl (show gf_is 81 65 0 7 26 by decide) (by decide) (by decide) ?_
                  refine gf_iconst C dd_Mo_lots_122 ?_
                  refine gf_iald C dd_Mo_lots_123 (show gf_is 81 71 1 0 392 by decide) (by omega) (fun hv123 => ?_)
                  refine gf_bipush C dd_Mo_lots_124 (by decide +kernel) ?_
                  refine gf_icmp_ge 138 C dd_Mo_lots_126 (by decide) (by omega) (by omega) (fun h126 => ?_) (fun h126 => ?_)
                  · skip
                    refine gf_iload C dd_Mo_lots_138 2 rfl ?_
                    refine gf_iconst C dd_Mo_lots_140 ?_
                    refine gf_icmp_ne 160 C dd_Mo_lots_141 (by decide) (by omega) (by omega) (fun h141 => ?_) (fun h141 => ?_)
                    · skip
                      refine gf_iload C dd_Mo_lots_160 2 rfl ?_
                      refine gf_iconst C dd_Mo_lots_162 ?_
                      refine gf_icmp_ne 189 C dd_Mo_lots_163 (by decide) (by omega) (by omega) (fun h163 => ?_) (fun h163 => ?_)
                      · skip
                        obtain ⟨x189, hx189⟩ : ∃ y : Int, y = d + 1 := ⟨_, rfl⟩
                        refine gf_iinc (q := 4) (v := x189) (lv' := [(5, .int (gf_i x189)), (8, .int (gf_i x106)), (7, .int (gf_i x94)), (6, .int (gf_i x82)), (3, .long (gf_l x75)), (0, .ref (gf_ad E 65)), (1, .int (gf_i n)), (2, .int (gf_i s))]) C dd_Mo_lots_189 rfl hx189 (by decide) rfl ?_
                        refine gf_goto 60 C dd_Mo_lots_192 (by decide) ?_
                        refine gf_lsub [4, 0, 5, 6, 7] rfl ?_
                        exact ih60_1 x75 x189 m109 (by
                                have hW : m109 = gm_lotW m109 x75 := hL _ (by
                                  first
                                  | exact Or.inl ⟨by omega, by omega, hp132⟩
                                  | exact Or.inr (Or.inl ⟨by omega, by omega, hp154⟩)
                                  | exact Or.inr (Or.inr (Or.inl ⟨by omega, by omega, by omega, hm188⟩))
                                  | exact Or.inr (Or.inr (Or.inr ⟨by omega, by omega, by omega, rfl⟩)))
                                have hG : m109 = gm_lots μ s (d.toNat + 1) := by
                                  rw [hW, hl2, hp109, hm]
                                  rfl
                                refine ⟨by omega, by omega, by rw [hx189, show (d + 1).toNat = d.toNat + 1 by omega]; exact hl2, by rw [hx189, show (d + 1).toNat = d.toNat + 1 by omega]; exact hG, by rw [hW]; exact gm_lotW_1 (by omega), ?_⟩
                                rw [hW, gm_lotW_2 (by omega), n2]
                                omega) (by omega)
                      · skip
                        refine gf_iload C dd_Mo_lots_166 0 rfl ?_
                        refine gf_aload_n C dd_Mo_lots_168 5 rfl ?_
                        refine gf_getA (r := 71) C gf_cl7 fl_Mo_30 dd_Mo_lots_169 rfl (show gf_is 81 65 0 7 26 by decide) (by decide) (by decide) ?_
                        refine gf_iconst C dd_Mo_lots_172 ?_
                        refine gf_iald C dd_Mo_lots_173 (show gf_is 81 71 1 0 392 by decide) (by omega) (fun hv173 => ?_)
                        refine gf_icmp_ge 189 C dd_Mo_lots_174 (by decide) (by omega) (by omega) (fun h174 => ?_) (fun h174 => ?_)
                        · skip
                          obtain ⟨x189, hx189⟩ : ∃ y : Int, y = d + 1 := ⟨_, rfl⟩
                          refine gf_iinc (q := 4) (v := x189) (lv' := [(5, .int (gf_i x189)), (8, .int (gf_i x106)), (7, .int (gf_i x94)), (6, .int (gf_i x82)), (3, .long (gf_l x75)), (0, .ref (gf_ad E 65)), (1, .int (gf_i n)), (2, .int (gf_i s))]) C dd_Mo_lots_189 rfl hx189 (by decide) rfl ?_
                          refine gf_goto 60 C dd_Mo_lots_192 (by decide) ?_
                          refine gf_lsub [4, 0, 5, 6, 7] rfl ?_
                          exact ih60_1 x75 x189 m109 (by
                                  have hW : m109 = gm_lotW m109 x75 := hL _ (by
                                    first
                                    | exact Or.inl ⟨by omega, by omega, hp132⟩
                                    | exact Or.inr (Or.inl ⟨by omega, by omega, hp154⟩)
                                    | exact Or.inr (Or.inr (Or.inl ⟨by omega, by omega, by omega, hm188⟩))
                                    | exact Or.inr (Or.inr (Or.inr ⟨by omega, by omega, by omega, rfl⟩)))
                                  have hG : m109 = gm_lots μ s (d.toNat + 1) := by
                                    rw [hW, hl2, hp109, hm]
                                    rfl
                                  refine ⟨by omega, by omega, by rw [hx189, show (d + 1).toNat = d.toNat + 1 by omega]; exact hl2, by rw [hx189, show (d + 1).toNat = d.toNat + 1 by omega]; exact hG, by rw [hW]; exact gm_lotW_1 (by omega), ?_⟩
                                  rw [hW, gm_lotW_2 (by omega), n2]
                                  omega) (by omega)
                        · skip
                          refine gf_aload_n C dd_Mo_lots_177 5 rfl ?_
                          refine gf_getA (r := 71) C gf_cl7 fl_Mo_30 dd_Mo_lots_178 rfl (show gf_is 81 65 0 7 26 by decide) (by decide) (by decide) ?_
                          refine gf_bipush C dd_Mo_lots_181 (by decide +kernel) ?_
                          refine gf_iload C dd_Mo_lots_183 0 rfl ?_
                          refine gf_iadd C dd_Mo_lots_185 ?_
                          refine gf_iload C dd_Mo_lots_186 1 rfl ?_
                          refine gf_iast C dd_Mo_lots_188 (show gf_is 81 71 1 0 392 by decide) (by omega) (by omega) ?_
                          refine gf_nmM (fun m188 hm188 => ?_)
                          obtain ⟨x189, hx189⟩ : ∃ y : Int, y = d + 1 := ⟨_, rfl⟩
                          refine gf_iinc (q := 4) (v := x189) (lv' := [(5, .int (gf_i x189)), (8, .int (gf_i x106)), (7, .int (gf_i x94)), (6, .int (gf_i x82)), (3, .long (gf_l x75)), (0, .ref (gf_ad E 65)), (1, .int (gf_i n)), (2, .int (gf_i s))]) C dd_Mo_lots_189 rfl hx189 (by decide) rfl ?_
                          refine gf_goto 60 C dd_Mo_lots_192 (by decide) ?_
                          refine gf_lsub [4, 0, 5, 6, 7] rfl ?_
                          exact ih60_1 x75 x189 m188 (by
                                  have hW : m188 = gm_lotW m109 x75 := hL _ (by
                                    first
                                    | exact Or.inl ⟨by omega, by omega, hp132⟩
                                    | exact Or.inr (Or.inl ⟨by omega, by omega, hp154⟩)
                                    | exact Or.inr (Or.inr (Or.inl ⟨by omega, by omega, by omega, hm188⟩))
                                    | exact Or.inr (Or.inr (Or.inr ⟨by omega, by omega, by omega, rfl⟩)))
                                  have hG : m188 = gm_lots μ s (d.toNat + 1) := by
                                    rw [hW, hl2, hp109, hm]
                                    rfl
                                  refine ⟨by omega, by omega, by rw [hx189, show (d + 1).toNat = d.toNat + 1 by omega]; exact hl2, by rw [hx189, show (d + 1).toNat = d.toNat + 1 by omega]; exact hG, by rw [hW]; exact gm_lotW_1 (by omega), ?_⟩
                                  rw [hW, gm_lotW_2 (by omega), n2]
                                  omega) (by omega)
                    · skip
                      refine gf_aload_n C dd_Mo_lots_144 5 rfl ?_
                      refine gf_getA (r := 71) C gf_cl7 fl_Mo_30 dd_Mo_lots_145 rfl (show gf_is 81 65 0 7 26 by decide) (by decide) (by decide) ?_
                      refine gf_iconst C dd_Mo_lots_148 ?_
                      refine gf_iald C dd_Mo_lots_149 (show gf_is 81 71 1 0 392 by decide) (by omega) (fun hv149 => ?_)
                      refine gf_if_le 160 C dd_Mo_lots_150 (by decide) (by omega) (fun h150 => ?_) (fun h150 => ?_)
                      · skip
                        refine gf_iload C dd_Mo_lots_160 2 rfl ?_
                        refine gf_iconst C dd_Mo_lots_162 ?_
                        refine gf_icmp_ne 189 C dd_Mo_lots_163 (by decide) (by omega) (by omega) (fun h163 => ?_) (fun h163 => ?_)
                        · skip
                          obtain ⟨x189, hx189⟩ : ∃ y : Int, y = d + 1 := ⟨_, rfl⟩
                          refine gf_iinc (q := 4) (v := x189) (lv' := [(5, .int (gf_i x189)), (8, .int (gf_i x106)), (7, .int (gf_i x94)), (6, .int (gf_i x82)), (3, .long (gf_l x75)), (0, .ref (gf_ad E 65)), (1, .int (gf_i n)), (2, .int (gf_i s))]) C dd_Mo_lots_189 rfl hx189 (by decide) rfl ?_
                          refine gf_goto 60 C dd_Mo_lots_192 (by decide) ?_
                          refine gf_lsub [4, 0, 5, 6, 7] rfl ?_
                          exact ih60_1 x75 x189 m109 (by
                                  have hW : m109 = gm_lotW m109 x75 := hL _ (by
                                    first
                                    | exact Or.inl ⟨by omega, by omega, hp132⟩
                                    | exact Or.inr (Or.inl ⟨by omega, by omega, hp154⟩)
                                    | exact Or.inr (Or.inr (Or.inl ⟨by omega, by omega, by omega, hm188⟩))
                                    | exact Or.inr (Or.inr (Or.inr ⟨by omega, by omega, by omega, rfl⟩)))
                                  have hG : m109 = gm_lots μ s (d.toNat + 1) := by
                                    rw [hW, hl2, hp109, hm]
                                    rfl
                                  refine ⟨by omega, by omega, by rw [hx189, show (d + 1).toNat = d.toNat + 1 by omega]; exact hl2, by rw [hx189, show (d + 1).toNat = d.toNat + 1 by omega]; exact hG, by rw [hW]; exact gm_lotW_1 (by omega), ?_⟩
                                  rw [hW, gm_lotW_2 (by omega), n2]
                                  omega) (by omega)
                        · skip
                          refine gf_iload C dd_Mo_lots_166 0 rfl ?_
                          refine gf_aload_n C dd_Mo_lots_168 5 rfl ?_
                          refine gf_getA (r := 71) C gf_cl7 fl_Mo_30 dd_Mo_lots_169 rfl (show gf_is 81 65 0 7 26 by decide) (by decide) (by decide) ?_
                          refine gf_iconst C dd_Mo_lots_172 ?_
                          refine gf_iald C dd_Mo_lots_173 (show gf_is 81 71 1 0 392 by decide) (by omega) (fun hv173 => ?_)
                          refine gf_icmp_ge 189 C dd_Mo_lots_174 (by decide) (by omega) (by omega) (fun h174 => ?_) (fun h174 => ?_)
                          · skip
                            obtain ⟨x189, hx189⟩ : ∃ y : Int, y = d + 1 := ⟨_, rfl⟩
                            refine gf_iinc (q := 4) (v := x189) (lv' := [(5, .int (gf_i x189)), (8, .int (gf_i x106)), (7, .int (gf_i x94)), (6, .int (gf_i x82)), (3, .long (gf_l x75)), (0, .ref (gf_ad E 65)), (1, .int (gf_i n)), (2, .int (gf_i s))]) C dd_Mo_lots_189 rfl hx189 (by decide) rfl ?_
                            refine gf_goto 60 C dd_Mo_lots_192 (by decide) ?_
                            refine gf_lsub [4, 0, 5, 6, 7] rfl ?_
                            exact ih60_1 x75 x189 m109 (by
                                    have hW : m109 = gm_lotW m109 x75 := hL _ (by
                                      first
                                      | exact Or.inl ⟨by omega, by omega, hp132⟩
                                      | exact Or.inr (Or.inl ⟨by omega, by omega, hp154⟩)
                                      | exact Or.inr (Or.inr (Or.inl ⟨by omega, by omega, by omega, hm188⟩))
                                      | exact Or.inr (Or.inr (Or.inr ⟨by omega, by omega, by omega, rfl⟩)))
                                    have hG : m109 = gm_lots μ s (d.toNat + 1) := by
                                      rw [hW, hl2, hp109, hm]
                                      rfl
                                    refine ⟨by omega, by omega, by rw [hx189, show (d + 1).toNat = d.toNat + 1 by omega]; exact hl2, by rw [hx189, show (d + 1).toNat = d.toNat + 1 by omega]; exact hG, by rw [hW]; exact gm_lotW_1 (by omega), ?_⟩
                                    rw [hW, gm_lotW_2 (by omega), n2]
                                    omega) (by omega)
                          · skip
                            refine gf_aload_n C dd_Mo_lots_177 5 rfl ?_
                            refine gf_getA (r := 71) C gf_cl7 fl_Mo_30 dd_Mo_lots_178 rfl (show gf_is 81 65 0 7 26 by decide) (by decide) (by decide) ?_
                            refine gf_bipush C dd_Mo_lots_181 (by decide +kernel) ?_
                            refine gf_iload C dd_Mo_lots_183 0 rfl ?_
                            refine gf_iadd C dd_Mo_lots_185 ?_
                            refine gf_iload C dd_Mo_lots_186 1 rfl ?_
                            refine gf_iast C dd_Mo_lots_188 (show gf_is 81 71 1 0 392 by decide) (by omega) (by omega) ?_
                            refine gf_nmM (fun m188 hm188 => ?_)
                            obtain ⟨x189, hx189⟩ : ∃ y : Int, y = d + 1 := ⟨_, rfl⟩
                            refine gf_iinc (q := 4) (v := x189) (lv' := [(5, .int (gf_i x189)), (8, .int (gf_i x106)), (7, .int (gf_i x94)), (6, .int (gf_i x82)), (3, .long (gf_l x75)), (0, .ref (gf_ad E 65)), (1, .int (gf_i n)), (2, .int (gf_i s))]) C dd_Mo_lots_189 rfl hx189 (by decide) rfl ?_
                            refine gf_goto 60 C dd_Mo_lots_192 (by decide) ?_
                            refine gf_lsub [4, 0, 5, 6, 7] rfl ?_
                            exact ih60_1 x75 x189 m188 (by
                                    have hW : m188 = gm_lotW m109 x75 := hL _ (by
                                      first
                                      | exact Or.inl ⟨by omega, by omega, hp132⟩
                                      | exact Or.inr (Or.inl ⟨by omega, by omega, hp154⟩)
                                      | exact Or.inr (Or.inr (Or.inl ⟨by omega, by omega, by omega, hm188⟩))
                                      | exact Or.inr (Or.inr (Or.inr ⟨by omega, by omega, by omega, rfl⟩)))
                                    have hG : m188 = gm_lots μ s (d.toNat + 1) := by
                                      rw [hW, hl2, hp109, hm]
                                      rfl
                                    refine ⟨by omega, by omega, by rw [hx189, show (d + 1).toNat = d.toNat + 1 by omega]; exact hl2, by rw [hx189, show (d + 1).toNat = d.toNat + 1 by omega]; exact hG, by rw [hW]; exact gm_lotW_1 (by omega), ?_⟩
                                    rw [hW, gm_lotW_2 (by omega), n2]
                                    omega) (by omega)
                      · skip
                        refine gf_aload_n C dd_Mo_lots_153 5 rfl ?_
                        refine gf_callVv (st := []) (As := []) C wk_Mo_207 gf_cl7 (show gf_is 81 65 0 7 26 by decide) (ct_Mo_takeOff (gf_xl X) E m109 (by omega)) rfl ⟨rfl, rfl, rfl, rfl⟩ (Nat.le_of_ble_eq_true rfl) rfl dd_Mo_lots_154 (fun m154 hp154 => ?_)
                        refine gf_goto 189 C dd_Mo_lots_157 (by decide) ?_
                        obtain ⟨x189, hx189⟩ : ∃ y : Int, y = d + 1 := ⟨_, rfl⟩
                        refine gf_iinc (q := 4) (v := x189) (lv' := [(5, .int (gf_i x189)), (8, .int (gf_i x106)), (7, .int (gf_i x94)), (6, .int (gf_i x82)), (3, .long (gf_l x75)), (0, .ref (gf_ad E 65)), (1, .int (gf_i n)), (2, .int (gf_i s))]) C dd_Mo_lots_189 rfl hx189 (by decide) rfl ?_
                        refine gf_goto 60 C dd_Mo_lots_192 (by decide) ?_
                        refine gf_lsub [4, 0, 5, 6, 7] rfl ?_
                        exact ih60_1 x75 x189 m154 (by
                                have hW : m154 = gm_lotW m109 x75 := hL _ (by
                                  first
                                  | exact Or.inl ⟨by omega, by omega, hp132⟩
                                  | exact Or.inr (Or.inl ⟨by omega, by omega, hp154⟩)
                                  | exact Or.inr (Or.inr (Or.inl ⟨by omega, by omega, by omega, hm188⟩))
                                  | exact Or.inr (Or.inr (Or.inr ⟨by omega, by omega, by omega, rfl⟩)))
                                have hG : m154 = gm_lots μ s (d.toNat + 1) := by
                                  rw [hW, hl2, hp109, hm]
                                  rfl
                                refine ⟨by omega, by omega, by rw [hx189, show (d + 1).toNat = d.toNat + 1 by omega]; exact hl2, by rw [hx189, show (d + 1).toNat = d.toNat + 1 by omega]; exact hG, by rw [hW]; exact gm_lotW_1 (by omega), ?_⟩
                                rw [hW, gm_lotW_2 (by omega), n2]
                                omega) (by omega)
                  · skip
                    refine gf_aload_n C dd_Mo_lots_129 5 rfl ?_
                    refine gf_iload C dd_Mo_lots_130 1 rfl ?_
                    refine gf_callVv (st := []) (As := [.int (gf_i x94)]) C wk_Mo_204 gf_cl7 (show gf_is 81 65 0 7 26 by decide) (ct_Mo_append (gf_xl X) E x94 m109 (by omega) (by omega)) rfl ⟨rfl, rfl, rfl, rfl⟩ (Nat.le_of_ble_eq_true rfl) rfl dd_Mo_lots_132 (fun m132 hp132 => ?_)
                    refine gf_goto 189 C dd_Mo_lots_135 (by decide) ?_
                    obtain ⟨x189, hx189⟩ : ∃ y : Int, y = d + 1 := ⟨_, rfl⟩
                    refine gf_iinc (q := 4) (v := x189) (lv' := [(5, .int (gf_i x189)), (8, .int (gf_i x106)), (7, .int (gf_i x94)), (6, .int (gf_i x82)), (3, .long (gf_l x75)), (0, .ref (gf_ad E 65)), (1, .int (gf_i n)), (2, .int (gf_i s))]) C dd_Mo_lots_189 rfl hx189 (by decide) rfl ?_
                    refine gf_goto 60 C dd_Mo_lots_192 (by decide) ?_
                    refine gf_lsub [4, 0, 5, 6, 7] rfl ?_
                    exact ih60_1 x75 x189 m132 (by
                            have hW : m132 = gm_lotW m109 x75 := hL _ (by
                              first
                              | exact Or.inl ⟨by omega, by omega, hp132⟩
                              | exact Or.inr (Or.inl ⟨by omega, by omega, hp154⟩)
                              | exact Or.inr (Or.inr (Or.inl ⟨by omega, by omega, by omega, hm188⟩))
                              | exact Or.inr (Or.inr (Or.inr ⟨by omega, by omega, by omega, rfl⟩)))
                            have hG : m132 = gm_lots μ s (d.toNat + 1) := by
                              rw [hW, hl2, hp109, hm]
                              rfl
                            refine ⟨by omega, by omega, by rw [hx189, show (d + 1).toNat = d.toNat + 1 by omega]; exact hl2, by rw [hx189, show (d + 1).toNat = d.toNat + 1 by omega]; exact hG, by rw [hW]; exact gm_lotW_1 (by omega), ?_⟩
                            rw [hW, gm_lotW_2 (by omega), n2]
                            omega) (by omega)
          refine gf_lsub [1, 0, 2, 3, 4] rfl ?_
          exact L60_1 _ s 0 μ (⟨by omega, by omega, rfl, rfl, hn, by omega⟩) (Nat.lt_succ_self _)
        · skip
          refine gf_bipush C dd_Mo_lots_51 (by decide +kernel) ?_
          refine gf_iret C hQ dd_Mo_lots_53 (by omega) ?_
          exact ⟨fun h => absurd h (by omega), fun _ => ⟨fun h => absurd h (by omega), fun _ => ⟨fun _ => ⟨rfl, rfl⟩, fun h => absurd h (by omega)⟩⟩⟩
      · skip
        refine gf_bipush C dd_Mo_lots_35 (by decide +kernel) ?_
        refine gf_iret C hQ dd_Mo_lots_37 (by omega) ?_
        exact ⟨fun h => absurd h (by omega), fun _ => ⟨fun _ => ⟨rfl, rfl⟩, fun h => absurd h (by omega)⟩⟩
    · skip
      refine gf_iconst C dd_Mo_lots_24 ?_
      refine gf_iret C hQ dd_Mo_lots_25 (by omega) ?_
      exact ⟨fun _ => ⟨rfl, rfl⟩, fun h => absurd h (by omega)⟩
