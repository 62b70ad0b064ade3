theorem dd_Mo_init_0 : decode cc_Mo_init 0 = .ok (.aload_n 0, 1) := by decide +kernel
theorem dd_Mo_init_1 : decode cc_Mo_init 1 = .ok (.invokespecial 1, 3) := by decide +kernel
theorem dd_Mo_init_4 : decode cc_Mo_init 4 = .ok (.aload_n 0, 1) := by decide +kernel
theorem dd_Mo_init_5 : decode cc_Mo_init 5 = .ok (.bipush 6, 2) := by decide +kernel
theorem dd_Mo_init_7 : decode cc_Mo_init 7 = .ok (.newarray .int, 2) := by decide +kernel
theorem dd_Mo_init_9 : decode cc_Mo_init 9 = .ok (.putfield 7, 3) := by decide +kernel
theorem dd_Mo_init_12 : decode cc_Mo_init 12 = .ok (.aload_n 0, 1) := by decide +kernel
theorem dd_Mo_init_13 : decode cc_Mo_init 13 = .ok (.sipush 240, 3) := by decide +kernel
theorem dd_Mo_init_16 : decode cc_Mo_init 16 = .ok (.newarray .int, 2) := by decide +kernel
theorem dd_Mo_init_18 : decode cc_Mo_init 18 = .ok (.putfield 13, 3) := by decide +kernel
theorem dd_Mo_init_21 : decode cc_Mo_init 21 = .ok (.aload_n 0, 1) := by decide +kernel
theorem dd_Mo_init_22 : decode cc_Mo_init 22 = .ok (.iconst 4, 1) := by decide +kernel
theorem dd_Mo_init_23 : decode cc_Mo_init 23 = .ok (.newarray .int, 2) := by decide +kernel
theorem dd_Mo_init_25 : decode cc_Mo_init 25 = .ok (.putfield 16, 3) := by decide +kernel
theorem dd_Mo_init_28 : decode cc_Mo_init 28 = .ok (.aload_n 0, 1) := by decide +kernel
theorem dd_Mo_init_29 : decode cc_Mo_init 29 = .ok (.sipush 240, 3) := by decide +kernel
theorem dd_Mo_init_32 : decode cc_Mo_init 32 = .ok (.newarray .byte, 2) := by decide +kernel
theorem dd_Mo_init_34 : decode cc_Mo_init 34 = .ok (.putfield 19, 3) := by decide +kernel
theorem dd_Mo_init_37 : decode cc_Mo_init 37 = .ok (.aload_n 0, 1) := by decide +kernel
theorem dd_Mo_init_38 : decode cc_Mo_init 38 = .ok (.lconst 1, 1) := by decide +kernel
theorem dd_Mo_init_39 : decode cc_Mo_init 39 = .ok (.putfield 23, 3) := by decide +kernel
theorem dd_Mo_init_42 : decode cc_Mo_init 42 = .ok (.aload_n 0, 1) := by decide +kernel
theorem dd_Mo_init_43 : decode cc_Mo_init 43 = .ok (.bipush 6, 2) := by decide +kernel
theorem dd_Mo_init_45 : decode cc_Mo_init 45 = .ok (.newarray .int, 2) := by decide +kernel
theorem dd_Mo_init_47 : decode cc_Mo_init 47 = .ok (.putfield 27, 3) := by decide +kernel
theorem dd_Mo_init_50 : decode cc_Mo_init 50 = .ok (.aload_n 0, 1) := by decide +kernel
theorem dd_Mo_init_51 : decode cc_Mo_init 51 = .ok (.sipush 392, 3) := by decide +kernel
theorem dd_Mo_init_54 : decode cc_Mo_init 54 = .ok (.newarray .int, 2) := by decide +kernel
theorem dd_Mo_init_56 : decode cc_Mo_init 56 = .ok (.putfield 30, 3) := by decide +kernel
theorem dd_Mo_init_59 : decode cc_Mo_init 59 = .ok (.aload_n 0, 1) := by decide +kernel
theorem dd_Mo_init_60 : decode cc_Mo_init 60 = .ok (.bipush 24, 2) := by decide +kernel
theorem dd_Mo_init_62 : decode cc_Mo_init 62 = .ok (.newarray .int, 2) := by decide +kernel
theorem dd_Mo_init_64 : decode cc_Mo_init 64 = .ok (.putfield 33, 3) := by decide +kernel
theorem dd_Mo_init_67 : decode cc_Mo_init 67 = .ok (.aload_n 0, 1) := by decide +kernel
theorem dd_Mo_init_68 : decode cc_Mo_init 68 = .ok (.bipush 8, 2) := by decide +kernel
theorem dd_Mo_init_70 : decode cc_Mo_init 70 = .ok (.newarray .int, 2) := by decide +kernel
theorem dd_Mo_init_72 : decode cc_Mo_init 72 = .ok (.putfield 36, 3) := by decide +kernel
theorem dd_Mo_init_75 : decode cc_Mo_init 75 = .ok (.aload_n 0, 1) := by decide +kernel
theorem dd_Mo_init_76 : decode cc_Mo_init 76 = .ok (.iconst 3, 1) := by decide +kernel
theorem dd_Mo_init_77 : decode cc_Mo_init 77 = .ok (.newarray .int, 2) := by decide +kernel
theorem dd_Mo_init_79 : decode cc_Mo_init 79 = .ok (.putfield 39, 3) := by decide +kernel
theorem dd_Mo_init_82 : decode cc_Mo_init 82 = .ok (.aload_n 0, 1) := by decide +kernel
theorem dd_Mo_init_83 : decode cc_Mo_init 83 = .ok (.sipush 1176, 3) := by decide +kernel
theorem dd_Mo_init_86 : decode cc_Mo_init 86 = .ok (.newarray .int, 2) := by decide +kernel
theorem dd_Mo_init_88 : decode cc_Mo_init 88 = .ok (.putfield 42, 3) := by decide +kernel
theorem dd_Mo_init_91 : decode cc_Mo_init 91 = .ok (.aload_n 0, 1) := by decide +kernel
theorem dd_Mo_init_92 : decode cc_Mo_init 92 = .ok (.bipush 85, 2) := by decide +kernel
theorem dd_Mo_init_94 : decode cc_Mo_init 94 = .ok (.newarray .int, 2) := by decide +kernel
theorem dd_Mo_init_96 : decode cc_Mo_init 96 = .ok (.putfield 45, 3) := by decide +kernel
theorem dd_Mo_init_99 : decode cc_Mo_init 99 = .ok (.aload_n 0, 1) := by decide +kernel
theorem dd_Mo_init_100 : decode cc_Mo_init 100 = .ok (.bipush 7, 2) := by decide +kernel
theorem dd_Mo_init_102 : decode cc_Mo_init 102 = .ok (.newarray .int, 2) := by decide +kernel
theorem dd_Mo_init_104 : decode cc_Mo_init 104 = .ok (.putfield 48, 3) := by decide +kernel
theorem dd_Mo_init_107 : decode cc_Mo_init 107 = .ok (.aload_n 0, 1) := by decide +kernel
theorem dd_Mo_init_108 : decode cc_Mo_init 108 = .ok (.bipush 9, 2) := by decide +kernel
theorem dd_Mo_init_110 : decode cc_Mo_init 110 = .ok (.newarray .int, 2) := by decide +kernel
theorem dd_Mo_init_112 : decode cc_Mo_init 112 = .ok (.putfield 51, 3) := by decide +kernel
theorem dd_Mo_init_115 : decode cc_Mo_init 115 = .ok (.aload_n 0, 1) := by decide +kernel
theorem dd_Mo_init_116 : decode cc_Mo_init 116 = .ok (.iconst 3, 1) := by decide +kernel
theorem dd_Mo_init_117 : decode cc_Mo_init 117 = .ok (.newarray .int, 2) := by decide +kernel
theorem dd_Mo_init_119 : decode cc_Mo_init 119 = .ok (.putfield 54, 3) := by decide +kernel
theorem dd_Mo_init_122 : decode cc_Mo_init 122 = .ok (.aload_n 0, 1) := by decide +kernel
theorem dd_Mo_init_123 : decode cc_Mo_init 123 = .ok (.sipush 10000, 3) := by decide +kernel
theorem dd_Mo_init_126 : decode cc_Mo_init 126 = .ok (.newarray .int, 2) := by decide +kernel
theorem dd_Mo_init_128 : decode cc_Mo_init 128 = .ok (.putfield 57, 3) := by decide +kernel
theorem dd_Mo_init_131 : decode cc_Mo_init 131 = .ok (.iconst 0, 1) := by decide +kernel
theorem dd_Mo_init_132 : decode cc_Mo_init 132 = .ok (.istore_n 1, 1) := by decide +kernel
theorem dd_Mo_init_133 : decode cc_Mo_init 133 = .ok (.iload_n 1, 1) := by decide +kernel
theorem dd_Mo_init_134 : decode cc_Mo_init 134 = .ok (.bipush 6, 2) := by decide +kernel
theorem dd_Mo_init_136 : decode cc_Mo_init 136 = .ok (.if_icmp .ge 16, 3) := by decide +kernel
theorem dd_Mo_init_139 : decode cc_Mo_init 139 = .ok (.aload_n 0, 1) := by decide +kernel
theorem dd_Mo_init_140 : decode cc_Mo_init 140 = .ok (.getfield 7, 3) := by decide +kernel
theorem dd_Mo_init_143 : decode cc_Mo_init 143 = .ok (.iload_n 1, 1) := by decide +kernel
theorem dd_Mo_init_144 : decode cc_Mo_init 144 = .ok (.iconst (-1), 1) := by decide +kernel
theorem dd_Mo_init_145 : decode cc_Mo_init 145 = .ok (.iastore, 1) := by decide +kernel
theorem dd_Mo_init_146 : decode cc_Mo_init 146 = .ok (.iinc 1 1, 3) := by decide +kernel
theorem dd_Mo_init_149 : decode cc_Mo_init 149 = .ok (.goto (-16), 3) := by decide +kernel
theorem dd_Mo_init_152 : decode cc_Mo_init 152 = .ok (.iconst 0, 1) := by decide +kernel
theorem dd_Mo_init_153 : decode cc_Mo_init 153 = .ok (.istore_n 1, 1) := by decide +kernel
theorem dd_Mo_init_154 : decode cc_Mo_init 154 = .ok (.iload_n 1, 1) := by decide +kernel
theorem dd_Mo_init_155 : decode cc_Mo_init 155 = .ok (.iconst 4, 1) := by decide +kernel
theorem dd_Mo_init_156 : decode cc_Mo_init 156 = .ok (.if_icmp .ge 16, 3) := by decide +kernel
theorem dd_Mo_init_159 : decode cc_Mo_init 159 = .ok (.aload_n 0, 1) := by decide +kernel
theorem dd_Mo_init_160 : decode cc_Mo_init 160 = .ok (.getfield 16, 3) := by decide +kernel
theorem dd_Mo_init_163 : decode cc_Mo_init 163 = .ok (.iload_n 1, 1) := by decide +kernel
theorem dd_Mo_init_164 : decode cc_Mo_init 164 = .ok (.iconst (-1), 1) := by decide +kernel
theorem dd_Mo_init_165 : decode cc_Mo_init 165 = .ok (.iastore, 1) := by decide +kernel
theorem dd_Mo_init_166 : decode cc_Mo_init 166 = .ok (.iinc 1 1, 3) := by decide +kernel
theorem dd_Mo_init_169 : decode cc_Mo_init 169 = .ok (.goto (-15), 3) := by decide +kernel
theorem dd_Mo_init_172 : decode cc_Mo_init 172 = .ok (.iconst 0, 1) := by decide +kernel
theorem dd_Mo_init_173 : decode cc_Mo_init 173 = .ok (.istore_n 1, 1) := by decide +kernel
theorem dd_Mo_init_174 : decode cc_Mo_init 174 = .ok (.iload_n 1, 1) := by decide +kernel
theorem dd_Mo_init_175 : decode cc_Mo_init 175 = .ok (.iconst 3, 1) := by decide +kernel
theorem dd_Mo_init_176 : decode cc_Mo_init 176 = .ok (.if_icmp .ge 16, 3) := by decide +kernel
theorem dd_Mo_init_179 : decode cc_Mo_init 179 = .ok (.aload_n 0, 1) := by decide +kernel
theorem dd_Mo_init_180 : decode cc_Mo_init 180 = .ok (.getfield 39, 3) := by decide +kernel
theorem dd_Mo_init_183 : decode cc_Mo_init 183 = .ok (.iload_n 1, 1) := by decide +kernel
theorem dd_Mo_init_184 : decode cc_Mo_init 184 = .ok (.iconst (-1), 1) := by decide +kernel
theorem dd_Mo_init_185 : decode cc_Mo_init 185 = .ok (.iastore, 1) := by decide +kernel
theorem dd_Mo_init_186 : decode cc_Mo_init 186 = .ok (.iinc 1 1, 3) := by decide +kernel
theorem dd_Mo_init_189 : decode cc_Mo_init 189 = .ok (.goto (-15), 3) := by decide +kernel
theorem dd_Mo_init_192 : decode cc_Mo_init 192 = .ok (.return_, 1) := by decide +kernel
set_option maxRecDepth 100000 in
set_option maxHeartbeats 4000000 in
theorem ct_Mo_init_65 (l : Launch) (E : gf_E) (ρ μ : gf_M) (hμ : ∀ k j : Int, 66 ≤ k → μ k j = 0) (hρ : ∀ k j : Int, 66 ≤ k → ρ k j = -1) : gf_MI l E yy_Mo_init cc_Mo_init 2 (gf_rmc 1 15 12203 20) 66 ρ 15 12203 81 (gf_ups ρ [(65, 25, 80), (65, 24, 79), (65, 23, 78), (65, 22, 77), (65, 20, 76), (65, 19, 75), (65, 18, 74), (65, 14, 73), (65, 13, 72), (65, 9, 71), (65, 8, 70), (65, 3, 69), (65, 2, 68), (65, 1, 67), (65, 0, 66)]) μ [.ref (gf_ad E 65)] (fun μ' => μ' = gf_ups μ [(74, 2, (-1)), (74, 1, (-1)), (74, 0, (-1)), (68, 3, (-1)), (68, 2, (-1)), (68, 1, (-1)), (68, 0, (-1)), (66, 5, (-1)), (66, 4, (-1)), (66, 3, (-1)), (66, 2, (-1)), (66, 1, (-1)), (66, 0, (-1)), (65, 6, 1)]) := by
  refine gf_mI (by decide +kernel) (Nat.le_of_ble_eq_true rfl) (by decide) (fun X Q hlx C hO hname hQ => ?_)
  subst hlx
  replace C : gf_C X E cc_Mo_init 2 "GuardFiguresModel" (gf_rmc 1 15 12203 20) := C
  show gf_G X E Q 2 (0, 0, 66, gf_ups ρ []) (gf_ups μ []) 0 [(0, .ref (gf_ad E 65))] []
  refine gf_aload_n C dd_Mo_init_0 0 rfl ?_
  refine gf_objI C ⟨gf_mem 783 (by decide +kernel) (by decide +kernel), gf_mem 89 (by decide +kernel) (by decide +kernel), gf_mem 90 rfl (by decide +kernel)⟩ dd_Mo_init_1 (by decide) ⟨by decide, by decide⟩ ?_
  refine gf_aload_n C dd_Mo_init_4 0 rfl ?_
  refine gf_bipush C dd_Mo_init_5 (by decide +kernel) ?_
  refine gf_newIk (N := 6) (k := 66) (cA0 := 0) rfl C (gf_mem 111 (by decide +kernel) (by decide +kernel)) dd_Mo_init_7 (by decide) (by decide) (by decide) (Nat.le_of_ble_eq_true rfl) (fun j => (gf_ups_new rfl).trans (hμ _ _ (by decide))) ⟨Nat.le_of_ble_eq_true rfl, Nat.le_of_ble_eq_true rfl⟩ ?_
  refine gf_ph (φ' := (1, 6, 67, gf_ups ρ [])) rfl ?_
  refine gf_putF (z := 0) (ty := .array .int) C hname gf_cl7 fl_Mo_7 dd_Mo_init_9 rfl rfl rfl rfl (by decide +kernel) (fun _ => ⟨rfl, rfl⟩) (show gf_is 67 65 0 7 26 by decide) (by decide) ?_
  refine gf_ph (φ' := (1, 6, 67, gf_ups ρ [(65, 0, 66)])) rfl ?_
  refine gf_aload_n C dd_Mo_init_12 0 rfl ?_
  refine gf_sipush C dd_Mo_init_13 (by decide +kernel) ?_
  refine gf_newIk (N := 240) (k := 67) (cA0 := 0) rfl C (gf_mem 111 (by decide +kernel) (by decide +kernel)) dd_Mo_init_16 (by decide) (by decide) (by decide) (Nat.le_of_ble_eq_true rfl) (fun j => (gf_ups_new rfl).trans (hμ _ _ (by decide))) ⟨Nat.le_of_ble_eq_true rfl, Nat.le_of_ble_eq_true rfl⟩ ?_
  refine gf_ph (φ' := (2, 246, 68, gf_ups ρ [(65, 0, 66)])) rfl ?_
  refine gf_putF (z := 1) (ty := .array .int) C hname gf_cl7 fl_Mo_13 dd_Mo_init_18 rfl rfl rfl rfl (by decide +kernel) (fun _ => ⟨rfl, rfl⟩) (show gf_is 68 65 0 7 26 by decide) (by decide) ?_
  refine gf_ph (φ' := (2, 246, 68, gf_ups ρ [(65, 1, 67), (65, 0, 66)])) rfl ?_
  refine gf_aload_n C dd_Mo_init_21 0 rfl ?_
  refine gf_iconst C dd_Mo_init_22 ?_
  refine gf_newIk (N := 4) (k := 68) (cA0 := 0) rfl C (gf_mem 111 (by decide +kernel) (by decide +kernel)) dd_Mo_init_23 (by decide) (by decide) (by decide) (Nat.le_of_ble_eq_true rfl) (fun j => (gf_ups_new rfl).trans (hμ _ _ (by decide))) ⟨Nat.le_of_ble_eq_true rfl, Nat.le_of_ble_eq_true rfl⟩ ?_
  refine gf_ph (φ' := (3, 250, 69, gf_ups ρ [(65, 1, 67), (65, 0, 66)])) rfl ?_
  refine gf_putF (z := 2) (ty := .array .int) C hname gf_cl7 fl_Mo_16 dd_Mo_init_25 rfl rfl rfl rfl (by decide +kernel) (fun _ => ⟨rfl, rfl⟩) (show gf_is 69 65 0 7 26 by decide) (by decide) ?_
  refine gf_ph (φ' := (3, 250, 69, gf_ups ρ [(65, 2, 68), (65, 1, 67), (65, 0, 66)])) rfl ?_
  refine gf_aload_n C dd_Mo_init_28 0 rfl ?_
  refine gf_sipush C dd_Mo_init_29 (by decide +kernel) ?_
  refine gf_newBk (N := 240) (k := 69) (cA0 := 2) rfl C (gf_mem 863 (by decide +kernel) (by decide +kernel)) dd_Mo_init_32 (by decide) (by decide) (by decide) (Nat.le_of_ble_eq_true rfl) (fun j => (gf_ups_new rfl).trans (hμ _ _ (by decide))) ⟨Nat.le_of_ble_eq_true rfl, Nat.le_of_ble_eq_true rfl⟩ ?_
  refine gf_ph (φ' := (4, 490, 70, gf_ups ρ [(65, 2, 68), (65, 1, 67), (65, 0, 66)])) rfl ?_
  refine gf_putF (z := 3) (ty := .array .byte) C hname gf_cl7 fl_Mo_19 dd_Mo_init_34 rfl rfl rfl rfl (by decide +kernel) (fun _ => ⟨rfl, rfl⟩) (show gf_is 70 65 0 7 26 by decide) (by decide) ?_
  refine gf_ph (φ' := (4, 490, 70, gf_ups ρ [(65, 3, 69), (65, 2, 68), (65, 1, 67), (65, 0, 66)])) rfl ?_
  refine gf_aload_n C dd_Mo_init_37 0 rfl ?_
  refine gf_lconst 1 C dd_Mo_init_38 (by decide +kernel) ?_
  refine gf_putL (z := 6) C gf_cl7 fl_Mo_23 dd_Mo_init_39 rfl rfl rfl (by decide +kernel) (show gf_is 70 65 0 7 26 by decide) (by decide) ?_
  refine gf_pm (μ := gf_ups μ [(65, 6, 1)]) rfl ?_
  refine gf_aload_n C dd_Mo_init_42 0 rfl ?_
  refine gf_bipush C dd_Mo_init_43 (by decide +kernel) ?_
  refine gf_newIk (N := 6) (k := 70) (cA0 := 0) rfl C (gf_mem 111 (by decide +kernel) (by decide +kernel)) dd_Mo_init_45 (by decide) (by decide) (by decide) (Nat.le_of_ble_eq_true rfl) (fun j => (gf_ups_new rfl).trans (hμ _ _ (by decide))) ⟨Nat.le_of_ble_eq_true rfl, Nat.le_of_ble_eq_true rfl⟩ ?_
  refine gf_ph (φ' := (5, 496, 71, gf_ups ρ [(65, 3, 69), (65, 2, 68), (65, 1, 67), (65, 0, 66)])) rfl ?_
  refine gf_putF (z := 8) (ty := .array .int) C hname gf_cl7 fl_Mo_27 dd_Mo_init_47 rfl rfl rfl rfl (by decide +kernel) (fun _ => ⟨rfl, rfl⟩) (show gf_is 71 65 0 7 26 by decide) (by decide) ?_
  refine gf_ph (φ' := (5, 496, 71, gf_ups ρ [(65, 8, 70), (65, 3, 69), (65, 2, 68), (65, 1, 67), (65, 0, 66)])) rfl ?_
  refine gf_aload_n C dd_Mo_init_50 0 rfl ?_
  refine gf_sipush C dd_Mo_init_51 (by decide +kernel) ?_
  refine gf_newIk (N := 392) (k := 71) (cA0 := 0) rfl C (gf_mem 111 (by decide +kernel) (by decide +kernel)) dd_Mo_init_54 (by decide) (by decide) (by decide) (Nat.le_of_ble_eq_true rfl) (fun j => (gf_ups_new rfl).trans (hμ _ _ (by decide))) ⟨Nat.le_of_ble_eq_true rfl, Nat.le_of_ble_eq_true rfl⟩ ?_
  refine gf_ph (φ' := (6, 888, 72, gf_ups ρ [(65, 8, 70), (65, 3, 69), (65, 2, 68), (65, 1, 67), (65, 0, 66)])) rfl ?_
  refine gf_putF (z := 9) (ty := .array .int) C hname gf_cl7 fl_Mo_30 dd_Mo_init_56 rfl rfl rfl rfl (by decide +kernel) (fun _ => ⟨rfl, rfl⟩) (show gf_is 72 65 0 7 26 by decide) (by decide) ?_
  refine gf_ph (φ' := (6, 888, 72, gf_ups ρ [(65, 9, 71), (65, 8, 70), (65, 3, 69), (65, 2, 68), (65, 1, 67), (65, 0, 66)])) rfl ?_
  refine gf_aload_n C dd_Mo_init_59 0 rfl ?_
  refine gf_bipush C dd_Mo_init_60 (by decide +kernel) ?_
  refine gf_newIk (N := 24) (k := 72) (cA0 := 0) rfl C (gf_mem 111 (by decide +kernel) (by decide +kernel)) dd_Mo_init_62 (by decide) (by decide) (by decide) (Nat.le_of_ble_eq_true rfl) (fun j => (gf_ups_new rfl).trans (hμ _ _ (by decide))) ⟨Nat.le_of_ble_eq_true rfl, Nat.le_of_ble_eq_true rfl⟩ ?_
  refine gf_ph (φ' := (7, 912, 73, gf_ups ρ [(65, 9, 71), (65, 8, 70), (65, 3, 69), (65, 2, 68), (65, 1, 67), (65, 0, 66)])) rfl ?_
  refine gf_putF (z := 13) (ty := .array .int) C hname gf_cl7 fl_Mo_33 dd_Mo_init_64 rfl rfl rfl rfl (by decide +kernel) (fun _ => ⟨rfl, rfl⟩) (show gf_is 73 65 0 7 26 by decide) (by decide) ?_
  refine gf_ph (φ' := (7, 912, 73, gf_ups ρ [(65, 13, 72), (65, 9, 71), (65, 8, 70), (65, 3, 69), (65, 2, 68), (65, 1, 67), (65, 0, 66)])) rfl ?_
  refine gf_aload_n C dd_Mo_init_67 0 rfl ?_
  refine gf_bipush C dd_Mo_init_68 (by decide +kernel) ?_
  refine gf_newIk (N := 8) (k := 73) (cA0 := 0) rfl C (gf_mem 111 (by decide +kernel) (by decide +kernel)) dd_Mo_init_70 (by decide) (by decide) (by decide) (Nat.le_of_ble_eq_true rfl) (fun j => (gf_ups_new rfl).trans (hμ _ _ (by decide))) ⟨Nat.le_of_ble_eq_true rfl, Nat.le_of_ble_eq_true rfl⟩ ?_
  refine gf_ph (φ' := (8, 920, 74, gf_ups ρ [(65, 13, 72), (65, 9, 71), (65, 8, 70), (65, 3, 69), (65, 2, 68), (65, 1, 67), (65, 0, 66)])) rfl ?_
  refine gf_putF (z := 14) (ty := .array .int) C hname gf_cl7 fl_Mo_36 dd_Mo_init_72 rfl rfl rfl rfl (by decide +kernel) (fun _ => ⟨rfl, rfl⟩) (show gf_is 74 65 0 7 26 by decide) (by decide) ?_
  refine gf_ph (φ' := (8, 920, 74, gf_ups ρ [(65, 14, 73), (65, 13, 72), (65, 9, 71), (65, 8, 70), (65, 3, 69), (65, 2, 68), (65, 1, 67), (65, 0, 66)])) rfl ?_
  refine gf_aload_n C dd_Mo_init_75 0 rfl ?_
  refine gf_iconst C dd_Mo_init_76 ?_
  refine gf_newIk (N := 3) (k := 74) (cA0 := 0) rfl C (gf_mem 111 (by decide +kernel) (by decide +kernel)) dd_Mo_init_77 (by decide) (by decide) (by decide) (Nat.le_of_ble_eq_true rfl) (fun j => (gf_ups_new rfl).trans (hμ _ _ (by decide))) ⟨Nat.le_of_ble_eq_true rfl, Nat.le_of_ble_eq_true rfl⟩ ?_
  refine gf_ph (φ' := (9, 923, 75, gf_ups ρ [(65, 14, 73), (65, 13, 72), (65, 9, 71), (65, 8, 70), (65, 3, 69), (65, 2, 68), (65, 1, 67), (65, 0, 66)])) rfl ?_
  refine gf_putF (z := 18) (ty := .array .int) C hname gf_cl7 fl_Mo_39 dd_Mo_init_79 rfl rfl rfl rfl (by decide +kernel) (fun _ => ⟨rfl, rfl⟩) (show gf_is 75 65 0 7 26 by decide) (by decide) ?_
  refine gf_ph (φ' := (9, 923, 75, gf_ups ρ [(65, 18, 74), (65, 14, 73), (65, 13, 72), (65, 9, 71), (65, 8, 70), (65, 3, 69), (65, 2, 68), (65, 1, 67), (65, 0, 66)])) rfl ?_
  refine gf_aload_n C dd_Mo_init_82 0 rfl ?_
  refine gf_sipush C dd_Mo_init_83 (by decide +kernel) ?_
  refine gf_newIk (N := 1176) (k := 75) (cA0 := 0) rfl C (gf_mem 111 (by decide +kernel) (by decide +kernel)) dd_Mo_init_86 (by decide) (by decide) (by decide) (Nat.le_of_ble_eq_true rfl) (fun j => (gf_ups_new rfl).trans (hμ _ _ (by decide))) ⟨Nat.le_of_ble_eq_true rfl, Nat.le_of_ble_eq_true rfl⟩ ?_
  refine gf_ph (φ' := (10, 2099, 76, gf_ups ρ [(65, 18, 74), (65, 14, 73), (65, 13, 72), (65, 9, 71), (65, 8, 70), (65, 3, 69), (65, 2, 68), (65, 1, 67), (65, 0, 66)])) rfl ?_
  refine gf_putF (z := 19) (ty := .array .int) C hname gf_cl7 fl_Mo_42 dd_Mo_init_88 rfl rfl rfl rfl (by decide +kernel) (fun _ => ⟨rfl, rfl⟩) (show gf_is 76 65 0 7 26 by decide) (by decide) ?_
  refine gf_ph (φ' := (10, 2099, 76, gf_ups ρ [(65, 19, 75), (65, 18, 74), (65, 14, 73), (65, 13, 72), (65, 9, 71), (65, 8, 70), (65, 3, 69), (65, 2, 68), (65, 1, 67), (65, 0, 66)])) rfl ?_
  refine gf_aload_n C dd_Mo_init_91 0 rfl ?_
  refine gf_bipush C dd_Mo_init_92 (by decide +kernel) ?_
  refine gf_newIk (N := 85) (k := 76) (cA0 := 0) rfl C (gf_mem 111 (by decide +kernel) (by decide +kernel)) dd_Mo_init_94 (by decide) (by decide) (by decide) (Nat.le_of_ble_eq_true rfl) (fun j => (gf_ups_new rfl).trans (hμ _ _ (by decide))) ⟨Nat.le_of_ble_eq_true rfl, Nat.le_of_ble_eq_true rfl⟩ ?_
  refine gf_ph (φ' := (11, 2184, 77, gf_ups ρ [(65, 19, 75), (65, 18, 74), (65, 14, 73), (65, 13, 72), (65, 9, 71), (65, 8, 70), (65, 3, 69), (65, 2, 68), (65, 1, 67), (65, 0, 66)])) rfl ?_
  refine gf_putF (z := 20) (ty := .array .int) C hname gf_cl7 fl_Mo_45 dd_Mo_init_96 rfl rfl rfl rfl (by decide +kernel) (fun _ => ⟨rfl, rfl⟩) (show gf_is 77 65 0 7 26 by decide) (by decide) ?_
  refine gf_ph (φ' := (11, 2184, 77, gf_ups ρ [(65, 20, 76), (65, 19, 75), (65, 18, 74), (65, 14, 73), (65, 13, 72), (65, 9, 71), (65, 8, 70), (65, 3, 69), (65, 2, 68), (65, 1, 67), (65, 0, 66)])) rfl ?_
  refine gf_aload_n C dd_Mo_init_99 0 rfl ?_
  refine gf_bipush C dd_Mo_init_100 (by decide +kernel) ?_
  refine gf_newIk (N := 7) (k := 77) (cA0 := 0) rfl C (gf_mem 111 (by decide +kernel) (by decide +kernel)) dd_Mo_init_102 (by decide) (by decide) (by decide) (Nat.le_of_ble_eq_true rfl) (fun j => (gf_ups_new rfl).trans (hμ _ _ (by decide))) ⟨Nat.le_of_ble_eq_true rfl, Nat.le_of_ble_eq_true rfl⟩ ?_
  refine gf_ph (φ' := (12, 2191, 78, gf_ups ρ [(65, 20, 76), (65, 19, 75), (65, 18, 74), (65, 14, 73), (65, 13, 72), (65, 9, 71), (65, 8, 70), (65, 3, 69), (65, 2, 68), (65, 1, 67), (65, 0, 66)])) rfl ?_
  refine gf_putF (z := 22) (ty := .array .int) C hname gf_cl7 fl_Mo_48 dd_Mo_init_104 rfl rfl rfl rfl (by decide +kernel) (fun _ => ⟨rfl, rfl⟩) (show gf_is 78 65 0 7 26 by decide) (by decide) ?_
  refine gf_ph (φ' := (12, 2191, 78, gf_ups ρ [(65, 22, 77), (65, 20, 76), (65, 19, 75), (65, 18, 74), (65, 14, 73), (65, 13, 72), (65, 9, 71), (65, 8, 70), (65, 3, 69), (65, 2, 68), (65, 1, 67), (65, 0, 66)])) rfl ?_
  refine gf_aload_n C dd_Mo_init_107 0 rfl ?_
  refine gf_bipush C dd_Mo_init_108 (by decide +kernel) ?_
  refine gf_newIk (N := 9) (k := 78) (cA0 := 0) rfl C (gf_mem 111 (by decide +kernel) (by decide +kernel)) dd_Mo_init_110 (by decide) (by decide) (by decide) (Nat.le_of_ble_eq_true rfl) (fun j => (gf_ups_new rfl).trans (hμ _ _ (by decide))) ⟨Nat.le_of_ble_eq_true rfl, Nat.le_of_ble_eq_true rfl⟩ ?_
  refine gf_ph (φ' := (13, 2200, 79, gf_ups ρ [(65, 22, 77), (65, 20, 76), (65, 19, 75), (65, 18, 74), (65, 14, 73), (65, 13, 72), (65, 9, 71), (65, 8, 70), (65, 3, 69), (65, 2, 68), (65, 1, 67), (65, 0, 66)])) rfl ?_
  refine gf_putF (z := 23) (ty := .array .int) C hname gf_cl7 fl_Mo_51 dd_Mo_init_112 rfl rfl rfl rfl (by decide +kernel) (fun _ => ⟨rfl, rfl⟩) (show gf_is 79 65 0 7 26 by decide) (by decide) ?_
  refine gf_ph (φ' := (13, 2200, 79, gf_ups ρ [(65, 23, 78), (65, 22, 77), (65, 20, 76), (65, 19, 75), (65, 18, 74), (65, 14, 73), (65, 13, 72), (65, 9, 71), (65, 8, 70), (65, 3, 69), (65, 2, 68), (65, 1, 67), (65, 0, 66)])) rfl ?_
  refine gf_aload_n C dd_Mo_init_115 0 rfl ?_
  refine gf_iconst C dd_Mo_init_116 ?_
  refine gf_newIk (N := 3) (k := 79) (cA0 := 0) rfl C (gf_mem 111 (by decide +kernel) (by decide +kernel)) dd_Mo_init_117 (by decide) (by decide) (by decide) (Nat.le_of_ble_eq_true rfl) (fun j => (gf_ups_new rfl).trans (hμ _ _ (by decide))) ⟨Nat.le_of_ble_eq_true rfl, Nat.le_of_ble_eq_true rfl⟩ ?_
  refine gf_ph (φ' := (14, 2203, 80, gf_ups ρ [(65, 23, 78), (65, 22, 77), (65, 20, 76), (65, 19, 75), (65, 18, 74), (65, 14, 73), (65, 13, 72), (65, 9, 71), (65, 8, 70), (65, 3, 69), (65, 2, 68), (65, 1, 67), (65, 0, 66)])) rfl ?_
  refine gf_putF (z := 24) (ty := .array .int) C hname gf_cl7 fl_Mo_54 dd_Mo_init_119 rfl rfl rfl rfl (by decide +kernel) (fun _ => ⟨rfl, rfl⟩) (show gf_is 80 65 0 7 26 by decide) (by decide) ?_
  refine gf_ph (φ' := (14, 2203, 80, gf_ups ρ [(65, 24, 79), (65, 23, 78), (65, 22, 77), (65, 20, 76), (65, 19, 75), (65, 18, 74), (65, 14, 73), (65, 13, 72), (65, 9, 71), (65, 8, 70), (65, 3, 69), (65, 2, 68), (65, 1, 67), (65, 0, 66)])) rfl ?_
  refine gf_aload_n C dd_Mo_init_122 0 rfl ?_
  refine gf_sipush C dd_Mo_init_123 (by decide +kernel) ?_
  refine gf_newIk (N := 10000) (k := 80) (cA0 := 0) rfl C (gf_mem 111 (by decide +kernel) (by decide +kernel)) dd_Mo_init_126 (by decide) (by decide) (by decide) (Nat.le_of_ble_eq_true rfl) (fun j => (gf_ups_new rfl).trans (hμ _ _ (by decide))) ⟨Nat.le_of_ble_eq_true rfl, Nat.le_of_ble_eq_true rfl⟩ ?_
  refine gf_ph (φ' := (15, 12203, 81, gf_ups ρ [(65, 24, 79), (65, 23, 78), (65, 22, 77), (65, 20, 76), (65, 19, 75), (65, 18, 74), (65, 14, 73), (65, 13, 72), (65, 9, 71), (65, 8, 70), (65, 3, 69), (65, 2, 68), (65, 1, 67), (65, 0, 66)])) rfl ?_
  refine gf_putF (z := 25) (ty := .array .int) C hname gf_cl7 fl_Mo_57 dd_Mo_init_128 rfl rfl rfl rfl (by decide +kernel) (fun _ => ⟨rfl, rfl⟩) (show gf_is 81 65 0 7 26 by decide) (by decide) ?_
  refine gf_ph (φ' := (15, 12203, 81, gf_ups ρ [(65, 25, 80), (65, 24, 79), (65, 23, 78), (65, 22, 77), (65, 20, 76), (65, 19, 75), (65, 18, 74), (65, 14, 73), (65, 13, 72), (65, 9, 71), (65, 8, 70), (65, 3, 69), (65, 2, 68), (65, 1, 67), (65, 0, 66)])) rfl ?_
  refine gf_iconst C dd_Mo_init_131 ?_
  refine gf_istore_n (lv' := [(1, .int (gf_i 0)), (0, .ref (gf_ad E 65))]) C dd_Mo_init_132 (by decide) rfl ?_
  refine gf_iload_n C dd_Mo_init_133 0 rfl ?_
  refine gf_bipush C dd_Mo_init_134 (by decide +kernel) ?_
  refine gf_icmp_ge 152 C dd_Mo_init_136 (by decide) (by decide) (by decide) (fun h136 => absurd h136 (by decide)) (fun h136 => ?_)
  refine gf_aload_n C dd_Mo_init_139 1 rfl ?_
  refine gf_getA (r := 66) C gf_cl7 fl_Mo_7 dd_Mo_init_140 rfl (show gf_is 81 65 0 7 26 by decide) rfl (by decide) ?_
  refine gf_iload_n C dd_Mo_init_143 0 rfl ?_
  refine gf_iconst C dd_Mo_init_144 ?_
  refine gf_iast C dd_Mo_init_145 (show gf_is 81 66 1 0 6 by decide) (by decide) (by decide) ?_
  refine gf_pm (μ := gf_ups μ [(66, 0, (-1)), (65, 6, 1)]) rfl ?_
  refine gf_iinc (q := 0) (v := 1) (lv' := [(1, .int (gf_i 1)), (0, .ref (gf_ad E 65))]) C dd_Mo_init_146 rfl (show (1 : Int) = 0 + 1 by decide) (by decide) rfl ?_
  refine gf_goto 133 C dd_Mo_init_149 (by decide) ?_
  refine gf_iload_n C dd_Mo_init_133 0 rfl ?_
  refine gf_bipush C dd_Mo_init_134 (by decide +kernel) ?_
  refine gf_icmp_ge 152 C dd_Mo_init_136 (by decide) (by decide) (by decide) (fun h136 => absurd h136 (by decide)) (fun h136 => ?_)
  refine gf_aload_n C dd_Mo_init_139 1 rfl ?_
  refine gf_getA (r := 66) C gf_cl7 fl_Mo_7 dd_Mo_init_140 rfl (show gf_is 81 65 0 7 26 by decide) rfl (by decide) ?_
  refine gf_iload_n C dd_Mo_init_143 0 rfl ?_
  refine gf_iconst C dd_Mo_init_144 ?_
  refine gf_iast C dd_Mo_init_145 (show gf_is 81 66 1 0 6 by decide) (by decide) (by decide) ?_
  refine gf_pm (μ := gf_ups μ [(66, 1, (-1)), (66, 0, (-1)), (65, 6, 1)]) rfl ?_
  refine gf_iinc (q := 0) (v := 2) (lv' := [(1, .int (gf_i 2)), (0, .ref (gf_ad E 65))]) C dd_Mo_init_146 rfl (show (2 : Int) = 1 + 1 by decide) (by decide) rfl ?_
  refine gf_goto 133 C dd_Mo_init_149 (by decide) ?_
  refine gf_iload_n C dd_Mo_init_133 0 rfl ?_
  refine gf_bipush C dd_Mo_init_134 (by decide +kernel) ?_
  refine gf_icmp_ge 152 C dd_Mo_init_136 (by decide) (by decide) (by decide) (fun h136 => absurd h136 (by decide)) (fun h136 => ?_)
  refine gf_aload_n C dd_Mo_init_139 1 rfl ?_
  refine gf_getA (r := 66) C gf_cl7 fl_Mo_7 dd_Mo_init_140 rfl (show gf_is 81 65 0 7 26 by decide) rfl (by decide) ?_
  refine gf_iload_n C dd_Mo_init_143 0 rfl ?_
  refine gf_iconst C dd_Mo_init_144 ?_
  refine gf_iast C dd_Mo_init_145 (show gf_is 81 66 1 0 6 by decide) (by decide) (by decide) ?_
  refine gf_pm (μ := gf_ups μ [(66, 2, (-1)), (66, 1, (-1)), (66, 0, (-1)), (65, 6, 1)]) rfl ?_
  refine gf_iinc (q := 0) (v := 3) (lv' := [(1, .int (gf_i 3)), (0, .ref (gf_ad E 65))]) C dd_Mo_init_146 rfl (show (3 : Int) = 2 + 1 by decide) (by decide) rfl ?_
  refine gf_goto 133 C dd_Mo_init_149 (by decide) ?_
  refine gf_iload_n C dd_Mo_init_133 0 rfl ?_
  refine gf_bipush C dd_Mo_init_134 (by decide +kernel) ?_
  refine gf_icmp_ge 152 C dd_Mo_init_136 (by decide) (by decide) (by decide) (fun h136 => absurd h136 (by decide)) (fun h136 => ?_)
  refine gf_aload_n C dd_Mo_init_139 1 rfl ?_
  refine gf_getA (r := 66) C gf_cl7 fl_Mo_7 dd_Mo_init_140 rfl (show gf_is 81 65 0 7 26 by decide) rfl (by decide) ?_
  refine gf_iload_n C dd_Mo_init_143 0 rfl ?_
  refine gf_iconst C dd_Mo_init_144 ?_
  refine gf_iast C dd_Mo_init_145 (show gf_is 81 66 1 0 6 by decide) (by decide) (by decide) ?_
  refine gf_pm (μ := gf_ups μ [(66, 3, (-1)), (66, 2, (-1)), (66, 1, (-1)), (66, 0, (-1)), (65, 6, 1)]) rfl ?_
  refine gf_iinc (q := 0) (v := 4) (lv' := [(1, .int (gf_i 4)), (0, .ref (gf_ad E 65))]) C dd_Mo_init_146 rfl (show (4 : Int) = 3 + 1 by decide) (by decide) rfl ?_
  refine gf_goto 133 C dd_Mo_init_149 (by decide) ?_
  refine gf_iload_n C dd_Mo_init_133 0 rfl ?_
  refine gf_bipush C dd_Mo_init_134 (by decide +kernel) ?_
  refine gf_icmp_ge 152 C dd_Mo_init_136 (by decide) (by decide) (by decide) (fun h136 => absurd h136 (by decide)) (fun h136 => ?_)
  refine gf_aload_n C dd_Mo_init_139 1 rfl ?_
  refine gf_getA (r := 66) C gf_cl7 fl_Mo_7 dd_Mo_init_140 rfl (show gf_is 81 65 0 7 26 by decide) rfl (by decide) ?_
  refine gf_iload_n C dd_Mo_init_143 0 rfl ?_
  refine gf_iconst C dd_Mo_init_144 ?_
  refine gf_iast C dd_Mo_init_145 (show gf_is 81 66 1 0 6 by decide) (by decide) (by decide) ?_
  refine gf_pm (μ := gf_ups μ [(66, 4, (-1)), (66, 3, (-1)), (66, 2, (-1)), (66, 1, (-1)), (66, 0, (-1)), (65, 6, 1)]) rfl ?_
  refine gf_iinc (q := 0) (v := 5) (lv' := [(1, .int (gf_i 5)), (0, .ref (gf_ad E 65))]) C dd_Mo_init_146 rfl (show (5 : Int) = 4 + 1 by decide) (by decide) rfl ?_
  refine gf_goto 133 C dd_Mo_init_149 (by decide) ?_
  refine gf_iload_n C dd_Mo_init_133 0 rfl ?_
  refine gf_bipush C dd_Mo_init_134 (by decide +kernel) ?_
  refine gf_icmp_ge 152 C dd_Mo_init_136 (by decide) (by decide) (by decide) (fun h136 => absurd h136 (by decide)) (fun h136 => ?_)
  refine gf_aload_n C dd_Mo_init_139 1 rfl ?_
  refine gf_getA (r := 66) C gf_cl7 fl_Mo_7 dd_Mo_init_140 rfl (show gf_is 81 65 0 7 26 by decide) rfl (by decide) ?_
  refine gf_iload_n C dd_Mo_init_143 0 rfl ?_
  refine gf_iconst C dd_Mo_init_144 ?_
  refine gf_iast C dd_Mo_init_145 (show gf_is 81 66 1 0 6 by decide) (by decide) (by decide) ?_
  refine gf_pm (μ := gf_ups μ [(66, 5, (-1)), (66, 4, (-1)), (66, 3, (-1)), (66, 2, (-1)), (66, 1, (-1)), (66, 0, (-1)), (65, 6, 1)]) rfl ?_
  refine gf_iinc (q := 0) (v := 6) (lv' := [(1, .int (gf_i 6)), (0, .ref (gf_ad E 65))]) C dd_Mo_init_146 rfl (show (6 : Int) = 5 + 1 by decide) (by decide) rfl ?_
  refine gf_goto 133 C dd_Mo_init_149 (by decide) ?_
  refine gf_iload_n C dd_Mo_init_133 0 rfl ?_
  refine gf_bipush C dd_Mo_init_134 (by decide +kernel) ?_
  refine gf_icmp_ge 152 C dd_Mo_init_136 (by decide) (by decide) (by decide) (fun h136 => ?_) (fun h136 => absurd (by decide) h136)
  refine gf_iconst C dd_Mo_init_152 ?_
  refine gf_istore_n (lv' := [(1, .int (gf_i 0)), (0, .ref (gf_ad E 65))]) C dd_Mo_init_153 (by decide) rfl ?_
  refine gf_iload_n C dd_Mo_init_154 0 rfl ?_
  refine gf_iconst C dd_Mo_init_155 ?_
  refine gf_icmp_ge 172 C dd_Mo_init_156 (by decide) (by decide) (by decide) (fun h156 => absurd h156 (by decide)) (fun h156 => ?_)
  refine gf_aload_n C dd_Mo_init_159 1 rfl ?_
  refine gf_getA (r := 68) C gf_cl7 fl_Mo_16 dd_Mo_init_160 rfl (show gf_is 81 65 0 7 26 by decide) rfl (by decide) ?_
  refine gf_iload_n C dd_Mo_init_163 0 rfl ?_
  refine gf_iconst C dd_Mo_init_164 ?_
  refine gf_iast C dd_Mo_init_165 (show gf_is 81 68 1 0 4 by decide) (by decide) (by decide) ?_
  refine gf_pm (μ := gf_ups μ [(68, 0, (-1)), (66, 5, (-1)), (66, 4, (-1)), (66, 3, (-1)), (66, 2, (-1)), (66, 1, (-1)), (66, 0, (-1)), (65, 6, 1)]) rfl ?_
  refine gf_iinc (q := 0) (v := 1) (lv' := [(1, .int (gf_i 1)), (0, .ref (gf_ad E 65))]) C dd_Mo_init_166 rfl (show (1 : Int) = 0 + 1 by decide) (by decide) rfl ?_
  refine gf_goto 154 C dd_Mo_init_169 (by decide) ?_
  refine gf_iload_n C dd_Mo_init_154 0 rfl ?_
  refine gf_iconst C dd_Mo_init_155 ?_
  refine gf_icmp_ge 172 C dd_Mo_init_156 (by decide) (by decide) (by decide) (fun h156 => absurd h156 (by decide)) (fun h156 => ?_)
  refine gf_aload_n C dd_Mo_init_159 1 rfl ?_
  refine gf_getA (r := 68) C gf_cl7 fl_Mo_16 dd_Mo_init_160 rfl (show gf_is 81 65 0 7 26 by decide) rfl (by decide) ?_
  refine gf_iload_n C dd_Mo_init_163 0 rfl ?_
  refine gf_iconst C dd_Mo_init_164 ?_
  refine gf_iast C dd_Mo_init_165 (show gf_is 81 68 1 0 4 by decide) (by decide) (by decide) ?_
  refine gf_pm (μ := gf_ups μ [(68, 1, (-1)), (68, 0, (-1)), (66, 5, (-1)), (66, 4, (-1)), (66, 3, (-1)), (66, 2, (-1)), (66, 1, (-1)), (66, 0, (-1)), (65, 6, 1)]) rfl ?_
  refine gf_iinc (q := 0) (v := 2) (lv' := [(1, .int (gf_i 2)), (0, .ref (gf_ad E 65))]) C dd_Mo_init_166 rfl (show (2 : Int) = 1 + 1 by decide) (by decide) rfl ?_
  refine gf_goto 154 C dd_Mo_init_169 (by decide) ?_
  refine gf_iload_n C dd_Mo_init_154 0 rfl ?_
  refine gf_iconst C dd_Mo_init_155 ?_
  refine gf_icmp_ge 172 C dd_Mo_init_156 (by decide) (by decide) (by decide) (fun h156 => absurd h156 (by decide)) (fun h156 => ?_)
  refine gf_aload_n C dd_Mo_init_159 1 rfl ?_
  refine gf_getA (r := 68) C gf_cl7 fl_Mo_16 dd_Mo_init_160 rfl (show gf_is 81 65 0 7 26 by decide) rfl (by decide) ?_
  refine gf_iload_n C dd_Mo_init_163 0 rfl ?_
  refine gf_iconst C dd_Mo_init_164 ?_
  refine gf_iast C dd_Mo_init_165 (show gf_is 81 68 1 0 4 by decide) (by decide) (by decide) ?_
  refine gf_pm (μ := gf_ups μ [(68, 2, (-1)), (68, 1, (-1)), (68, 0, (-1)), (66, 5, (-1)), (66, 4, (-1)), (66, 3, (-1)), (66, 2, (-1)), (66, 1, (-1)), (66, 0, (-1)), (65, 6, 1)]) rfl ?_
  refine gf_iinc (q := 0) (v := 3) (lv' := [(1, .int (gf_i 3)), (0, .ref (gf_ad E 65))]) C dd_Mo_init_166 rfl (show (3 : Int) = 2 + 1 by decide) (by decide) rfl ?_
  refine gf_goto 154 C dd_Mo_init_169 (by decide) ?_
  refine gf_iload_n C dd_Mo_init_154 0 rfl ?_
  refine gf_iconst C dd_Mo_init_155 ?_
  refine gf_icmp_ge 172 C dd_Mo_init_156 (by decide) (by decide) (by decide) (fun h156 => absurd h156 (by decide)) (fun h156 => ?_)
  refine gf_aload_n C dd_Mo_init_159 1 rfl ?_
  refine gf_getA (r := 68) C gf_cl7 fl_Mo_16 dd_Mo_init_160 rfl (show gf_is 81 65 0 7 26 by decide) rfl (by decide) ?_
  refine gf_iload_n C dd_Mo_init_163 0 rfl ?_
  refine gf_iconst C dd_Mo_init_164 ?_
  refine gf_iast C dd_Mo_init_165 (show gf_is 81 68 1 0 4 by decide) (by decide) (by decide) ?_
  refine gf_pm (μ := gf_ups μ [(68, 3, (-1)), (68, 2, (-1)), (68, 1, (-1)), (68, 0, (-1)), (66, 5, (-1)), (66, 4, (-1)), (66, 3, (-1)), (66, 2, (-1)), (66, 1, (-1)), (66, 0, (-1)), (65, 6, 1)]) rfl ?_
  refine gf_iinc (q := 0) (v := 4) (lv' := [(1, .int (gf_i 4)), (0, .ref (gf_ad E 65))]) C dd_Mo_init_166 rfl (show (4 : Int) = 3 + 1 by decide) (by decide) rfl ?_
  refine gf_goto 154 C dd_Mo_init_169 (by decide) ?_
  refine gf_iload_n C dd_Mo_init_154 0 rfl ?_
  refine gf_iconst C dd_Mo_init_155 ?_
  refine gf_icmp_ge 172 C dd_Mo_init_156 (by decide) (by decide) (by decide) (fun h156 => ?_) (fun h156 => absurd (by decide) h156)
  refine gf_iconst C dd_Mo_init_172 ?_
  refine gf_istore_n (lv' := [(1, .int (gf_i 0)), (0, .ref (gf_ad E 65))]) C dd_Mo_init_173 (by decide) rfl ?_
  refine gf_iload_n C dd_Mo_init_174 0 rfl ?_
  refine gf_iconst C dd_Mo_init_175 ?_
  refine gf_icmp_ge 192 C dd_Mo_init_176 (by decide) (by decide) (by decide) (fun h176 => absurd h176 (by decide)) (fun h176 => ?_)
  refine gf_aload_n C dd_Mo_init_179 1 rfl ?_
  refine gf_getA (r := 74) C gf_cl7 fl_Mo_39 dd_Mo_init_180 rfl (show gf_is 81 65 0 7 26 by decide) rfl (by decide) ?_
  refine gf_iload_n C dd_Mo_init_183 0 rfl ?_
  refine gf_iconst C dd_Mo_init_184 ?_
  refine gf_iast C dd_Mo_init_185 (show gf_is 81 74 1 0 3 by decide) (by decide) (by decide) ?_
  refine gf_pm (μ := gf_ups μ [(74, 0, (-1)), (68, 3, (-1)), (68, 2, (-1)), (68, 1, (-1)), (68, 0, (-1)), (66, 5, (-1)), (66, 4, (-1)), (66, 3, (-1)), (66, 2, (-1)), (66, 1, (-1)), (66, 0, (-1)), (65, 6, 1)]) rfl ?_
  refine gf_iinc (q := 0) (v := 1) (lv' := [(1, .int (gf_i 1)), (0, .ref (gf_ad E 65))]) C dd_Mo_init_186 rfl (show (1 : Int) = 0 + 1 by decide) (by decide) rfl ?_
  refine gf_goto 174 C dd_Mo_init_189 (by decide) ?_
  refine gf_iload_n C dd_Mo_init_174 0 rfl ?_
  refine gf_iconst C dd_Mo_init_175 ?_
  refine gf_icmp_ge 192 C dd_Mo_init_176 (by decide) (by decide) (by decide) (fun h176 => absurd h176 (by decide)) (fun h176 => ?_)
  refine gf_aload_n C dd_Mo_init_179 1 rfl ?_
  refine gf_getA (r := 74) C gf_cl7 fl_Mo_39 dd_Mo_init_180 rfl (show gf_is 81 65 0 7 26 by decide) rfl (by decide) ?_
  refine gf_iload_n C dd_Mo_init_183 0 rfl ?_
  refine gf_iconst C dd_Mo_init_184 ?_
  refine gf_iast C dd_Mo_init_185 (show gf_is 81 74 1 0 3 by decide) (by decide) (by decide) ?_
  refine gf_pm (μ := gf_ups μ [(74, 1, (-1)), (74, 0, (-1)), (68, 3, (-1)), (68, 2, (-1)), (68, 1, (-1)), (68, 0, (-1)), (66, 5, (-1)), (66, 4, (-1)), (66, 3, (-1)), (66, 2, (-1)), (66, 1, (-1)), (66, 0, (-1)), (65, 6, 1)]) rfl ?_
  refine gf_iinc (q := 0) (v := 2) (lv' := [(1, .int (gf_i 2)), (0, .ref (gf_ad E 65))]) C dd_Mo_init_186 rfl (show (2 : Int) = 1 + 1 by decide) (by decide) rfl ?_
  refine gf_goto 174 C dd_Mo_init_189 (by decide) ?_
  refine gf_iload_n C dd_Mo_init_174 0 rfl ?_
  refine gf_iconst C dd_Mo_init_175 ?_
  refine gf_icmp_ge 192 C dd_Mo_init_176 (by decide) (by decide) (by decide) (fun h176 => absurd h176 (by decide)) (fun h176 => ?_)
  refine gf_aload_n C dd_Mo_init_179 1 rfl ?_
  refine gf_getA (r := 74) C gf_cl7 fl_Mo_39 dd_Mo_init_180 rfl (show gf_is 81 65 0 7 26 by decide) rfl (by decide) ?_
  refine gf_iload_n C dd_Mo_init_183 0 rfl ?_
  refine gf_iconst C dd_Mo_init_184 ?_
  refine gf_iast C dd_Mo_init_185 (show gf_is 81 74 1 0 3 by decide) (by decide) (by decide) ?_
  refine gf_pm (μ := gf_ups μ [(74, 2, (-1)), (74, 1, (-1)), (74, 0, (-1)), (68, 3, (-1)), (68, 2, (-1)), (68, 1, (-1)), (68, 0, (-1)), (66, 5, (-1)), (66, 4, (-1)), (66, 3, (-1)), (66, 2, (-1)), (66, 1, (-1)), (66, 0, (-1)), (65, 6, 1)]) rfl ?_
  refine gf_iinc (q := 0) (v := 3) (lv' := [(1, .int (gf_i 3)), (0, .ref (gf_ad E 65))]) C dd_Mo_init_186 rfl (show (3 : Int) = 2 + 1 by decide) (by decide) rfl ?_
  refine gf_goto 174 C dd_Mo_init_189 (by decide) ?_
  refine gf_iload_n C dd_Mo_init_174 0 rfl ?_
  refine gf_iconst C dd_Mo_init_175 ?_
  refine gf_icmp_ge 192 C dd_Mo_init_176 (by decide) (by decide) (by decide) (fun h176 => ?_) (fun h176 => absurd (by decide) h176)
  exact gf_vret C hQ dd_Mo_init_192 rfl
