theorem dd_Fi_init_0 : decode cc_Fi_init 0 = .ok (.aload_n 0, 1) := by decide +kernel
theorem dd_Fi_init_1 : decode cc_Fi_init 1 = .ok (.invokespecial 1, 3) := by decide +kernel
theorem dd_Fi_init_4 : decode cc_Fi_init 4 = .ok (.aload_n 0, 1) := by decide +kernel
theorem dd_Fi_init_5 : decode cc_Fi_init 5 = .ok (.bipush 6, 2) := by decide +kernel
theorem dd_Fi_init_7 : decode cc_Fi_init 7 = .ok (.anewarray 9, 3) := by decide +kernel
theorem dd_Fi_init_10 : decode cc_Fi_init 10 = .ok (.putfield 11, 3) := by decide +kernel
theorem dd_Fi_init_13 : decode cc_Fi_init 13 = .ok (.iconst 0, 1) := by decide +kernel
theorem dd_Fi_init_14 : decode cc_Fi_init 14 = .ok (.istore_n 1, 1) := by decide +kernel
theorem dd_Fi_init_15 : decode cc_Fi_init 15 = .ok (.iload_n 1, 1) := by decide +kernel
theorem dd_Fi_init_16 : decode cc_Fi_init 16 = .ok (.bipush 6, 2) := by decide +kernel
theorem dd_Fi_init_18 : decode cc_Fi_init 18 = .ok (.if_icmp .ge 24, 3) := by decide +kernel
theorem dd_Fi_init_21 : decode cc_Fi_init 21 = .ok (.aload_n 0, 1) := by decide +kernel
theorem dd_Fi_init_22 : decode cc_Fi_init 22 = .ok (.getfield 11, 3) := by decide +kernel
theorem dd_Fi_init_25 : decode cc_Fi_init 25 = .ok (.iload_n 1, 1) := by decide +kernel
theorem dd_Fi_init_26 : decode cc_Fi_init 26 = .ok (.new 9, 3) := by decide +kernel
theorem dd_Fi_init_29 : decode cc_Fi_init 29 = .ok (.dup, 1) := by decide +kernel
theorem dd_Fi_init_30 : decode cc_Fi_init 30 = .ok (.bipush 40, 2) := by decide +kernel
theorem dd_Fi_init_32 : decode cc_Fi_init 32 = .ok (.invokespecial 15, 3) := by decide +kernel
theorem dd_Fi_init_35 : decode cc_Fi_init 35 = .ok (.aastore, 1) := by decide +kernel
theorem dd_Fi_init_36 : decode cc_Fi_init 36 = .ok (.iinc 1 1, 3) := by decide +kernel
theorem dd_Fi_init_39 : decode cc_Fi_init 39 = .ok (.goto (-24), 3) := by decide +kernel
theorem dd_Fi_init_42 : decode cc_Fi_init 42 = .ok (.aload_n 0, 1) := by decide +kernel
theorem dd_Fi_init_43 : decode cc_Fi_init 43 = .ok (.iconst 4, 1) := by decide +kernel
theorem dd_Fi_init_44 : decode cc_Fi_init 44 = .ok (.anewarray 9, 3) := by decide +kernel
theorem dd_Fi_init_47 : decode cc_Fi_init 47 = .ok (.putfield 18, 3) := by decide +kernel
theorem dd_Fi_init_50 : decode cc_Fi_init 50 = .ok (.iconst 0, 1) := by decide +kernel
theorem dd_Fi_init_51 : decode cc_Fi_init 51 = .ok (.istore_n 1, 1) := by decide +kernel
theorem dd_Fi_init_52 : decode cc_Fi_init 52 = .ok (.iload_n 1, 1) := by decide +kernel
theorem dd_Fi_init_53 : decode cc_Fi_init 53 = .ok (.iconst 4, 1) := by decide +kernel
theorem dd_Fi_init_54 : decode cc_Fi_init 54 = .ok (.if_icmp .ge 24, 3) := by decide +kernel
theorem dd_Fi_init_57 : decode cc_Fi_init 57 = .ok (.aload_n 0, 1) := by decide +kernel
theorem dd_Fi_init_58 : decode cc_Fi_init 58 = .ok (.getfield 18, 3) := by decide +kernel
theorem dd_Fi_init_61 : decode cc_Fi_init 61 = .ok (.iload_n 1, 1) := by decide +kernel
theorem dd_Fi_init_62 : decode cc_Fi_init 62 = .ok (.new 9, 3) := by decide +kernel
theorem dd_Fi_init_65 : decode cc_Fi_init 65 = .ok (.dup, 1) := by decide +kernel
theorem dd_Fi_init_66 : decode cc_Fi_init 66 = .ok (.bipush 60, 2) := by decide +kernel
theorem dd_Fi_init_68 : decode cc_Fi_init 68 = .ok (.invokespecial 15, 3) := by decide +kernel
theorem dd_Fi_init_71 : decode cc_Fi_init 71 = .ok (.aastore, 1) := by decide +kernel
theorem dd_Fi_init_72 : decode cc_Fi_init 72 = .ok (.iinc 1 1, 3) := by decide +kernel
theorem dd_Fi_init_75 : decode cc_Fi_init 75 = .ok (.goto (-23), 3) := by decide +kernel
theorem dd_Fi_init_78 : decode cc_Fi_init 78 = .ok (.aload_n 0, 1) := by decide +kernel
theorem dd_Fi_init_79 : decode cc_Fi_init 79 = .ok (.bipush 7, 2) := by decide +kernel
theorem dd_Fi_init_81 : decode cc_Fi_init 81 = .ok (.anewarray 21, 3) := by decide +kernel
theorem dd_Fi_init_84 : decode cc_Fi_init 84 = .ok (.putfield 23, 3) := by decide +kernel
theorem dd_Fi_init_87 : decode cc_Fi_init 87 = .ok (.iconst 0, 1) := by decide +kernel
theorem dd_Fi_init_88 : decode cc_Fi_init 88 = .ok (.istore_n 1, 1) := by decide +kernel
theorem dd_Fi_init_89 : decode cc_Fi_init 89 = .ok (.iload_n 1, 1) := by decide +kernel
theorem dd_Fi_init_90 : decode cc_Fi_init 90 = .ok (.bipush 7, 2) := by decide +kernel
theorem dd_Fi_init_92 : decode cc_Fi_init 92 = .ok (.if_icmp .ge 22, 3) := by decide +kernel
theorem dd_Fi_init_95 : decode cc_Fi_init 95 = .ok (.aload_n 0, 1) := by decide +kernel
theorem dd_Fi_init_96 : decode cc_Fi_init 96 = .ok (.getfield 23, 3) := by decide +kernel
theorem dd_Fi_init_99 : decode cc_Fi_init 99 = .ok (.iload_n 1, 1) := by decide +kernel
theorem dd_Fi_init_100 : decode cc_Fi_init 100 = .ok (.new 21, 3) := by decide +kernel
theorem dd_Fi_init_103 : decode cc_Fi_init 103 = .ok (.dup, 1) := by decide +kernel
theorem dd_Fi_init_104 : decode cc_Fi_init 104 = .ok (.invokespecial 27, 3) := by decide +kernel
theorem dd_Fi_init_107 : decode cc_Fi_init 107 = .ok (.aastore, 1) := by decide +kernel
theorem dd_Fi_init_108 : decode cc_Fi_init 108 = .ok (.iinc 1 1, 3) := by decide +kernel
theorem dd_Fi_init_111 : decode cc_Fi_init 111 = .ok (.goto (-22), 3) := by decide +kernel
theorem dd_Fi_init_114 : decode cc_Fi_init 114 = .ok (.aload_n 0, 1) := by decide +kernel
theorem dd_Fi_init_115 : decode cc_Fi_init 115 = .ok (.iconst 3, 1) := by decide +kernel
theorem dd_Fi_init_116 : decode cc_Fi_init 116 = .ok (.anewarray 28, 3) := by decide +kernel
theorem dd_Fi_init_119 : decode cc_Fi_init 119 = .ok (.putfield 30, 3) := by decide +kernel
theorem dd_Fi_init_122 : decode cc_Fi_init 122 = .ok (.iconst 0, 1) := by decide +kernel
theorem dd_Fi_init_123 : decode cc_Fi_init 123 = .ok (.istore_n 1, 1) := by decide +kernel
theorem dd_Fi_init_124 : decode cc_Fi_init 124 = .ok (.iload_n 1, 1) := by decide +kernel
theorem dd_Fi_init_125 : decode cc_Fi_init 125 = .ok (.iconst 3, 1) := by decide +kernel
theorem dd_Fi_init_126 : decode cc_Fi_init 126 = .ok (.if_icmp .ge 22, 3) := by decide +kernel
theorem dd_Fi_init_129 : decode cc_Fi_init 129 = .ok (.aload_n 0, 1) := by decide +kernel
theorem dd_Fi_init_130 : decode cc_Fi_init 130 = .ok (.getfield 30, 3) := by decide +kernel
theorem dd_Fi_init_133 : decode cc_Fi_init 133 = .ok (.iload_n 1, 1) := by decide +kernel
theorem dd_Fi_init_134 : decode cc_Fi_init 134 = .ok (.new 28, 3) := by decide +kernel
theorem dd_Fi_init_137 : decode cc_Fi_init 137 = .ok (.dup, 1) := by decide +kernel
theorem dd_Fi_init_138 : decode cc_Fi_init 138 = .ok (.invokespecial 34, 3) := by decide +kernel
theorem dd_Fi_init_141 : decode cc_Fi_init 141 = .ok (.aastore, 1) := by decide +kernel
theorem dd_Fi_init_142 : decode cc_Fi_init 142 = .ok (.iinc 1 1, 3) := by decide +kernel
theorem dd_Fi_init_145 : decode cc_Fi_init 145 = .ok (.goto (-21), 3) := by decide +kernel
theorem dd_Fi_init_148 : decode cc_Fi_init 148 = .ok (.aload_n 0, 1) := by decide +kernel
theorem dd_Fi_init_149 : decode cc_Fi_init 149 = .ok (.new 28, 3) := by decide +kernel
theorem dd_Fi_init_152 : decode cc_Fi_init 152 = .ok (.dup, 1) := by decide +kernel
theorem dd_Fi_init_153 : decode cc_Fi_init 153 = .ok (.invokespecial 34, 3) := by decide +kernel
theorem dd_Fi_init_156 : decode cc_Fi_init 156 = .ok (.putfield 35, 3) := by decide +kernel
theorem dd_Fi_init_159 : decode cc_Fi_init 159 = .ok (.aload_n 0, 1) := by decide +kernel
theorem dd_Fi_init_160 : decode cc_Fi_init 160 = .ok (.new 39, 3) := by decide +kernel
theorem dd_Fi_init_163 : decode cc_Fi_init 163 = .ok (.dup, 1) := by decide +kernel
theorem dd_Fi_init_164 : decode cc_Fi_init 164 = .ok (.invokespecial 41, 3) := by decide +kernel
theorem dd_Fi_init_167 : decode cc_Fi_init 167 = .ok (.putfield 42, 3) := by decide +kernel
theorem dd_Fi_init_170 : decode cc_Fi_init 170 = .ok (.aload_n 0, 1) := by decide +kernel
theorem dd_Fi_init_171 : decode cc_Fi_init 171 = .ok (.new 46, 3) := by decide +kernel
theorem dd_Fi_init_174 : decode cc_Fi_init 174 = .ok (.dup, 1) := by decide +kernel
theorem dd_Fi_init_175 : decode cc_Fi_init 175 = .ok (.invokespecial 48, 3) := by decide +kernel
theorem dd_Fi_init_178 : decode cc_Fi_init 178 = .ok (.putfield 49, 3) := by decide +kernel
theorem dd_Fi_init_181 : decode cc_Fi_init 181 = .ok (.aload_n 0, 1) := by decide +kernel
theorem dd_Fi_init_182 : decode cc_Fi_init 182 = .ok (.new 53, 3) := by decide +kernel
theorem dd_Fi_init_185 : decode cc_Fi_init 185 = .ok (.dup, 1) := by decide +kernel
theorem dd_Fi_init_186 : decode cc_Fi_init 186 = .ok (.invokespecial 55, 3) := by decide +kernel
theorem dd_Fi_init_189 : decode cc_Fi_init 189 = .ok (.putfield 56, 3) := by decide +kernel
theorem dd_Fi_init_192 : decode cc_Fi_init 192 = .ok (.aload_n 0, 1) := by decide +kernel
theorem dd_Fi_init_193 : decode cc_Fi_init 193 = .ok (.new 21, 3) := by decide +kernel
theorem dd_Fi_init_196 : decode cc_Fi_init 196 = .ok (.dup, 1) := by decide +kernel
theorem dd_Fi_init_197 : decode cc_Fi_init 197 = .ok (.invokespecial 27, 3) := by decide +kernel
theorem dd_Fi_init_200 : decode cc_Fi_init 200 = .ok (.putfield 60, 3) := by decide +kernel
theorem dd_Fi_init_203 : decode cc_Fi_init 203 = .ok (.aload_n 0, 1) := by decide +kernel
theorem dd_Fi_init_204 : decode cc_Fi_init 204 = .ok (.bipush 8, 2) := by decide +kernel
theorem dd_Fi_init_206 : decode cc_Fi_init 206 = .ok (.newarray .int, 2) := by decide +kernel
theorem dd_Fi_init_208 : decode cc_Fi_init 208 = .ok (.putfield 64, 3) := by decide +kernel
theorem dd_Fi_init_211 : decode cc_Fi_init 211 = .ok (.aload_n 0, 1) := by decide +kernel
theorem dd_Fi_init_212 : decode cc_Fi_init 212 = .ok (.bipush 11, 2) := by decide +kernel
theorem dd_Fi_init_214 : decode cc_Fi_init 214 = .ok (.newarray .int, 2) := by decide +kernel
theorem dd_Fi_init_216 : decode cc_Fi_init 216 = .ok (.putfield 68, 3) := by decide +kernel
theorem dd_Fi_init_219 : decode cc_Fi_init 219 = .ok (.aload_n 0, 1) := by decide +kernel
theorem dd_Fi_init_220 : decode cc_Fi_init 220 = .ok (.lconst 1, 1) := by decide +kernel
theorem dd_Fi_init_221 : decode cc_Fi_init 221 = .ok (.putfield 71, 3) := by decide +kernel
theorem dd_Fi_init_224 : decode cc_Fi_init 224 = .ok (.aload_n 0, 1) := by decide +kernel
theorem dd_Fi_init_225 : decode cc_Fi_init 225 = .ok (.bipush 6, 2) := by decide +kernel
theorem dd_Fi_init_227 : decode cc_Fi_init 227 = .ok (.newarray .int, 2) := by decide +kernel
theorem dd_Fi_init_229 : decode cc_Fi_init 229 = .ok (.putfield 75, 3) := by decide +kernel
theorem dd_Fi_init_232 : decode cc_Fi_init 232 = .ok (.return_, 1) := by decide +kernel
set_option maxRecDepth 100000 in
set_option maxHeartbeats 4000000 in
theorem ct_Fi_init_0 (l : Launch) (E : gf_E) (ρ μ : gf_M) (hμ : ∀ k j : Int, 1 ≤ k → μ k j = 0) (hρ : ∀ k j : Int, 1 ≤ k → ρ k j = -1) : gf_MI l E yy_Fi_init cc_Fi_init 2 (gf_rmc 3 64 1112 61) 1 ρ 64 1112 65 (gf_ups ρ [(0, 16, 64), (0, 11, 63), (0, 10, 62), (0, 9, 61), (0, 8, 59), (59, 0, 60), (0, 7, 53), (53, 5, 58), (53, 4, 57), (53, 3, 56), (53, 1, 55), (53, 0, 54), (0, 6, 44), (45, 6, 52), (45, 5, 51), (45, 4, 50), (45, 3, 49), (45, 2, 48), (45, 1, 47), (45, 0, 46), (44, 0, 45), (0, 4, 41), (41, 3, 43), (41, 0, 42), (31, 2, 38), (38, 3, 40), (38, 0, 39), (31, 1, 35), (35, 3, 37), (35, 0, 36), (31, 0, 32), (32, 3, 34), (32, 0, 33), (0, 5, 31), (23, 6, 30), (23, 5, 29), (23, 4, 28), (23, 3, 27), (23, 2, 26), (23, 1, 25), (23, 0, 24), (0, 2, 23), (14, 3, 21), (21, 0, 22), (14, 2, 19), (19, 0, 20), (14, 1, 17), (17, 0, 18), (14, 0, 15), (15, 0, 16), (0, 1, 14), (1, 5, 12), (12, 0, 13), (1, 4, 10), (10, 0, 11), (1, 3, 8), (8, 0, 9), (1, 2, 6), (6, 0, 7), (1, 1, 4), (4, 0, 5), (1, 0, 2), (2, 0, 3), (0, 0, 1)]) μ [.ref (gf_ad E 0)] (fun μ' => μ' = gf_ups μ [(0, 14, 1), (21, 1, (-1)), (19, 1, (-1)), (17, 1, (-1)), (15, 1, (-1)), (12, 1, (-1)), (10, 1, (-1)), (8, 1, (-1)), (6, 1, (-1)), (4, 1, (-1)), (2, 1, (-1))]) := by
  refine gf_mI (by decide +kernel) (Nat.le_of_ble_eq_true rfl) (by decide) (fun X Q hlx C hO hname hQ => ?_)
  subst hlx
  replace C : gf_C X E cc_Fi_init 2 "GuardFigures" (gf_rmc 3 64 1112 61) := C
  show gf_G X E Q 2 (0, 0, 1, gf_ups ρ []) (gf_ups μ []) 0 [(0, .ref (gf_ad E 0))] []
  refine gf_aload_n C dd_Fi_init_0 0 rfl ?_
  refine gf_objI C ⟨gf_mem 88 (by decide +kernel) (by decide +kernel), gf_mem 89 (by decide +kernel) (by decide +kernel), gf_mem 90 rfl (by decide +kernel)⟩ dd_Fi_init_1 (by decide) ⟨by decide, by decide⟩ ?_
  refine gf_aload_n C dd_Fi_init_4 0 rfl ?_
  refine gf_bipush C dd_Fi_init_5 (by decide +kernel) ?_
  refine gf_newQk (N := 6) (k := 1) (c := 3) rfl C hO.1 (gf_mem 91 (by decide +kernel) (by decide +kernel)) rfl (by decide) dd_Fi_init_7 (by decide) (by decide) (by decide) (Nat.le_of_ble_eq_true rfl) (fun j => (gf_ups_new rfl).trans (hρ _ _ (by decide))) ⟨Nat.le_of_ble_eq_true rfl, Nat.le_of_ble_eq_true rfl⟩ ?_
  refine gf_ph (φ' := (1, 6, 2, gf_ups ρ [])) rfl ?_
  refine gf_putF (z := 0) (ty := .array (.object "GuardFigures$Row")) C hname gf_cl6 fl_Fi_11 dd_Fi_init_10 rfl rfl rfl rfl (by decide +kernel) (fun _ => ⟨rfl, rfl⟩) (show gf_is 2 0 0 6 17 by decide) (by decide) ?_
  refine gf_ph (φ' := (1, 6, 2, gf_ups ρ [(0, 0, 1)])) rfl ?_
  refine gf_iconst C dd_Fi_init_13 ?_
  refine gf_istore_n (lv' := [(1, .int (gf_i 0)), (0, .ref (gf_ad E 0))]) C dd_Fi_init_14 (by decide) rfl ?_
  refine gf_iload_n C dd_Fi_init_15 0 rfl ?_
  refine gf_bipush C dd_Fi_init_16 (by decide +kernel) ?_
  refine gf_icmp_ge 42 C dd_Fi_init_18 (by decide) (by decide) (by decide) (fun h18 => absurd h18 (by decide)) (fun h18 => ?_)
  refine gf_aload_n C dd_Fi_init_21 1 rfl ?_
  refine gf_getA (r := 1) C gf_cl6 fl_Fi_11 dd_Fi_init_22 rfl (show gf_is 2 0 0 6 17 by decide) rfl (by decide) ?_
  refine gf_iload_n C dd_Fi_init_25 0 rfl ?_
  refine gf_newO (k := 2) rfl C gf_cl3 gf_ty3 (by decide +kernel) ⟨gf_mem 91 (by decide +kernel) (by decide +kernel), gf_mem 93 (by decide +kernel) (by decide +kernel), gf_mem 73 (by decide +kernel) (by decide +kernel)⟩ dd_Fi_init_26 (by decide) (Nat.le_of_ble_eq_true rfl) (fun j => (gf_ups_new rfl).trans (hμ _ _ (by decide))) (fun j => (gf_ups_new rfl).trans (hρ _ _ (by decide))) ⟨Nat.le_of_ble_eq_true rfl, Nat.le_of_ble_eq_true rfl⟩ ?_
  refine gf_ph (φ' := (2, 8, 3, gf_ups ρ [(0, 0, 1)])) rfl ?_
  refine gf_dup C dd_Fi_init_29 rfl ?_
  refine gf_bipush C dd_Fi_init_30 (by decide +kernel) ?_
  refine gf_callI (st := [.ref (gf_ad E 2), .int (gf_i 0), .ref (gf_ad E 1)]) (As := [.int (gf_i 40)]) C hO wk_Fi_15 (ct_Ro_init_2 (gf_xl X) E (gf_ups ρ [(0, 0, 1)]) (gf_ups μ []) (gf_z_ups hμ rfl) (gf_n_ups hρ rfl)) rfl ⟨rfl, rfl⟩ ⟨Nat.le_of_ble_eq_true rfl, Nat.le_of_ble_eq_true rfl⟩ (Nat.le_of_ble_eq_true rfl) rfl dd_Fi_init_32 (fun m32 hp32 => ?_)
  refine gf_phU (a' := 3) (b' := 48) (L' := [(2, 0, 3), (0, 0, 1)]) rfl rfl rfl ?_
  refine gf_pm (μ := gf_ups μ [(2, 1, (-1))]) (hp32.trans (gf_ups_ups _ _ _)) ?_
  refine gf_aast C rfl gf_cl3 dd_Fi_init_35 (show gf_is 4 1 4 3 6 by decide) (show gf_is 4 2 0 3 2 by decide) (by decide) ?_
  refine gf_ph (φ' := (3, 48, 4, gf_ups ρ [(1, 0, 2), (2, 0, 3), (0, 0, 1)])) rfl ?_
  refine gf_iinc (q := 0) (v := 1) (lv' := [(1, .int (gf_i 1)), (0, .ref (gf_ad E 0))]) C dd_Fi_init_36 rfl (show (1 : Int) = 0 + 1 by decide) (by decide) rfl ?_
  refine gf_goto 15 C dd_Fi_init_39 (by decide) ?_
  refine gf_iload_n C dd_Fi_init_15 0 rfl ?_
  refine gf_bipush C dd_Fi_init_16 (by decide +kernel) ?_
  refine gf_icmp_ge 42 C dd_Fi_init_18 (by decide) (by decide) (by decide) (fun h18 => absurd h18 (by decide)) (fun h18 => ?_)
  refine gf_aload_n C dd_Fi_init_21 1 rfl ?_
  refine gf_getA (r := 1) C gf_cl6 fl_Fi_11 dd_Fi_init_22 rfl (show gf_is 4 0 0 6 17 by decide) rfl (by decide) ?_
  refine gf_iload_n C dd_Fi_init_25 0 rfl ?_
  refine gf_newO (k := 4) rfl C gf_cl3 gf_ty3 (by decide +kernel) ⟨gf_mem 91 (by decide +kernel) (by decide +kernel), gf_mem 93 (by decide +kernel) (by decide +kernel), gf_mem 73 (by decide +kernel) (by decide +kernel)⟩ dd_Fi_init_26 (by decide) (Nat.le_of_ble_eq_true rfl) (fun j => (gf_ups_new rfl).trans (hμ _ _ (by decide))) (fun j => (gf_ups_new rfl).trans (hρ _ _ (by decide))) ⟨Nat.le_of_ble_eq_true rfl, Nat.le_of_ble_eq_true rfl⟩ ?_
  refine gf_ph (φ' := (4, 50, 5, gf_ups ρ [(1, 0, 2), (2, 0, 3), (0, 0, 1)])) rfl ?_
  refine gf_dup C dd_Fi_init_29 rfl ?_
  refine gf_bipush C dd_Fi_init_30 (by decide +kernel) ?_
  refine gf_callI (st := [.ref (gf_ad E 4), .int (gf_i 1), .ref (gf_ad E 1)]) (As := [.int (gf_i 40)]) C hO wk_Fi_15 (ct_Ro_init_4 (gf_xl X) E (gf_ups ρ [(1, 0, 2), (2, 0, 3), (0, 0, 1)]) (gf_ups μ [(2, 1, (-1))]) (gf_z_ups hμ rfl) (gf_n_ups hρ rfl)) rfl ⟨rfl, rfl⟩ ⟨Nat.le_of_ble_eq_true rfl, Nat.le_of_ble_eq_true rfl⟩ (Nat.le_of_ble_eq_true rfl) rfl dd_Fi_init_32 (fun m32 hp32 => ?_)
  refine gf_phU (a' := 5) (b' := 90) (L' := [(4, 0, 5), (1, 0, 2), (2, 0, 3), (0, 0, 1)]) rfl rfl rfl ?_
  refine gf_pm (μ := gf_ups μ [(4, 1, (-1)), (2, 1, (-1))]) (hp32.trans (gf_ups_ups _ _ _)) ?_
  refine gf_aast C rfl gf_cl3 dd_Fi_init_35 (show gf_is 6 1 4 3 6 by decide) (show gf_is 6 4 0 3 2 by decide) (by decide) ?_
  refine gf_ph (φ' := (5, 90, 6, gf_ups ρ [(1, 1, 4), (4, 0, 5), (1, 0, 2), (2, 0, 3), (0, 0, 1)])) rfl ?_
  refine gf_iinc (q := 0) (v := 2) (lv' := [(1, .int (gf_i 2)), (0, .ref (gf_ad E 0))]) C dd_Fi_init_36 rfl (show (2 : Int) = 1 + 1 by decide) (by decide) rfl ?_
  refine gf_goto 15 C dd_Fi_init_39 (by decide) ?_
  refine gf_iload_n C dd_Fi_init_15 0 rfl ?_
  refine gf_bipush C dd_Fi_init_16 (by decide +kernel) ?_
  refine gf_icmp_ge 42 C dd_Fi_init_18 (by decide) (by decide) (by decide) (fun h18 => absurd h18 (by decide)) (fun h18 => ?_)
  refine gf_aload_n C dd_Fi_init_21 1 rfl ?_
  refine gf_getA (r := 1) C gf_cl6 fl_Fi_11 dd_Fi_init_22 rfl (show gf_is 6 0 0 6 17 by decide) rfl (by decide) ?_
  refine gf_iload_n C dd_Fi_init_25 0 rfl ?_
  refine gf_newO (k := 6) rfl C gf_cl3 gf_ty3 (by decide +kernel) ⟨gf_mem 91 (by decide +kernel) (by decide +kernel), gf_mem 93 (by decide +kernel) (by decide +kernel), gf_mem 73 (by decide +kernel) (by decide +kernel)⟩ dd_Fi_init_26 (by decide) (Nat.le_of_ble_eq_true rfl) (fun j => (gf_ups_new rfl).trans (hμ _ _ (by decide))) (fun j => (gf_ups_new rfl).trans (hρ _ _ (by decide))) ⟨Nat.le_of_ble_eq_true rfl, Nat.le_of_ble_eq_true rfl⟩ ?_
  refine gf_ph (φ' := (6, 92, 7, gf_ups ρ [(1, 1, 4), (4, 0, 5), (1, 0, 2), (2, 0, 3), (0, 0, 1)])) rfl ?_
  refine gf_dup C dd_Fi_init_29 rfl ?_
  refine gf_bipush C dd_Fi_init_30 (by decide +kernel) ?_
  refine gf_callI (st := [.ref (gf_ad E 6), .int (gf_i 2), .ref (gf_ad E 1)]) (As := [.int (gf_i 40)]) C hO wk_Fi_15 (ct_Ro_init_6 (gf_xl X) E (gf_ups ρ [(1, 1, 4), (4, 0, 5), (1, 0, 2), (2, 0, 3), (0, 0, 1)]) (gf_ups μ [(4, 1, (-1)), (2, 1, (-1))]) (gf_z_ups hμ rfl) (gf_n_ups hρ rfl)) rfl ⟨rfl, rfl⟩ ⟨Nat.le_of_ble_eq_true rfl, Nat.le_of_ble_eq_true rfl⟩ (Nat.le_of_ble_eq_true rfl) rfl dd_Fi_init_32 (fun m32 hp32 => ?_)
  refine gf_phU (a' := 7) (b' := 132) (L' := [(6, 0, 7), (1, 1, 4), (4, 0, 5), (1, 0, 2), (2, 0, 3), (0, 0, 1)]) rfl rfl rfl ?_
  refine gf_pm (μ := gf_ups μ [(6, 1, (-1)), (4, 1, (-1)), (2, 1, (-1))]) (hp32.trans (gf_ups_ups _ _ _)) ?_
  refine gf_aast C rfl gf_cl3 dd_Fi_init_35 (show gf_is 8 1 4 3 6 by decide) (show gf_is 8 6 0 3 2 by decide) (by decide) ?_
  refine gf_ph (φ' := (7, 132, 8, gf_ups ρ [(1, 2, 6), (6, 0, 7), (1, 1, 4), (4, 0, 5), (1, 0, 2), (2, 0, 3), (0, 0, 1)])) rfl ?_
  refine gf_iinc (q := 0) (v := 3) (lv' := [(1, .int (gf_i 3)), (0, .ref (gf_ad E 0))]) C dd_Fi_init_36 rfl (show (3 : Int) = 2 + 1 by decide) (by decide) rfl ?_
  refine gf_goto 15 C dd_Fi_init_39 (by decide) ?_
  refine gf_iload_n C dd_Fi_init_15 0 rfl ?_
  refine gf_bipush C dd_Fi_init_16 (by decide +kernel) ?_
  refine gf_icmp_ge 42 C dd_Fi_init_18 (by decide) (by decide) (by decide) (fun h18 => absurd h18 (by decide)) (fun h18 => ?_)
  refine gf_aload_n C dd_Fi_init_21 1 rfl ?_
  refine gf_getA (r := 1) C gf_cl6 fl_Fi_11 dd_Fi_init_22 rfl (show gf_is 8 0 0 6 17 by decide) rfl (by decide) ?_
  refine gf_iload_n C dd_Fi_init_25 0 rfl ?_
  refine gf_newO (k := 8) rfl C gf_cl3 gf_ty3 (by decide +kernel) ⟨gf_mem 91 (by decide +kernel) (by decide +kernel), gf_mem 93 (by decide +kernel) (by decide +kernel), gf_mem 73 (by decide +kernel) (by decide +kernel)⟩ dd_Fi_init_26 (by decide) (Nat.le_of_ble_eq_true rfl) (fun j => (gf_ups_new rfl).trans (hμ _ _ (by decide))) (fun j => (gf_ups_new rfl).trans (hρ _ _ (by decide))) ⟨Nat.le_of_ble_eq_true rfl, Nat.le_of_ble_eq_true rfl⟩ ?_
  refine gf_ph (φ' := (8, 134, 9, gf_ups ρ [(1, 2, 6), (6, 0, 7), (1, 1, 4), (4, 0, 5), (1, 0, 2), (2, 0, 3), (0, 0, 1)])) rfl ?_
  refine gf_dup C dd_Fi_init_29 rfl ?_
  refine gf_bipush C dd_Fi_init_30 (by decide +kernel) ?_
  refine gf_callI (st := [.ref (gf_ad E 8), .int (gf_i 3), .ref (gf_ad E 1)]) (As := [.int (gf_i 40)]) C hO wk_Fi_15 (ct_Ro_init_8 (gf_xl X) E (gf_ups ρ [(1, 2, 6), (6, 0, 7), (1, 1, 4), (4, 0, 5), (1, 0, 2), (2, 0, 3), (0, 0, 1)]) (gf_ups μ [(6, 1, (-1)), (4, 1, (-1)), (2, 1, (-1))]) (gf_z_ups hμ rfl) (gf_n_ups hρ rfl)) rfl ⟨rfl, rfl⟩ ⟨Nat.le_of_ble_eq_true rfl, Nat.le_of_ble_eq_true rfl⟩ (Nat.le_of_ble_eq_true rfl) rfl dd_Fi_init_32 (fun m32 hp32 => ?_)
  refine gf_phU (a' := 9) (b' := 174) (L' := [(8, 0, 9), (1, 2, 6), (6, 0, 7), (1, 1, 4), (4, 0, 5), (1, 0, 2), (2, 0, 3), (0, 0, 1)]) rfl rfl rfl ?_
  refine gf_pm (μ := gf_ups μ [(8, 1, (-1)), (6, 1, (-1)), (4, 1, (-1)), (2, 1, (-1))]) (hp32.trans (gf_ups_ups _ _ _)) ?_
  refine gf_aast C rfl gf_cl3 dd_Fi_init_35 (show gf_is 10 1 4 3 6 by decide) (show gf_is 10 8 0 3 2 by decide) (by decide) ?_
  refine gf_ph (φ' := (9, 174, 10, gf_ups ρ [(1, 3, 8), (8, 0, 9), (1, 2, 6), (6, 0, 7), (1, 1, 4), (4, 0, 5), (1, 0, 2), (2, 0, 3), (0, 0, 1)])) rfl ?_
  refine gf_iinc (q := 0) (v := 4) (lv' := [(1, .int (gf_i 4)), (0, .ref (gf_ad E 0))]) C dd_Fi_init_36 rfl (show (4 : Int) = 3 + 1 by decide) (by decide) rfl ?_
  refine gf_goto 15 C dd_Fi_init_39 (by decide) ?_
  refine gf_iload_n C dd_Fi_init_15 0 rfl ?_
  refine gf_bipush C dd_Fi_init_16 (by decide +kernel) ?_
  refine gf_icmp_ge 42 C dd_Fi_init_18 (by decide) (by decide) (by decide) (fun h18 => absurd h18 (by decide)) (fun h18 => ?_)
  refine gf_aload_n C dd_Fi_init_21 1 rfl ?_
  refine gf_getA (r := 1) C gf_cl6 fl_Fi_11 dd_Fi_init_22 rfl (show gf_is 10 0 0 6 17 by decide) rfl (by decide) ?_
  refine gf_iload_n C dd_Fi_init_25 0 rfl ?_
  refine gf_newO (k := 10) rfl C gf_cl3 gf_ty3 (by decide +kernel) ⟨gf_mem 91 (by decide +kernel) (by decide +kernel), gf_mem 93 (by decide +kernel) (by decide +kernel), gf_mem 73 (by decide +kernel) (by decide +kernel)⟩ dd_Fi_init_26 (by decide) (Nat.le_of_ble_eq_true rfl) (fun j => (gf_ups_new rfl).trans (hμ _ _ (by decide))) (fun j => (gf_ups_new rfl).trans (hρ _ _ (by decide))) ⟨Nat.le_of_ble_eq_true rfl, Nat.le_of_ble_eq_true rfl⟩ ?_
  refine gf_ph (φ' := (10, 176, 11, gf_ups ρ [(1, 3, 8), (8, 0, 9), (1, 2, 6), (6, 0, 7), (1, 1, 4), (4, 0, 5), (1, 0, 2), (2, 0, 3), (0, 0, 1)])) rfl ?_
  refine gf_dup C dd_Fi_init_29 rfl ?_
  refine gf_bipush C dd_Fi_init_30 (by decide +kernel) ?_
  refine gf_callI (st := [.ref (gf_ad E 10), .int (gf_i 4), .ref (gf_ad E 1)]) (As := [.int (gf_i 40)]) C hO wk_Fi_15 (ct_Ro_init_10 (gf_xl X) E (gf_ups ρ [(1, 3, 8), (8, 0, 9), (1, 2, 6), (6, 0, 7), (1, 1, 4), (4, 0, 5), (1, 0, 2), (2, 0, 3), (0, 0, 1)]) (gf_ups μ [(8, 1, (-1)), (6, 1, (-1)), (4, 1, (-1)), (2, 1, (-1))]) (gf_z_ups hμ rfl) (gf_n_ups hρ rfl)) rfl ⟨rfl, rfl⟩ ⟨Nat.le_of_ble_eq_true rfl, Nat.le_of_ble_eq_true rfl⟩ (Nat.le_of_ble_eq_true rfl) rfl dd_Fi_init_32 (fun m32 hp32 => ?_)
  refine gf_phU (a' := 11) (b' := 216) (L' := [(10, 0, 11), (1, 3, 8), (8, 0, 9), (1, 2, 6), (6, 0, 7), (1, 1, 4), (4, 0, 5), (1, 0, 2), (2, 0, 3), (0, 0, 1)]) rfl rfl rfl ?_
  refine gf_pm (μ := gf_ups μ [(10, 1, (-1)), (8, 1, (-1)), (6, 1, (-1)), (4, 1, (-1)), (2, 1, (-1))]) (hp32.trans (gf_ups_ups _ _ _)) ?_
  refine gf_aast C rfl gf_cl3 dd_Fi_init_35 (show gf_is 12 1 4 3 6 by decide) (show gf_is 12 10 0 3 2 by decide) (by decide) ?_
  refine gf_ph (φ' := (11, 216, 12, gf_ups ρ [(1, 4, 10), (10, 0, 11), (1, 3, 8), (8, 0, 9), (1, 2, 6), (6, 0, 7), (1, 1, 4), (4, 0, 5), (1, 0, 2), (2, 0, 3), (0, 0, 1)])) rfl ?_
  refine gf_iinc (q := 0) (v := 5) (lv' := [(1, .int (gf_i 5)), (0, .ref (gf_ad E 0))]) C dd_Fi_init_36 rfl (show (5 : Int) = 4 + 1 by decide) (by decide) rfl ?_
  refine gf_goto 15 C dd_Fi_init_39 (by decide) ?_
  refine gf_iload_n C dd_Fi_init_15 0 rfl ?_
  refine gf_bipush C dd_Fi_init_16 (by decide +kernel) ?_
  refine gf_icmp_ge 42 C dd_Fi_init_18 (by decide) (by decide) (by decide) (fun h18 => absurd h18 (by decide)) (fun h18 => ?_)
  refine gf_aload_n C dd_Fi_init_21 1 rfl ?_
  refine gf_getA (r := 1) C gf_cl6 fl_Fi_11 dd_Fi_init_22 rfl (show gf_is 12 0 0 6 17 by decide) rfl (by decide) ?_
  refine gf_iload_n C dd_Fi_init_25 0 rfl ?_
  refine gf_newO (k := 12) rfl C gf_cl3 gf_ty3 (by decide +kernel) ⟨gf_mem 91 (by decide +kernel) (by decide +kernel), gf_mem 93 (by decide +kernel) (by decide +kernel), gf_mem 73 (by decide +kernel) (by decide +kernel)⟩ dd_Fi_init_26 (by decide) (Nat.le_of_ble_eq_true rfl) (fun j => (gf_ups_new rfl).trans (hμ _ _ (by decide))) (fun j => (gf_ups_new rfl).trans (hρ _ _ (by decide))) ⟨Nat.le_of_ble_eq_true rfl, Nat.le_of_ble_eq_true rfl⟩ ?_
  refine gf_ph (φ' := (12, 218, 13, gf_ups ρ [(1, 4, 10), (10, 0, 11), (1, 3, 8), (8, 0, 9), (1, 2, 6), (6, 0, 7), (1, 1, 4), (4, 0, 5), (1, 0, 2), (2, 0, 3), (0, 0, 1)])) rfl ?_
  refine gf_dup C dd_Fi_init_29 rfl ?_
  refine gf_bipush C dd_Fi_init_30 (by decide +kernel) ?_
  refine gf_callI (st := [.ref (gf_ad E 12), .int (gf_i 5), .ref (gf_ad E 1)]) (As := [.int (gf_i 40)]) C hO wk_Fi_15 (ct_Ro_init_12 (gf_xl X) E (gf_ups ρ [(1, 4, 10), (10, 0, 11), (1, 3, 8), (8, 0, 9), (1, 2, 6), (6, 0, 7), (1, 1, 4), (4, 0, 5), (1, 0, 2), (2, 0, 3), (0, 0, 1)]) (gf_ups μ [(10, 1, (-1)), (8, 1, (-1)), (6, 1, (-1)), (4, 1, (-1)), (2, 1, (-1))]) (gf_z_ups hμ rfl) (gf_n_ups hρ rfl)) rfl ⟨rfl, rfl⟩ ⟨Nat.le_of_ble_eq_true rfl, Nat.le_of_ble_eq_true rfl⟩ (Nat.le_of_ble_eq_true rfl) rfl dd_Fi_init_32 (fun m32 hp32 => ?_)
  refine gf_phU (a' := 13) (b' := 258) (L' := [(12, 0, 13), (1, 4, 10), (10, 0, 11), (1, 3, 8), (8, 0, 9), (1, 2, 6), (6, 0, 7), (1, 1, 4), (4, 0, 5), (1, 0, 2), (2, 0, 3), (0, 0, 1)]) rfl rfl rfl ?_
  refine gf_pm (μ := gf_ups μ [(12, 1, (-1)), (10, 1, (-1)), (8, 1, (-1)), (6, 1, (-1)), (4, 1, (-1)), (2, 1, (-1))]) (hp32.trans (gf_ups_ups _ _ _)) ?_
  refine gf_aast C rfl gf_cl3 dd_Fi_init_35 (show gf_is 14 1 4 3 6 by decide) (show gf_is 14 12 0 3 2 by decide) (by decide) ?_
  refine gf_ph (φ' := (13, 258, 14, gf_ups ρ [(1, 5, 12), (12, 0, 13), (1, 4, 10), (10, 0, 11), (1, 3, 8), (8, 0, 9), (1, 2, 6), (6, 0, 7), (1, 1, 4), (4, 0, 5), (1, 0, 2), (2, 0, 3), (0, 0, 1)])) rfl ?_
  refine gf_iinc (q := 0) (v := 6) (lv' := [(1, .int (gf_i 6)), (0, .ref (gf_ad E 0))]) C dd_Fi_init_36 rfl (show (6 : Int) = 5 + 1 by decide) (by decide) rfl ?_
  refine gf_goto 15 C dd_Fi_init_39 (by decide) ?_
  refine gf_iload_n C dd_Fi_init_15 0 rfl ?_
  refine gf_bipush C dd_Fi_init_16 (by decide +kernel) ?_
  refine gf_icmp_ge 42 C dd_Fi_init_18 (by decide) (by decide) (by decide) (fun h18 => ?_) (fun h18 => absurd (by decide) h18)
  refine gf_aload_n C dd_Fi_init_42 1 rfl ?_
  refine gf_iconst C dd_Fi_init_43 ?_
  refine gf_newQk (N := 4) (k := 14) (c := 3) rfl C hO.1 (gf_mem 91 (by decide +kernel) (by decide +kernel)) rfl (by decide) dd_Fi_init_44 (by decide) (by decide) (by decide) (Nat.le_of_ble_eq_true rfl) (fun j => (gf_ups_new rfl).trans (hρ _ _ (by decide))) ⟨Nat.le_of_ble_eq_true rfl, Nat.le_of_ble_eq_true rfl⟩ ?_
  refine gf_ph (φ' := (14, 262, 15, gf_ups ρ [(1, 5, 12), (12, 0, 13), (1, 4, 10), (10, 0, 11), (1, 3, 8), (8, 0, 9), (1, 2, 6), (6, 0, 7), (1, 1, 4), (4, 0, 5), (1, 0, 2), (2, 0, 3), (0, 0, 1)])) rfl ?_
  refine gf_putF (z := 1) (ty := .array (.object "GuardFigures$Row")) C hname gf_cl6 fl_Fi_18 dd_Fi_init_47 rfl rfl rfl rfl (by decide +kernel) (fun _ => ⟨rfl, rfl⟩) (show gf_is 15 0 0 6 17 by decide) (by decide) ?_
  refine gf_ph (φ' := (14, 262, 15, gf_ups ρ [(0, 1, 14), (1, 5, 12), (12, 0, 13), (1, 4, 10), (10, 0, 11), (1, 3, 8), (8, 0, 9), (1, 2, 6), (6, 0, 7), (1, 1, 4), (4, 0, 5), (1, 0, 2), (2, 0, 3), (0, 0, 1)])) rfl ?_
  refine gf_iconst C dd_Fi_init_50 ?_
  refine gf_istore_n (lv' := [(1, .int (gf_i 0)), (0, .ref (gf_ad E 0))]) C dd_Fi_init_51 (by decide) rfl ?_
  refine gf_iload_n C dd_Fi_init_52 0 rfl ?_
  refine gf_iconst C dd_Fi_init_53 ?_
  refine gf_icmp_ge 78 C dd_Fi_init_54 (by decide) (by decide) (by decide) (fun h54 => absurd h54 (by decide)) (fun h54 => ?_)
  refine gf_aload_n C dd_Fi_init_57 1 rfl ?_
  refine gf_getA (r := 14) C gf_cl6 fl_Fi_18 dd_Fi_init_58 rfl (show gf_is 15 0 0 6 17 by decide) rfl (by decide) ?_
  refine gf_iload_n C dd_Fi_init_61 0 rfl ?_
  refine gf_newO (k := 15) rfl C gf_cl3 gf_ty3 (by decide +kernel) ⟨gf_mem 91 (by decide +kernel) (by decide +kernel), gf_mem 93 (by decide +kernel) (by decide +kernel), gf_mem 73 (by decide +kernel) (by decide +kernel)⟩ dd_Fi_init_62 (by decide) (Nat.le_of_ble_eq_true rfl) (fun j => (gf_ups_new rfl).trans (hμ _ _ (by decide))) (fun j => (gf_ups_new rfl).trans (hρ _ _ (by decide))) ⟨Nat.le_of_ble_eq_true rfl, Nat.le_of_ble_eq_true rfl⟩ ?_
  refine gf_ph (φ' := (15, 264, 16, gf_ups ρ [(0, 1, 14), (1, 5, 12), (12, 0, 13), (1, 4, 10), (10, 0, 11), (1, 3, 8), (8, 0, 9), (1, 2, 6), (6, 0, 7), (1, 1, 4), (4, 0, 5), (1, 0, 2), (2, 0, 3), (0, 0, 1)])) rfl ?_
  refine gf_dup C dd_Fi_init_65 rfl ?_
  refine gf_bipush C dd_Fi_init_66 (by decide +kernel) ?_
  refine gf_callI (st := [.ref (gf_ad E 15), .int (gf_i 0), .ref (gf_ad E 14)]) (As := [.int (gf_i 60)]) C hO wk_Fi_15 (ct_Ro_init_15 (gf_xl X) E (gf_ups ρ [(0, 1, 14), (1, 5, 12), (12, 0, 13), (1, 4, 10), (10, 0, 11), (1, 3, 8), (8, 0, 9), (1, 2, 6), (6, 0, 7), (1, 1, 4), (4, 0, 5), (1, 0, 2), (2, 0, 3), (0, 0, 1)]) (gf_ups μ [(12, 1, (-1)), (10, 1, (-1)), (8, 1, (-1)), (6, 1, (-1)), (4, 1, (-1)), (2, 1, (-1))]) (gf_z_ups hμ rfl) (gf_n_ups hρ rfl)) rfl ⟨rfl, rfl⟩ ⟨Nat.le_of_ble_eq_true rfl, Nat.le_of_ble_eq_true rfl⟩ (Nat.le_of_ble_eq_true rfl) rfl dd_Fi_init_68 (fun m68 hp68 => ?_)
  refine gf_phU (a' := 16) (b' := 324) (L' := [(15, 0, 16), (0, 1, 14), (1, 5, 12), (12, 0, 13), (1, 4, 10), (10, 0, 11), (1, 3, 8), (8, 0, 9), (1, 2, 6), (6, 0, 7), (1, 1, 4), (4, 0, 5), (1, 0, 2), (2, 0, 3), (0, 0, 1)]) rfl rfl rfl ?_
  refine gf_pm (μ := gf_ups μ [(15, 1, (-1)), (12, 1, (-1)), (10, 1, (-1)), (8, 1, (-1)), (6, 1, (-1)), (4, 1, (-1)), (2, 1, (-1))]) (hp68.trans (gf_ups_ups _ _ _)) ?_
  refine gf_aast C rfl gf_cl3 dd_Fi_init_71 (show gf_is 17 14 4 3 4 by decide) (show gf_is 17 15 0 3 2 by decide) (by decide) ?_
  refine gf_ph (φ' := (16, 324, 17, gf_ups ρ [(14, 0, 15), (15, 0, 16), (0, 1, 14), (1, 5, 12), (12, 0, 13), (1, 4, 10), (10, 0, 11), (1, 3, 8), (8, 0, 9), (1, 2, 6), (6, 0, 7), (1, 1, 4), (4, 0, 5), (1, 0, 2), (2, 0, 3), (0, 0, 1)])) rfl ?_
  refine gf_iinc (q := 0) (v := 1) (lv' := [(1, .int (gf_i 1)), (0, .ref (gf_ad E 0))]) C dd_Fi_init_72 rfl (show (1 : Int) = 0 + 1 by decide) (by decide) rfl ?_
  refine gf_goto 52 C dd_Fi_init_75 (by decide) ?_
  refine gf_iload_n C dd_Fi_init_52 0 rfl ?_
  refine gf_iconst C dd_Fi_init_53 ?_
  refine gf_icmp_ge 78 C dd_Fi_init_54 (by decide) (by decide) (by decide) (fun h54 => absurd h54 (by decide)) (fun h54 => ?_)
  refine gf_aload_n C dd_Fi_init_57 1 rfl ?_
  refine gf_getA (r := 14) C gf_cl6 fl_Fi_18 dd_Fi_init_58 rfl (show gf_is 17 0 0 6 17 by decide) rfl (by decide) ?_
  refine gf_iload_n C dd_Fi_init_61 0 rfl ?_
  refine gf_newO (k := 17) rfl C gf_cl3 gf_ty3 (by decide +kernel) ⟨gf_mem 91 (by decide +kernel) (by decide +kernel), gf_mem 93 (by decide +kernel) (by decide +kernel), gf_mem 73 (by decide +kernel) (by decide +kernel)⟩ dd_Fi_init_62 (by decide) (Nat.le_of_ble_eq_true rfl) (fun j => (gf_ups_new rfl).trans (hμ _ _ (by decide))) (fun j => (gf_ups_new rfl).trans (hρ _ _ (by decide))) ⟨Nat.le_of_ble_eq_true rfl, Nat.le_of_ble_eq_true rfl⟩ ?_
  refine gf_ph (φ' := (17, 326, 18, gf_ups ρ [(14, 0, 15), (15, 0, 16), (0, 1, 14), (1, 5, 12), (12, 0, 13), (1, 4, 10), (10, 0, 11), (1, 3, 8), (8, 0, 9), (1, 2, 6), (6, 0, 7), (1, 1, 4), (4, 0, 5), (1, 0, 2), (2, 0, 3), (0, 0, 1)])) rfl ?_
  refine gf_dup C dd_Fi_init_65 rfl ?_
  refine gf_bipush C dd_Fi_init_66 (by decide +kernel) ?_
  refine gf_callI (st := [.ref (gf_ad E 17), .int (gf_i 1), .ref (gf_ad E 14)]) (As := [.int (gf_i 60)]) C hO wk_Fi_15 (ct_Ro_init_17 (gf_xl X) E (gf_ups ρ [(14, 0, 15), (15, 0, 16), (0, 1, 14), (1, 5, 12), (12, 0, 13), (1, 4, 10), (10, 0, 11), (1, 3, 8), (8, 0, 9), (1, 2, 6), (6, 0, 7), (1, 1, 4), (4, 0, 5), (1, 0, 2), (2, 0, 3), (0, 0, 1)]) (gf_ups μ [(15, 1, (-1)), (12, 1, (-1)), (10, 1, (-1)), (8, 1, (-1)), (6, 1, (-1)), (4, 1, (-1)), (2, 1, (-1))]) (gf_z_ups hμ rfl) (gf_n_ups hρ rfl)) rfl ⟨rfl, rfl⟩ ⟨Nat.le_of_ble_eq_true rfl, Nat.le_of_ble_eq_true rfl⟩ (Nat.le_of_ble_eq_true rfl) rfl dd_Fi_init_68 (fun m68 hp68 => ?_)
  refine gf_phU (a' := 18) (b' := 386) (L' := [(17, 0, 18), (14, 0, 15), (15, 0, 16), (0, 1, 14), (1, 5, 12), (12, 0, 13), (1, 4, 10), (10, 0, 11), (1, 3, 8), (8, 0, 9), (1, 2, 6), (6, 0, 7), (1, 1, 4), (4, 0, 5), (1, 0, 2), (2, 0, 3), (0, 0, 1)]) rfl rfl rfl ?_
  refine gf_pm (μ := gf_ups μ [(17, 1, (-1)), (15, 1, (-1)), (12, 1, (-1)), (10, 1, (-1)), (8, 1, (-1)), (6, 1, (-1)), (4, 1, (-1)), (2, 1, (-1))]) (hp68.trans (gf_ups_ups _ _ _)) ?_
  refine gf_aast C rfl gf_cl3 dd_Fi_init_71 (show gf_is 19 14 4 3 4 by decide) (show gf_is 19 17 0 3 2 by decide) (by decide) ?_
  refine gf_ph (φ' := (18, 386, 19, gf_ups ρ [(14, 1, 17), (17, 0, 18), (14, 0, 15), (15, 0, 16), (0, 1, 14), (1, 5, 12), (12, 0, 13), (1, 4, 10), (10, 0, 11), (1, 3, 8), (8, 0, 9), (1, 2, 6), (6, 0, 7), (1, 1, 4), (4, 0, 5), (1, 0, 2), (2, 0, 3), (0, 0, 1)])) rfl ?_
  refine gf_iinc (q := 0) (v := 2) (lv' := [(1, .int (gf_i 2)), (0, .ref (gf_ad E 0))]) C dd_Fi_init_72 rfl (show (2 : Int) = 1 + 1 by decide) (by decide) rfl ?_
  refine gf_goto 52 C dd_Fi_init_75 (by decide) ?_
  refine gf_iload_n C dd_Fi_init_52 0 rfl ?_
  refine gf_iconst C dd_Fi_init_53 ?_
  refine gf_icmp_ge 78 C dd_Fi_init_54 (by decide) (by decide) (by decide) (fun h54 => absurd h54 (by decide)) (fun h54 => ?_)
  refine gf_aload_n C dd_Fi_init_57 1 rfl ?_
  refine gf_getA (r := 14) C gf_cl6 fl_Fi_18 dd_Fi_init_58 rfl (show gf_is 19 0 0 6 17 by decide) rfl (by decide) ?_
  refine gf_iload_n C dd_Fi_init_61 0 rfl ?_
  refine gf_newO (k := 19) rfl C gf_cl3 gf_ty3 (by decide +kernel) ⟨gf_mem 91 (by decide +kernel) (by decide +kernel), gf_mem 93 (by decide +kernel) (by decide +kernel), gf_mem 73 (by decide +kernel) (by decide +kernel)⟩ dd_Fi_init_62 (by decide) (Nat.le_of_ble_eq_true rfl) (fun j => (gf_ups_new rfl).trans (hμ _ _ (by decide))) (fun j => (gf_ups_new rfl).trans (hρ _ _ (by decide))) ⟨Nat.le_of_ble_eq_true rfl, Nat.le_of_ble_eq_true rfl⟩ ?_
  refine gf_ph (φ' := (19, 388, 20, gf_ups ρ [(14, 1, 17), (17, 0, 18), (14, 0, 15), (15, 0, 16), (0, 1, 14), (1, 5, 12), (12, 0, 13), (1, 4, 10), (10, 0, 11), (1, 3, 8), (8, 0, 9), (1, 2, 6), (6, 0, 7), (1, 1, 4), (4, 0, 5), (1, 0, 2), (2, 0, 3), (0, 0, 1)])) rfl ?_
  refine gf_dup C dd_Fi_init_65 rfl ?_
  refine gf_bipush C dd_Fi_init_66 (by decide +kernel) ?_
  refine gf_callI (st := [.ref (gf_ad E 19), .int (gf_i 2), .ref (gf_ad E 14)]) (As := [.int (gf_i 60)]) C hO wk_Fi_15 (ct_Ro_init_19 (gf_xl X) E (gf_ups ρ [(14, 1, 17), (17, 0, 18), (14, 0, 15), (15, 0, 16), (0, 1, 14), (1, 5, 12), (12, 0, 13), (1, 4, 10), (10, 0, 11), (1, 3, 8), (8, 0, 9), (1, 2, 6), (6, 0, 7), (1, 1, 4), (4, 0, 5), (1, 0, 2), (2, 0, 3), (0, 0, 1)]) (gf_ups μ [(17, 1, (-1)), (15, 1, (-1)), (12, 1, (-1)), (10, 1, (-1)), (8, 1, (-1)), (6, 1, (-1)), (4, 1, (-1)), (2, 1, (-1))]) (gf_z_ups hμ rfl) (gf_n_ups hρ rfl)) rfl ⟨rfl, rfl⟩ ⟨Nat.le_of_ble_eq_true rfl, Nat.le_of_ble_eq_true rfl⟩ (Nat.le_of_ble_eq_true rfl) rfl dd_Fi_init_68 (fun m68 hp68 => ?_)
  refine gf_phU (a' := 20) (b' := 448) (L' := [(19, 0, 20), (14, 1, 17), (17, 0, 18), (14, 0, 15), (15, 0, 16), (0, 1, 14), (1, 5, 12), (12, 0, 13), (1, 4, 10), (10, 0, 11), (1, 3, 8), (8, 0, 9), (1, 2, 6), (6, 0, 7), (1, 1, 4), (4, 0, 5), (1, 0, 2), (2, 0, 3), (0, 0, 1)]) rfl rfl rfl ?_
  refine gf_pm (μ := gf_ups μ [(19, 1, (-1)), (17, 1, (-1)), (15, 1, (-1)), (12, 1, (-1)), (10, 1, (-1)), (8, 1, (-1)), (6, 1, (-1)), (4, 1, (-1)), (2, 1, (-1))]) (hp68.trans (gf_ups_ups _ _ _)) ?_
  refine gf_aast C rfl gf_cl3 dd_Fi_init_71 (show gf_is 21 14 4 3 4 by decide) (show gf_is 21 19 0 3 2 by decide) (by decide) ?_
  refine gf_ph (φ' := (20, 448, 21, gf_ups ρ [(14, 2, 19), (19, 0, 20), (14, 1, 17), (17, 0, 18), (14, 0, 15), (15, 0, 16), (0, 1, 14), (1, 5, 12), (12, 0, 13), (1, 4, 10), (10, 0, 11), (1, 3, 8), (8, 0, 9), (1, 2, 6), (6, 0, 7), (1, 1, 4), (4, 0, 5), (1, 0, 2), (2, 0, 3), (0, 0, 1)])) rfl ?_
  refine gf_iinc (q := 0) (v := 3) (lv' := [(1, .int (gf_i 3)), (0, .ref (gf_ad E 0))]) C dd_Fi_init_72 rfl (show (3 : Int) = 2 + 1 by decide) (by decide) rfl ?_
  refine gf_goto 52 C dd_Fi_init_75 (by decide) ?_
  refine gf_iload_n C dd_Fi_init_52 0 rfl ?_
  refine gf_iconst C dd_Fi_init_53 ?_
  refine gf_icmp_ge 78 C dd_Fi_init_54 (by decide) (by decide) (by decide) (fun h54 => absurd h54 (by decide)) (fun h54 => ?_)
  refine gf_aload_n C dd_Fi_init_57 1 rfl ?_
  refine gf_getA (r := 14) C gf_cl6 fl_Fi_18 dd_Fi_init_58 rfl (show gf_is 21 0 0 6 17 by decide) rfl (by decide) ?_
  refine gf_iload_n C dd_Fi_init_61 0 rfl ?_
  refine gf_newO (k := 21) rfl C gf_cl3 gf_ty3 (by decide +kernel) ⟨gf_mem 91 (by decide +kernel) (by decide +kernel), gf_mem 93 (by decide +kernel) (by decide +kernel), gf_mem 73 (by decide +kernel) (by decide +kernel)⟩ dd_Fi_init_62 (by decide) (Nat.le_of_ble_eq_true rfl) (fun j => (gf_ups_new rfl).trans (hμ _ _ (by decide))) (fun j => (gf_ups_new rfl).trans (hρ _ _ (by decide))) ⟨Nat.le_of_ble_eq_true rfl, Nat.le_of_ble_eq_true rfl⟩ ?_
  refine gf_ph (φ' := (21, 450, 22, gf_ups ρ [(14, 2, 19), (19, 0, 20), (14, 1, 17), (17, 0, 18), (14, 0, 15), (15, 0, 16), (0, 1, 14), (1, 5, 12), (12, 0, 13), (1, 4, 10), (10, 0, 11), (1, 3, 8), (8, 0, 9), (1, 2, 6), (6, 0, 7), (1, 1, 4), (4, 0, 5), (1, 0, 2), (2, 0, 3), (0, 0, 1)])) rfl ?_
  refine gf_dup C dd_Fi_init_65 rfl ?_
  refine gf_bipush C dd_Fi_init_66 (by decide +kernel) ?_
  refine gf_callI (st := [.ref (gf_ad E 21), .int (gf_i 3), .ref (gf_ad E 14)]) (As := [.int (gf_i 60)]) C hO wk_Fi_15 (ct_Ro_init_21 (gf_xl X) E (gf_ups ρ [(14, 2, 19), (19, 0, 20), (14, 1, 17), (17, 0, 18), (14, 0, 15), (15, 0, 16), (0, 1, 14), (1, 5, 12), (12, 0, 13), (1, 4, 10), (10, 0, 11), (1, 3, 8), (8, 0, 9), (1, 2, 6), (6, 0, 7), (1, 1, 4), (4, 0, 5), (1, 0, 2), (2, 0, 3), (0, 0, 1)]) (gf_ups μ [(19, 1, (-1)), (17, 1, (-1)), (15, 1, (-1)), (12, 1, (-1)), (10, 1, (-1)), (8, 1, (-1)), (6, 1, (-1)), (4, 1, (-1)), (2, 1, (-1))]) (gf_z_ups hμ rfl) (gf_n_ups hρ rfl)) rfl ⟨rfl, rfl⟩ ⟨Nat.le_of_ble_eq_true rfl, Nat.le_of_ble_eq_true rfl⟩ (Nat.le_of_ble_eq_true rfl) rfl dd_Fi_init_68 (fun m68 hp68 => ?_)
  refine gf_phU (a' := 22) (b' := 510) (L' := [(21, 0, 22), (14, 2, 19), (19, 0, 20), (14, 1, 17), (17, 0, 18), (14, 0, 15), (15, 0, 16), (0, 1, 14), (1, 5, 12), (12, 0, 13), (1, 4, 10), (10, 0, 11), (1, 3, 8), (8, 0, 9), (1, 2, 6), (6, 0, 7), (1, 1, 4), (4, 0, 5), (1, 0, 2), (2, 0, 3), (0, 0, 1)]) rfl rfl rfl ?_
  refine gf_pm (μ := gf_ups μ [(21, 1, (-1)), (19, 1, (-1)), (17, 1, (-1)), (15, 1, (-1)), (12, 1, (-1)), (10, 1, (-1)), (8, 1, (-1)), (6, 1, (-1)), (4, 1, (-1)), (2, 1, (-1))]) (hp68.trans (gf_ups_ups _ _ _)) ?_
  refine gf_aast C rfl gf_cl3 dd_Fi_init_71 (show gf_is 23 14 4 3 4 by decide) (show gf_is 23 21 0 3 2 by decide) (by decide) ?_
  refine gf_ph (φ' := (22, 510, 23, gf_ups ρ [(14, 3, 21), (21, 0, 22), (14, 2, 19), (19, 0, 20), (14, 1, 17), (17, 0, 18), (14, 0, 15), (15, 0, 16), (0, 1, 14), (1, 5, 12), (12, 0, 13), (1, 4, 10), (10, 0, 11), (1, 3, 8), (8, 0, 9), (1, 2, 6), (6, 0, 7), (1, 1, 4), (4, 0, 5), (1, 0, 2), (2, 0, 3), (0, 0, 1)])) rfl ?_
  refine gf_iinc (q := 0) (v := 4) (lv' := [(1, .int (gf_i 4)), (0, .ref (gf_ad E 0))]) C dd_Fi_init_72 rfl (show (4 : Int) = 3 + 1 by decide) (by decide) rfl ?_
  refine gf_goto 52 C dd_Fi_init_75 (by decide) ?_
  refine gf_iload_n C dd_Fi_init_52 0 rfl ?_
  refine gf_iconst C dd_Fi_init_53 ?_
  refine gf_icmp_ge 78 C dd_Fi_init_54 (by decide) (by decide) (by decide) (fun h54 => ?_) (fun h54 => absurd (by decide) h54)
  refine gf_aload_n C dd_Fi_init_78 1 rfl ?_
  refine gf_bipush C dd_Fi_init_79 (by decide +kernel) ?_
  refine gf_newQk (N := 7) (k := 23) (c := 4) rfl C hO.2.1 (gf_mem 112 (by decide +kernel) (by decide +kernel)) rfl (by decide) dd_Fi_init_81 (by decide) (by decide) (by decide) (Nat.le_of_ble_eq_true rfl) (fun j => (gf_ups_new rfl).trans (hρ _ _ (by decide))) ⟨Nat.le_of_ble_eq_true rfl, Nat.le_of_ble_eq_true rfl⟩ ?_
  refine gf_ph (φ' := (23, 517, 24, gf_ups ρ [(14, 3, 21), (21, 0, 22), (14, 2, 19), (19, 0, 20), (14, 1, 17), (17, 0, 18), (14, 0, 15), (15, 0, 16), (0, 1, 14), (1, 5, 12), (12, 0, 13), (1, 4, 10), (10, 0, 11), (1, 3, 8), (8, 0, 9), (1, 2, 6), (6, 0, 7), (1, 1, 4), (4, 0, 5), (1, 0, 2), (2, 0, 3), (0, 0, 1)])) rfl ?_
  refine gf_putF (z := 2) (ty := .array (.object "GuardFigures$Guard")) C hname gf_cl6 fl_Fi_23 dd_Fi_init_84 rfl rfl rfl rfl (by decide +kernel) (fun _ => ⟨rfl, rfl⟩) (show gf_is 24 0 0 6 17 by decide) (by decide) ?_
  refine gf_ph (φ' := (23, 517, 24, gf_ups ρ [(0, 2, 23), (14, 3, 21), (21, 0, 22), (14, 2, 19), (19, 0, 20), (14, 1, 17), (17, 0, 18), (14, 0, 15), (15, 0, 16), (0, 1, 14), (1, 5, 12), (12, 0, 13), (1, 4, 10), (10, 0, 11), (1, 3, 8), (8, 0, 9), (1, 2, 6), (6, 0, 7), (1, 1, 4), (4, 0, 5), (1, 0, 2), (2, 0, 3), (0, 0, 1)])) rfl ?_
  refine gf_iconst C dd_Fi_init_87 ?_
  refine gf_istore_n (lv' := [(1, .int (gf_i 0)), (0, .ref (gf_ad E 0))]) C dd_Fi_init_88 (by decide) rfl ?_
  refine gf_iload_n C dd_Fi_init_89 0 rfl ?_
  refine gf_bipush C dd_Fi_init_90 (by decide +kernel) ?_
  refine gf_icmp_ge 114 C dd_Fi_init_92 (by decide) (by decide) (by decide) (fun h92 => absurd h92 (by decide)) (fun h92 => ?_)
  refine gf_aload_n C dd_Fi_init_95 1 rfl ?_
  refine gf_getA (r := 23) C gf_cl6 fl_Fi_23 dd_Fi_init_96 rfl (show gf_is 24 0 0 6 17 by decide) rfl (by decide) ?_
  refine gf_iload_n C dd_Fi_init_99 0 rfl ?_
  refine gf_newO (k := 24) rfl C gf_cl0 gf_ty0 (by decide +kernel) ⟨gf_mem 112 (by decide +kernel) (by decide +kernel), gf_mem 114 (by decide +kernel) (by decide +kernel), gf_mem 74 (by decide +kernel) (by decide +kernel)⟩ dd_Fi_init_100 (by decide) (Nat.le_of_ble_eq_true rfl) (fun j => (gf_ups_new rfl).trans (hμ _ _ (by decide))) (fun j => (gf_ups_new rfl).trans (hρ _ _ (by decide))) ⟨Nat.le_of_ble_eq_true rfl, Nat.le_of_ble_eq_true rfl⟩ ?_
  refine gf_ph (φ' := (24, 520, 25, gf_ups ρ [(0, 2, 23), (14, 3, 21), (21, 0, 22), (14, 2, 19), (19, 0, 20), (14, 1, 17), (17, 0, 18), (14, 0, 15), (15, 0, 16), (0, 1, 14), (1, 5, 12), (12, 0, 13), (1, 4, 10), (10, 0, 11), (1, 3, 8), (8, 0, 9), (1, 2, 6), (6, 0, 7), (1, 1, 4), (4, 0, 5), (1, 0, 2), (2, 0, 3), (0, 0, 1)])) rfl ?_
  refine gf_dup C dd_Fi_init_103 rfl ?_
  refine gf_callIN (st := [.ref (gf_ad E 24), .int (gf_i 0), .ref (gf_ad E 23)]) (As := []) C hO gf_kGdi C.2.2.2.2.2.2.1.2.2.2.2.2.2.1 (ct_Gd_init (gf_xl X) E 24 25 (gf_ups ρ [(0, 2, 23), (14, 3, 21), (21, 0, 22), (14, 2, 19), (19, 0, 20), (14, 1, 17), (17, 0, 18), (14, 0, 15), (15, 0, 16), (0, 1, 14), (1, 5, 12), (12, 0, 13), (1, 4, 10), (10, 0, 11), (1, 3, 8), (8, 0, 9), (1, 2, 6), (6, 0, 7), (1, 1, 4), (4, 0, 5), (1, 0, 2), (2, 0, 3), (0, 0, 1)]) (gf_ups μ [(21, 1, (-1)), (19, 1, (-1)), (17, 1, (-1)), (15, 1, (-1)), (12, 1, (-1)), (10, 1, (-1)), (8, 1, (-1)), (6, 1, (-1)), (4, 1, (-1)), (2, 1, (-1))]) (by decide)) rfl ⟨rfl, rfl⟩ ⟨Nat.le_of_ble_eq_true rfl, Nat.le_of_ble_eq_true rfl⟩ (Nat.le_of_ble_eq_true rfl) rfl dd_Fi_init_104 (fun m104 hp104 => ?_)
  refine gf_ph (φ' := (24, 520, 25, gf_ups ρ [(0, 2, 23), (14, 3, 21), (21, 0, 22), (14, 2, 19), (19, 0, 20), (14, 1, 17), (17, 0, 18), (14, 0, 15), (15, 0, 16), (0, 1, 14), (1, 5, 12), (12, 0, 13), (1, 4, 10), (10, 0, 11), (1, 3, 8), (8, 0, 9), (1, 2, 6), (6, 0, 7), (1, 1, 4), (4, 0, 5), (1, 0, 2), (2, 0, 3), (0, 0, 1)])) rfl ?_
  refine gf_pm hp104 ?_
  refine gf_aast C rfl gf_cl0 dd_Fi_init_107 (show gf_is 25 23 4 4 7 by decide) (show gf_is 25 24 0 0 3 by decide) (by decide) ?_
  refine gf_ph (φ' := (24, 520, 25, gf_ups ρ [(23, 0, 24), (0, 2, 23), (14, 3, 21), (21, 0, 22), (14, 2, 19), (19, 0, 20), (14, 1, 17), (17, 0, 18), (14, 0, 15), (15, 0, 16), (0, 1, 14), (1, 5, 12), (12, 0, 13), (1, 4, 10), (10, 0, 11), (1, 3, 8), (8, 0, 9), (1, 2, 6), (6, 0, 7), (1, 1, 4), (4, 0, 5), (1, 0, 2), (2, 0, 3), (0, 0, 1)])) rfl ?_
  refine gf_iinc (q := 0) (v := 1) (lv' := [(1, .int (gf_i 1)), (0, .ref (gf_ad E 0))]) C dd_Fi_init_108 rfl (show (1 : Int) = 0 + 1 by decide) (by decide) rfl ?_
  refine gf_goto 89 C dd_Fi_init_111 (by decide) ?_
  refine gf_iload_n C dd_Fi_init_89 0 rfl ?_
  refine gf_bipush C dd_Fi_init_90 (by decide +kernel) ?_
  refine gf_icmp_ge 114 C dd_Fi_init_92 (by decide) (by decide) (by decide) (fun h92 => absurd h92 (by decide)) (fun h92 => ?_)
  refine gf_aload_n C dd_Fi_init_95 1 rfl ?_
  refine gf_getA (r := 23) C gf_cl6 fl_Fi_23 dd_Fi_init_96 rfl (show gf_is 25 0 0 6 17 by decide) rfl (by decide) ?_
  refine gf_iload_n C dd_Fi_init_99 0 rfl ?_
  refine gf_newO (k := 25) rfl C gf_cl0 gf_ty0 (by decide +kernel) ⟨gf_mem 112 (by decide +kernel) (by decide +kernel), gf_mem 114 (by decide +kernel) (by decide +kernel), gf_mem 74 (by decide +kernel) (by decide +kernel)⟩ dd_Fi_init_100 (by decide) (Nat.le_of_ble_eq_true rfl) (fun j => (gf_ups_new rfl).trans (hμ _ _ (by decide))) (fun j => (gf_ups_new rfl).trans (hρ _ _ (by decide))) ⟨Nat.le_of_ble_eq_true rfl, Nat.le_of_ble_eq_true rfl⟩ ?_
  refine gf_ph (φ' := (25, 523, 26, gf_ups ρ [(23, 0, 24), (0, 2, 23), (14, 3, 21), (21, 0, 22), (14, 2, 19), (19, 0, 20), (14, 1, 17), (17, 0, 18), (14, 0, 15), (15, 0, 16), (0, 1, 14), (1, 5, 12), (12, 0, 13), (1, 4, 10), (10, 0, 11), (1, 3, 8), (8, 0, 9), (1, 2, 6), (6, 0, 7), (1, 1, 4), (4, 0, 5), (1, 0, 2), (2, 0, 3), (0, 0, 1)])) rfl ?_
  refine gf_dup C dd_Fi_init_103 rfl ?_
  refine gf_callIN (st := [.ref (gf_ad E 25), .int (gf_i 1), .ref (gf_ad E 23)]) (As := []) C hO gf_kGdi C.2.2.2.2.2.2.1.2.2.2.2.2.2.1 (ct_Gd_init (gf_xl X) E 25 26 (gf_ups ρ [(23, 0, 24), (0, 2, 23), (14, 3, 21), (21, 0, 22), (14, 2, 19), (19, 0, 20), (14, 1, 17), (17, 0, 18), (14, 0, 15), (15, 0, 16), (0, 1, 14), (1, 5, 12), (12, 0, 13), (1, 4, 10), (10, 0, 11), (1, 3, 8), (8, 0, 9), (1, 2, 6), (6, 0, 7), (1, 1, 4), (4, 0, 5), (1, 0, 2), (2, 0, 3), (0, 0, 1)]) (gf_ups μ [(21, 1, (-1)), (19, 1, (-1)), (17, 1, (-1)), (15, 1, (-1)), (12, 1, (-1)), (10, 1, (-1)), (8, 1, (-1)), (6, 1, (-1)), (4, 1, (-1)), (2, 1, (-1))]) (by decide)) rfl ⟨rfl, rfl⟩ ⟨Nat.le_of_ble_eq_true rfl, Nat.le_of_ble_eq_true rfl⟩ (Nat.le_of_ble_eq_true rfl) rfl dd_Fi_init_104 (fun m104 hp104 => ?_)
  refine gf_ph (φ' := (25, 523, 26, gf_ups ρ [(23, 0, 24), (0, 2, 23), (14, 3, 21), (21, 0, 22), (14, 2, 19), (19, 0, 20), (14, 1, 17), (17, 0, 18), (14, 0, 15), (15, 0, 16), (0, 1, 14), (1, 5, 12), (12, 0, 13), (1, 4, 10), (10, 0, 11), (1, 3, 8), (8, 0, 9), (1, 2, 6), (6, 0, 7), (1, 1, 4), (4, 0, 5), (1, 0, 2), (2, 0, 3), (0, 0, 1)])) rfl ?_
  refine gf_pm hp104 ?_
  refine gf_aast C rfl gf_cl0 dd_Fi_init_107 (show gf_is 26 23 4 4 7 by decide) (show gf_is 26 25 0 0 3 by decide) (by decide) ?_
  refine gf_ph (φ' := (25, 523, 26, gf_ups ρ [(23, 1, 25), (23, 0, 24), (0, 2, 23), (14, 3, 21), (21, 0, 22), (14, 2, 19), (19, 0, 20), (14, 1, 17), (17, 0, 18), (14, 0, 15), (15, 0, 16), (0, 1, 14), (1, 5, 12), (12, 0, 13), (1, 4, 10), (10, 0, 11), (1, 3, 8), (8, 0, 9), (1, 2, 6), (6, 0, 7), (1, 1, 4), (4, 0, 5), (1, 0, 2), (2, 0, 3), (0, 0, 1)])) rfl ?_
  refine gf_iinc (q := 0) (v := 2) (lv' := [(1, .int (gf_i 2)), (0, .ref (gf_ad E 0))]) C dd_Fi_init_108 rfl (show (2 : Int) = 1 + 1 by decide) (by decide) rfl ?_
  refine gf_goto 89 C dd_Fi_init_111 (by decide) ?_
  refine gf_iload_n C dd_Fi_init_89 0 rfl ?_
  refine gf_bipush C dd_Fi_init_90 (by decide +kernel) ?_
  refine gf_icmp_ge 114 C dd_Fi_init_92 (by decide) (by decide) (by decide) (fun h92 => absurd h92 (by decide)) (fun h92 => ?_)
  refine gf_aload_n C dd_Fi_init_95 1 rfl ?_
  refine gf_getA (r := 23) C gf_cl6 fl_Fi_23 dd_Fi_init_96 rfl (show gf_is 26 0 0 6 17 by decide) rfl (by decide) ?_
  refine gf_iload_n C dd_Fi_init_99 0 rfl ?_
  refine gf_newO (k := 26) rfl C gf_cl0 gf_ty0 (by decide +kernel) ⟨gf_mem 112 (by decide +kernel) (by decide +kernel), gf_mem 114 (by decide +kernel) (by decide +kernel), gf_mem 74 (by decide +kernel) (by decide +kernel)⟩ dd_Fi_init_100 (by decide) (Nat.le_of_ble_eq_true rfl) (fun j => (gf_ups_new rfl).trans (hμ _ _ (by decide))) (fun j => (gf_ups_new rfl).trans (hρ _ _ (by decide))) ⟨Nat.le_of_ble_eq_true rfl, Nat.le_of_ble_eq_true rfl⟩ ?_
  refine gf_ph (φ' := (26, 526, 27, gf_ups ρ [(23, 1, 25), (23, 0, 24), (0, 2, 23), (14, 3, 21), (21, 0, 22), (14, 2, 19), (19, 0, 20), (14, 1, 17), (17, 0, 18), (14, 0, 15), (15, 0, 16), (0, 1, 14), (1, 5, 12), (12, 0, 13), (1, 4, 10), (10, 0, 11), (1, 3, 8), (8, 0, 9), (1, 2, 6), (6, 0, 7), (1, 1, 4), (4, 0, 5), (1, 0, 2), (2, 0, 3), (0, 0, 1)])) rfl ?_
  refine gf_dup C dd_Fi_init_103 rfl ?_
  refine gf_callIN (st := [.ref (gf_ad E 26), .int (gf_i 2), .ref (gf_ad E 23)]) (As := []) C hO gf_kGdi C.2.2.2.2.2.2.1.2.2.2.2.2.2.1 (ct_Gd_init (gf_xl X) E 26 27 (gf_ups ρ [(23, 1, 25), (23, 0, 24), (0, 2, 23), (14, 3, 21), (21, 0, 22), (14, 2, 19), (19, 0, 20), (14, 1, 17), (17, 0, 18), (14, 0, 15), (15, 0, 16), (0, 1, 14), (1, 5, 12), (12, 0, 13), (1, 4, 10), (10, 0, 11), (1, 3, 8), (8, 0, 9), (1, 2, 6), (6, 0, 7), (1, 1, 4), (4, 0, 5), (1, 0, 2), (2, 0, 3), (0, 0, 1)]) (gf_ups μ [(21, 1, (-1)), (19, 1, (-1)), (17, 1, (-1)), (15, 1, (-1)), (12, 1, (-1)), (10, 1, (-1)), (8, 1, (-1)), (6, 1, (-1)), (4, 1, (-1)), (2, 1, (-1))]) (by decide)) rfl ⟨rfl, rfl⟩ ⟨Nat.le_of_ble_eq_true rfl, Nat.le_of_ble_eq_true rfl⟩ (Nat.le_of_ble_eq_true rfl) rfl dd_Fi_init_104 (fun m104 hp104 => ?_)
  refine gf_ph (φ' := (26, 526, 27, gf_ups ρ [(23, 1, 25), (23, 0, 24), (0, 2, 23), (14, 3, 21), (21, 0, 22), (14, 2, 19), (19, 0, 20), (14, 1, 17), (17, 0, 18), (14, 0, 15), (15, 0, 16), (0, 1, 14), (1, 5, 12), (12, 0, 13), (1, 4, 10), (10, 0, 11), (1, 3, 8), (8, 0, 9), (1, 2, 6), (6, 0, 7), (1, 1, 4), (4, 0, 5), (1, 0, 2), (2, 0, 3), (0, 0, 1)])) rfl ?_
  refine gf_pm hp104 ?_
  refine gf_aast C rfl gf_cl0 dd_Fi_init_107 (show gf_is 27 23 4 4 7 by decide) (show gf_is 27 26 0 0 3 by decide) (by decide) ?_
  refine gf_ph (φ' := (26, 526, 27, gf_ups ρ [(23, 2, 26), (23, 1, 25), (23, 0, 24), (0, 2, 23), (14, 3, 21), (21, 0, 22), (14, 2, 19), (19, 0, 20), (14, 1, 17), (17, 0, 18), (14, 0, 15), (15, 0, 16), (0, 1, 14), (1, 5, 12), (12, 0, 13), (1, 4, 10), (10, 0, 11), (1, 3, 8), (8, 0, 9), (1, 2, 6), (6, 0, 7), (1, 1, 4), (4, 0, 5), (1, 0, 2), (2, 0, 3), (0, 0, 1)])) rfl ?_
  refine gf_iinc (q := 0) (v := 3) (lv' := [(1, .int (gf_i 3)), (0, .ref (gf_ad E 0))]) C dd_Fi_init_108 rfl (show (3 : Int) = 2 + 1 by decide) (by decide) rfl ?_
  refine gf_goto 89 C dd_Fi_init_111 (by decide) ?_
  refine gf_iload_n C dd_Fi_init_89 0 rfl ?_
  refine gf_bipush C dd_Fi_init_90 (by decide +kernel) ?_
  refine gf_icmp_ge 114 C dd_Fi_init_92 (by decide) (by decide) (by decide) (fun h92 => absurd h92 (by decide)) (fun h92 => ?_)
  refine gf_aload_n C dd_Fi_init_95 1 rfl ?_
  refine gf_getA (r := 23) C gf_cl6 fl_Fi_23 dd_Fi_init_96 rfl (show gf_is 27 0 0 6 17 by decide) rfl (by decide) ?_
  refine gf_iload_n C dd_Fi_init_99 0 rfl ?_
  refine gf_newO (k := 27) rfl C gf_cl0 gf_ty0 (by decide +kernel) ⟨gf_mem 112 (by decide +kernel) (by decide +kernel), gf_mem 114 (by decide +kernel) (by decide +kernel), gf_mem 74 (by decide +kernel) (by decide +kernel)⟩ dd_Fi_init_100 (by decide) (Nat.le_of_ble_eq_true rfl) (fun j => (gf_ups_new rfl).trans (hμ _ _ (by decide))) (fun j => (gf_ups_new rfl).trans (hρ _ _ (by decide))) ⟨Nat.le_of_ble_eq_true rfl, Nat.le_of_ble_eq_true rfl⟩ ?_
  refine gf_ph (φ' := (27, 529, 28, gf_ups ρ [(23, 2, 26), (23, 1, 25), (23, 0, 24), (0, 2, 23), (14, 3, 21), (21, 0, 22), (14, 2, 19), (19, 0, 20), (14, 1, 17), (17, 0, 18), (14, 0, 15), (15, 0, 16), (0, 1, 14), (1, 5, 12), (12, 0, 13), (1, 4, 10), (10, 0, 11), (1, 3, 8), (8, 0, 9), (1, 2, 6), (6, 0, 7), (1, 1, 4), (4, 0, 5), (1, 0, 2), (2, 0, 3), (0, 0, 1)])) rfl ?_
  refine gf_dup C dd_Fi_init_103 rfl ?_
  refine gf_callIN (st := [.ref (gf_ad E 27), .int (gf_i 3), .ref (gf_ad E 23)]) (As := []) C hO gf_kGdi C.2.2.2.2.2.2.1.2.2.2.2.2.2.1 (ct_Gd_init (gf_xl X) E 27 28 (gf_ups ρ [(23, 2, 26), (23, 1, 25), (23, 0, 24), (0, 2, 23), (14, 3, 21), (21, 0, 22), (14, 2, 19), (19, 0, 20), (14, 1, 17), (17, 0, 18), (14, 0, 15), (15, 0, 16), (0, 1, 14), (1, 5, 12), (12, 0, 13), (1, 4, 10), (10, 0, 11), (1, 3, 8), (8, 0, 9), (1, 2, 6), (6, 0, 7), (1, 1, 4), (4, 0, 5), (1, 0, 2), (2, 0, 3), (0, 0, 1)]) (gf_ups μ [(21, 1, (-1)), (19, 1, (-1)), (17, 1, (-1)), (15, 1, (-1)), (12, 1, (-1)), (10, 1, (-1)), (8, 1, (-1)), (6, 1, (-1)), (4, 1, (-1)), (2, 1, (-1))]) (by decide)) rfl ⟨rfl, rfl⟩ ⟨Nat.le_of_ble_eq_true rfl, Nat.le_of_ble_eq_true rfl⟩ (Nat.le_of_ble_eq_true rfl) rfl dd_Fi_init_104 (fun m104 hp104 => ?_)
  refine gf_ph (φ' := (27, 529, 28, gf_ups ρ [(23, 2, 26), (23, 1, 25), (23, 0, 24), (0, 2, 23), (14, 3, 21), (21, 0, 22), (14, 2, 19), (19, 0, 20), (14, 1, 17), (17, 0, 18), (14, 0, 15), (15, 0, 16), (0, 1, 14), (1, 5, 12), (12, 0, 13), (1, 4, 10), (10, 0, 11), (1, 3, 8), (8, 0, 9), (1, 2, 6), (6, 0, 7), (1, 1, 4), (4, 0, 5), (1, 0, 2), (2, 0, 3), (0, 0, 1)])) rfl ?_
  refine gf_pm hp104 ?_
  refine gf_aast C rfl gf_cl0 dd_Fi_init_107 (show gf_is 28 23 4 4 7 by decide) (show gf_is 28 27 0 0 3 by decide) (by decide) ?_
  refine gf_ph (φ' := (27, 529, 28, gf_ups ρ [(23, 3, 27), (23, 2, 26), (23, 1, 25), (23, 0, 24), (0, 2, 23), (14, 3, 21), (21, 0, 22), (14, 2, 19), (19, 0, 20), (14, 1, 17), (17, 0, 18), (14, 0, 15), (15, 0, 16), (0, 1, 14), (1, 5, 12), (12, 0, 13), (1, 4, 10), (10, 0, 11), (1, 3, 8), (8, 0, 9), (1, 2, 6), (6, 0, 7), (1, 1, 4), (4, 0, 5), (1, 0, 2), (2, 0, 3), (0, 0, 1)])) rfl ?_
  refine gf_iinc (q := 0) (v := 4) (lv' := [(1, .int (gf_i 4)), (0, .ref (gf_ad E 0))]) C dd_Fi_init_108 rfl (show (4 : Int) = 3 + 1 by decide) (by decide) rfl ?_
  refine gf_goto 89 C dd_Fi_init_111 (by decide) ?_
  refine gf_iload_n C dd_Fi_init_89 0 rfl ?_
  refine gf_bipush C dd_Fi_init_90 (by decide +kernel) ?_
  refine gf_icmp_ge 114 C dd_Fi_init_92 (by decide) (by decide) (by decide) (fun h92 => absurd h92 (by decide)) (fun h92 => ?_)
  refine gf_aload_n C dd_Fi_init_95 1 rfl ?_
  refine gf_getA (r := 23) C gf_cl6 fl_Fi_23 dd_Fi_init_96 rfl (show gf_is 28 0 0 6 17 by decide) rfl (by decide) ?_
  refine gf_iload_n C dd_Fi_init_99 0 rfl ?_
  refine gf_newO (k := 28) rfl C gf_cl0 gf_ty0 (by decide +kernel) ⟨gf_mem 112 (by decide +kernel) (by decide +kernel), gf_mem 114 (by decide +kernel) (by decide +kernel), gf_mem 74 (by decide +kernel) (by decide +kernel)⟩ dd_Fi_init_100 (by decide) (Nat.le_of_ble_eq_true rfl) (fun j => (gf_ups_new rfl).trans (hμ _ _ (by decide))) (fun j => (gf_ups_new rfl).trans (hρ _ _ (by decide))) ⟨Nat.le_of_ble_eq_true rfl, Nat.le_of_ble_eq_true rfl⟩ ?_
  refine gf_ph (φ' := (28, 532, 29, gf_ups ρ [(23, 3, 27), (23, 2, 26), (23, 1, 25), (23, 0, 24), (0, 2, 23), (14, 3, 21), (21, 0, 22), (14, 2, 19), (19, 0, 20), (14, 1, 17), (17, 0, 18), (14, 0, 15), (15, 0, 16), (0, 1, 14), (1, 5, 12), (12, 0, 13), (1, 4, 10), (10, 0, 11), (1, 3, 8), (8, 0, 9), (1, 2, 6), (6, 0, 7), (1, 1, 4), (4, 0, 5), (1, 0, 2), (2, 0, 3), (0, 0, 1)])) rfl ?_
  refine gf_dup C dd_Fi_init_103 rfl ?_
  refine gf_callIN (st := [.ref (gf_ad E 28), .int (gf_i 4), .ref (gf_ad E 23)]) (As := []) C hO gf_kGdi C.2.2.2.2.2.2.1.2.2.2.2.2.2.1 (ct_Gd_init (gf_xl X) E 28 29 (gf_ups ρ [(23, 3, 27), (23, 2, 26), (23, 1, 25), (23, 0, 24), (0, 2, 23), (14, 3, 21), (21, 0, 22), (14, 2, 19), (19, 0, 20), (14, 1, 17), (17, 0, 18), (14, 0, 15), (15, 0, 16), (0, 1, 14), (1, 5, 12), (12, 0, 13), (1, 4, 10), (10, 0, 11), (1, 3, 8), (8, 0, 9), (1, 2, 6), (6, 0, 7), (1, 1, 4), (4, 0, 5), (1, 0, 2), (2, 0, 3), (0, 0, 1)]) (gf_ups μ [(21, 1, (-1)), (19, 1, (-1)), (17, 1, (-1)), (15, 1, (-1)), (12, 1, (-1)), (10, 1, (-1)), (8, 1, (-1)), (6, 1, (-1)), (4, 1, (-1)), (2, 1, (-1))]) (by decide)) rfl ⟨rfl, rfl⟩ ⟨Nat.le_of_ble_eq_true rfl, Nat.le_of_ble_eq_true rfl⟩ (Nat.le_of_ble_eq_true rfl) rfl dd_Fi_init_104 (fun m104 hp104 => ?_)
  refine gf_ph (φ' := (28, 532, 29, gf_ups ρ [(23, 3, 27), (23, 2, 26), (23, 1, 25), (23, 0, 24), (0, 2, 23), (14, 3, 21), (21, 0, 22), (14, 2, 19), (19, 0, 20), (14, 1, 17), (17, 0, 18), (14, 0, 15), (15, 0, 16), (0, 1, 14), (1, 5, 12), (12, 0, 13), (1, 4, 10), (10, 0, 11), (1, 3, 8), (8, 0, 9), (1, 2, 6), (6, 0, 7), (1, 1, 4), (4, 0, 5), (1, 0, 2), (2, 0, 3), (0, 0, 1)])) rfl ?_
  refine gf_pm hp104 ?_
  refine gf_aast C rfl gf_cl0 dd_Fi_init_107 (show gf_is 29 23 4 4 7 by decide) (show gf_is 29 28 0 0 3 by decide) (by decide) ?_
  refine gf_ph (φ' := (28, 532, 29, gf_ups ρ [(23, 4, 28), (23, 3, 27), (23, 2, 26), (23, 1, 25), (23, 0, 24), (0, 2, 23), (14, 3, 21), (21, 0, 22), (14, 2, 19), (19, 0, 20), (14, 1, 17), (17, 0, 18), (14, 0, 15), (15, 0, 16), (0, 1, 14), (1, 5, 12), (12, 0, 13), (1, 4, 10), (10, 0, 11), (1, 3, 8), (8, 0, 9), (1, 2, 6), (6, 0, 7), (1, 1, 4), (4, 0, 5), (1, 0, 2), (2, 0, 3), (0, 0, 1)])) rfl ?_
  refine gf_iinc (q := 0) (v := 5) (lv' := [(1, .int (gf_i 5)), (0, .ref (gf_ad E 0))]) C dd_Fi_init_108 rfl (show (5 : Int) = 4 + 1 by decide) (by decide) rfl ?_
  refine gf_goto 89 C dd_Fi_init_111 (by decide) ?_
  refine gf_iload_n C dd_Fi_init_89 0 rfl ?_
  refine gf_bipush C dd_Fi_init_90 (by decide +kernel) ?_
  refine gf_icmp_ge 114 C dd_Fi_init_92 (by decide) (by decide) (by decide) (fun h92 => absurd h92 (by decide)) (fun h92 => ?_)
  refine gf_aload_n C dd_Fi_init_95 1 rfl ?_
  refine gf_getA (r := 23) C gf_cl6 fl_Fi_23 dd_Fi_init_96 rfl (show gf_is 29 0 0 6 17 by decide) rfl (by decide) ?_
  refine gf_iload_n C dd_Fi_init_99 0 rfl ?_
  refine gf_newO (k := 29) rfl C gf_cl0 gf_ty0 (by decide +kernel) ⟨gf_mem 112 (by decide +kernel) (by decide +kernel), gf_mem 114 (by decide +kernel) (by decide +kernel), gf_mem 74 (by decide +kernel) (by decide +kernel)⟩ dd_Fi_init_100 (by decide) (Nat.le_of_ble_eq_true rfl) (fun j => (gf_ups_new rfl).trans (hμ _ _ (by decide))) (fun j => (gf_ups_new rfl).trans (hρ _ _ (by decide))) ⟨Nat.le_of_ble_eq_true rfl, Nat.le_of_ble_eq_true rfl⟩ ?_
  refine gf_ph (φ' := (29, 535, 30, gf_ups ρ [(23, 4, 28), (23, 3, 27), (23, 2, 26), (23, 1, 25), (23, 0, 24), (0, 2, 23), (14, 3, 21), (21, 0, 22), (14, 2, 19), (19, 0, 20), (14, 1, 17), (17, 0, 18), (14, 0, 15), (15, 0, 16), (0, 1, 14), (1, 5, 12), (12, 0, 13), (1, 4, 10), (10, 0, 11), (1, 3, 8), (8, 0, 9), (1, 2, 6), (6, 0, 7), (1, 1, 4), (4, 0, 5), (1, 0, 2), (2, 0, 3), (0, 0, 1)])) rfl ?_
  refine gf_dup C dd_Fi_init_103 rfl ?_
  refine gf_callIN (st := [.ref (gf_ad E 29), .int (gf_i 5), .ref (gf_ad E 23)]) (As := []) C hO gf_kGdi C.2.2.2.2.2.2.1.2.2.2.2.2.2.1 (ct_Gd_init (gf_xl X) E 29 30 (gf_ups ρ [(23, 4, 28), (23, 3, 27), (23, 2, 26), (23, 1, 25), (23, 0, 24), (0, 2, 23), (14, 3, 21), (21, 0, 22), (14, 2, 19), (19, 0, 20), (14, 1, 17), (17, 0, 18), (14, 0, 15), (15, 0, 16), (0, 1, 14), (1, 5, 12), (12, 0, 13), (1, 4, 10), (10, 0, 11), (1, 3, 8), (8, 0, 9), (1, 2, 6), (6, 0, 7), (1, 1, 4), (4, 0, 5), (1, 0, 2), (2, 0, 3), (0, 0, 1)]) (gf_ups μ [(21, 1, (-1)), (19, 1, (-1)), (17, 1, (-1)), (15, 1, (-1)), (12, 1, (-1)), (10, 1, (-1)), (8, 1, (-1)), (6, 1, (-1)), (4, 1, (-1)), (2, 1, (-1))]) (by decide)) rfl ⟨rfl, rfl⟩ ⟨Nat.le_of_ble_eq_true rfl, Nat.le_of_ble_eq_true rfl⟩ (Nat.le_of_ble_eq_true rfl) rfl dd_Fi_init_104 (fun m104 hp104 => ?_)
  refine gf_ph (φ' := (29, 535, 30, gf_ups ρ [(23, 4, 28), (23, 3, 27), (23, 2, 26), (23, 1, 25), (23, 0, 24), (0, 2, 23), (14, 3, 21), (21, 0, 22), (14, 2, 19), (19, 0, 20), (14, 1, 17), (17, 0, 18), (14, 0, 15), (15, 0, 16), (0, 1, 14), (1, 5, 12), (12, 0, 13), (1, 4, 10), (10, 0, 11), (1, 3, 8), (8, 0, 9), (1, 2, 6), (6, 0, 7), (1, 1, 4), (4, 0, 5), (1, 0, 2), (2, 0, 3), (0, 0, 1)])) rfl ?_
  refine gf_pm hp104 ?_
  refine gf_aast C rfl gf_cl0 dd_Fi_init_107 (show gf_is 30 23 4 4 7 by decide) (show gf_is 30 29 0 0 3 by decide) (by decide) ?_
  refine gf_ph (φ' := (29, 535, 30, gf_ups ρ [(23, 5, 29), (23, 4, 28), (23, 3, 27), (23, 2, 26), (23, 1, 25), (23, 0, 24), (0, 2, 23), (14, 3, 21), (21, 0, 22), (14, 2, 19), (19, 0, 20), (14, 1, 17), (17, 0, 18), (14, 0, 15), (15, 0, 16), (0, 1, 14), (1, 5, 12), (12, 0, 13), (1, 4, 10), (10, 0, 11), (1, 3, 8), (8, 0, 9), (1, 2, 6), (6, 0, 7), (1, 1, 4), (4, 0, 5), (1, 0, 2), (2, 0, 3), (0, 0, 1)])) rfl ?_
  refine gf_iinc (q := 0) (v := 6) (lv' := [(1, .int (gf_i 6)), (0, .ref (gf_ad E 0))]) C dd_Fi_init_108 rfl (show (6 : Int) = 5 + 1 by decide) (by decide) rfl ?_
  refine gf_goto 89 C dd_Fi_init_111 (by decide) ?_
  refine gf_iload_n C dd_Fi_init_89 0 rfl ?_
  refine gf_bipush C dd_Fi_init_90 (by decide +kernel) ?_
  refine gf_icmp_ge 114 C dd_Fi_init_92 (by decide) (by decide) (by decide) (fun h92 => absurd h92 (by decide)) (fun h92 => ?_)
  refine gf_aload_n C dd_Fi_init_95 1 rfl ?_
  refine gf_getA (r := 23) C gf_cl6 fl_Fi_23 dd_Fi_init_96 rfl (show gf_is 30 0 0 6 17 by decide) rfl (by decide) ?_
  refine gf_iload_n C dd_Fi_init_99 0 rfl ?_
  refine gf_newO (k := 30) rfl C gf_cl0 gf_ty0 (by decide +kernel) ⟨gf_mem 112 (by decide +kernel) (by decide +kernel), gf_mem 114 (by decide +kernel) (by decide +kernel), gf_mem 74 (by decide +kernel) (by decide +kernel)⟩ dd_Fi_init_100 (by decide) (Nat.le_of_ble_eq_true rfl) (fun j => (gf_ups_new rfl).trans (hμ _ _ (by decide))) (fun j => (gf_ups_new rfl).trans (hρ _ _ (by decide))) ⟨Nat.le_of_ble_eq_true rfl, Nat.le_of_ble_eq_true rfl⟩ ?_
  refine gf_ph (φ' := (30, 538, 31, gf_ups ρ [(23, 5, 29), (23, 4, 28), (23, 3, 27), (23, 2, 26), (23, 1, 25), (23, 0, 24), (0, 2, 23), (14, 3, 21), (21, 0, 22), (14, 2, 19), (19, 0, 20), (14, 1, 17), (17, 0, 18), (14, 0, 15), (15, 0, 16), (0, 1, 14), (1, 5, 12), (12, 0, 13), (1, 4, 10), (10, 0, 11), (1, 3, 8), (8, 0, 9), (1, 2, 6), (6, 0, 7), (1, 1, 4), (4, 0, 5), (1, 0, 2), (2, 0, 3), (0, 0, 1)])) rfl ?_
  refine gf_dup C dd_Fi_init_103 rfl ?_
  refine gf_callIN (st := [.ref (gf_ad E 30), .int (gf_i 6), .ref (gf_ad E 23)]) (As := []) C hO gf_kGdi C.2.2.2.2.2.2.1.2.2.2.2.2.2.1 (ct_Gd_init (gf_xl X) E 30 31 (gf_ups ρ [(23, 5, 29), (23, 4, 28), (23, 3, 27), (23, 2, 26), (23, 1, 25), (23, 0, 24), (0, 2, 23), (14, 3, 21), (21, 0, 22), (14, 2, 19), (19, 0, 20), (14, 1, 17), (17, 0, 18), (14, 0, 15), (15, 0, 16), (0, 1, 14), (1, 5, 12), (12, 0, 13), (1, 4, 10), (10, 0, 11), (1, 3, 8), (8, 0, 9), (1, 2, 6), (6, 0, 7), (1, 1, 4), (4, 0, 5), (1, 0, 2), (2, 0, 3), (0, 0, 1)]) (gf_ups μ [(21, 1, (-1)), (19, 1, (-1)), (17, 1, (-1)), (15, 1, (-1)), (12, 1, (-1)), (10, 1, (-1)), (8, 1, (-1)), (6, 1, (-1)), (4, 1, (-1)), (2, 1, (-1))]) (by decide)) rfl ⟨rfl, rfl⟩ ⟨Nat.le_of_ble_eq_true rfl, Nat.le_of_ble_eq_true rfl⟩ (Nat.le_of_ble_eq_true rfl) rfl dd_Fi_init_104 (fun m104 hp104 => ?_)
  refine gf_ph (φ' := (30, 538, 31, gf_ups ρ [(23, 5, 29), (23, 4, 28), (23, 3, 27), (23, 2, 26), (23, 1, 25), (23, 0, 24), (0, 2, 23), (14, 3, 21), (21, 0, 22), (14, 2, 19), (19, 0, 20), (14, 1, 17), (17, 0, 18), (14, 0, 15), (15, 0, 16), (0, 1, 14), (1, 5, 12), (12, 0, 13), (1, 4, 10), (10, 0, 11), (1, 3, 8), (8, 0, 9), (1, 2, 6), (6, 0, 7), (1, 1, 4), (4, 0, 5), (1, 0, 2), (2, 0, 3), (0, 0, 1)])) rfl ?_
  refine gf_pm hp104 ?_
  refine gf_aast C rfl gf_cl0 dd_Fi_init_107 (show gf_is 31 23 4 4 7 by decide) (show gf_is 31 30 0 0 3 by decide) (by decide) ?_
  refine gf_ph (φ' := (30, 538, 31, gf_ups ρ [(23, 6, 30), (23, 5, 29), (23, 4, 28), (23, 3, 27), (23, 2, 26), (23, 1, 25), (23, 0, 24), (0, 2, 23), (14, 3, 21), (21, 0, 22), (14, 2, 19), (19, 0, 20), (14, 1, 17), (17, 0, 18), (14, 0, 15), (15, 0, 16), (0, 1, 14), (1, 5, 12), (12, 0, 13), (1, 4, 10), (10, 0, 11), (1, 3, 8), (8, 0, 9), (1, 2, 6), (6, 0, 7), (1, 1, 4), (4, 0, 5), (1, 0, 2), (2, 0, 3), (0, 0, 1)])) rfl ?_
  refine gf_iinc (q := 0) (v := 7) (lv' := [(1, .int (gf_i 7)), (0, .ref (gf_ad E 0))]) C dd_Fi_init_108 rfl (show (7 : Int) = 6 + 1 by decide) (by decide) rfl ?_
  refine gf_goto 89 C dd_Fi_init_111 (by decide) ?_
  refine gf_iload_n C dd_Fi_init_89 0 rfl ?_
  refine gf_bipush C dd_Fi_init_90 (by decide +kernel) ?_
  refine gf_icmp_ge 114 C dd_Fi_init_92 (by decide) (by decide) (by decide) (fun h92 => ?_) (fun h92 => absurd (by decide) h92)
  refine gf_aload_n C dd_Fi_init_114 1 rfl ?_
  refine gf_iconst C dd_Fi_init_115 ?_
  refine gf_newQk (N := 3) (k := 31) (c := 5) rfl C hO.2.2 (gf_mem 135 (by decide +kernel) (by decide +kernel)) rfl (by decide) dd_Fi_init_116 (by decide) (by decide) (by decide) (Nat.le_of_ble_eq_true rfl) (fun j => (gf_ups_new rfl).trans (hρ _ _ (by decide))) ⟨Nat.le_of_ble_eq_true rfl, Nat.le_of_ble_eq_true rfl⟩ ?_
  refine gf_ph (φ' := (31, 541, 32, gf_ups ρ [(23, 6, 30), (23, 5, 29), (23, 4, 28), (23, 3, 27), (23, 2, 26), (23, 1, 25), (23, 0, 24), (0, 2, 23), (14, 3, 21), (21, 0, 22), (14, 2, 19), (19, 0, 20), (14, 1, 17), (17, 0, 18), (14, 0, 15), (15, 0, 16), (0, 1, 14), (1, 5, 12), (12, 0, 13), (1, 4, 10), (10, 0, 11), (1, 3, 8), (8, 0, 9), (1, 2, 6), (6, 0, 7), (1, 1, 4), (4, 0, 5), (1, 0, 2), (2, 0, 3), (0, 0, 1)])) rfl ?_
  refine gf_putF (z := 5) (ty := .array (.object "GuardFigures$Writing")) C hname gf_cl6 fl_Fi_30 dd_Fi_init_119 rfl rfl rfl rfl (by decide +kernel) (fun _ => ⟨rfl, rfl⟩) (show gf_is 32 0 0 6 17 by decide) (by decide) ?_
  refine gf_ph (φ' := (31, 541, 32, gf_ups ρ [(0, 5, 31), (23, 6, 30), (23, 5, 29), (23, 4, 28), (23, 3, 27), (23, 2, 26), (23, 1, 25), (23, 0, 24), (0, 2, 23), (14, 3, 21), (21, 0, 22), (14, 2, 19), (19, 0, 20), (14, 1, 17), (17, 0, 18), (14, 0, 15), (15, 0, 16), (0, 1, 14), (1, 5, 12), (12, 0, 13), (1, 4, 10), (10, 0, 11), (1, 3, 8), (8, 0, 9), (1, 2, 6), (6, 0, 7), (1, 1, 4), (4, 0, 5), (1, 0, 2), (2, 0, 3), (0, 0, 1)])) rfl ?_
  refine gf_iconst C dd_Fi_init_122 ?_
  refine gf_istore_n (lv' := [(1, .int (gf_i 0)), (0, .ref (gf_ad E 0))]) C dd_Fi_init_123 (by decide) rfl ?_
  refine gf_iload_n C dd_Fi_init_124 0 rfl ?_
  refine gf_iconst C dd_Fi_init_125 ?_
  refine gf_icmp_ge 148 C dd_Fi_init_126 (by decide) (by decide) (by decide) (fun h126 => absurd h126 (by decide)) (fun h126 => ?_)
  refine gf_aload_n C dd_Fi_init_129 1 rfl ?_
  refine gf_getA (r := 31) C gf_cl6 fl_Fi_30 dd_Fi_init_130 rfl (show gf_is 32 0 0 6 17 by decide) rfl (by decide) ?_
  refine gf_iload_n C dd_Fi_init_133 0 rfl ?_
  refine gf_newO (k := 32) rfl C gf_cl5 gf_ty5 (by decide +kernel) ⟨gf_mem 135 (by decide +kernel) (by decide +kernel), gf_mem 137 (by decide +kernel) (by decide +kernel), gf_mem 75 (by decide +kernel) (by decide +kernel)⟩ dd_Fi_init_134 (by decide) (Nat.le_of_ble_eq_true rfl) (fun j => (gf_ups_new rfl).trans (hμ _ _ (by decide))) (fun j => (gf_ups_new rfl).trans (hρ _ _ (by decide))) ⟨Nat.le_of_ble_eq_true rfl, Nat.le_of_ble_eq_true rfl⟩ ?_
  refine gf_ph (φ' := (32, 546, 33, gf_ups ρ [(0, 5, 31), (23, 6, 30), (23, 5, 29), (23, 4, 28), (23, 3, 27), (23, 2, 26), (23, 1, 25), (23, 0, 24), (0, 2, 23), (14, 3, 21), (21, 0, 22), (14, 2, 19), (19, 0, 20), (14, 1, 17), (17, 0, 18), (14, 0, 15), (15, 0, 16), (0, 1, 14), (1, 5, 12), (12, 0, 13), (1, 4, 10), (10, 0, 11), (1, 3, 8), (8, 0, 9), (1, 2, 6), (6, 0, 7), (1, 1, 4), (4, 0, 5), (1, 0, 2), (2, 0, 3), (0, 0, 1)])) rfl ?_
  refine gf_dup C dd_Fi_init_137 rfl ?_
  refine gf_callI (st := [.ref (gf_ad E 32), .int (gf_i 0), .ref (gf_ad E 31)]) (As := []) C hO wk_Fi_34 (ct_Wr_init_32 (gf_xl X) E (gf_ups ρ [(0, 5, 31), (23, 6, 30), (23, 5, 29), (23, 4, 28), (23, 3, 27), (23, 2, 26), (23, 1, 25), (23, 0, 24), (0, 2, 23), (14, 3, 21), (21, 0, 22), (14, 2, 19), (19, 0, 20), (14, 1, 17), (17, 0, 18), (14, 0, 15), (15, 0, 16), (0, 1, 14), (1, 5, 12), (12, 0, 13), (1, 4, 10), (10, 0, 11), (1, 3, 8), (8, 0, 9), (1, 2, 6), (6, 0, 7), (1, 1, 4), (4, 0, 5), (1, 0, 2), (2, 0, 3), (0, 0, 1)]) (gf_ups μ [(21, 1, (-1)), (19, 1, (-1)), (17, 1, (-1)), (15, 1, (-1)), (12, 1, (-1)), (10, 1, (-1)), (8, 1, (-1)), (6, 1, (-1)), (4, 1, (-1)), (2, 1, (-1))]) (gf_z_ups hμ rfl) (gf_n_ups hρ rfl)) rfl ⟨rfl, rfl⟩ ⟨Nat.le_of_ble_eq_true rfl, Nat.le_of_ble_eq_true rfl⟩ (Nat.le_of_ble_eq_true rfl) rfl dd_Fi_init_138 (fun m138 hp138 => ?_)
  refine gf_phU (a' := 34) (b' := 594) (L' := [(32, 3, 34), (32, 0, 33), (0, 5, 31), (23, 6, 30), (23, 5, 29), (23, 4, 28), (23, 3, 27), (23, 2, 26), (23, 1, 25), (23, 0, 24), (0, 2, 23), (14, 3, 21), (21, 0, 22), (14, 2, 19), (19, 0, 20), (14, 1, 17), (17, 0, 18), (14, 0, 15), (15, 0, 16), (0, 1, 14), (1, 5, 12), (12, 0, 13), (1, 4, 10), (10, 0, 11), (1, 3, 8), (8, 0, 9), (1, 2, 6), (6, 0, 7), (1, 1, 4), (4, 0, 5), (1, 0, 2), (2, 0, 3), (0, 0, 1)]) rfl rfl rfl ?_
  refine gf_pm (μ := gf_ups μ [(21, 1, (-1)), (19, 1, (-1)), (17, 1, (-1)), (15, 1, (-1)), (12, 1, (-1)), (10, 1, (-1)), (8, 1, (-1)), (6, 1, (-1)), (4, 1, (-1)), (2, 1, (-1))]) (hp138.trans (gf_ups_ups _ _ _)) ?_
  refine gf_aast C rfl gf_cl5 dd_Fi_init_141 (show gf_is 35 31 4 5 3 by decide) (show gf_is 35 32 0 5 5 by decide) (by decide) ?_
  refine gf_ph (φ' := (34, 594, 35, gf_ups ρ [(31, 0, 32), (32, 3, 34), (32, 0, 33), (0, 5, 31), (23, 6, 30), (23, 5, 29), (23, 4, 28), (23, 3, 27), (23, 2, 26), (23, 1, 25), (23, 0, 24), (0, 2, 23), (14, 3, 21), (21, 0, 22), (14, 2, 19), (19, 0, 20), (14, 1, 17), (17, 0, 18), (14, 0, 15), (15, 0, 16), (0, 1, 14), (1, 5, 12), (12, 0, 13), (1, 4, 10), (10, 0, 11), (1, 3, 8), (8, 0, 9), (1, 2, 6), (6, 0, 7), (1, 1, 4), (4, 0, 5), (1, 0, 2), (2, 0, 3), (0, 0, 1)])) rfl ?_
  refine gf_iinc (q := 0) (v := 1) (lv' := [(1, .int (gf_i 1)), (0, .ref (gf_ad E 0))]) C dd_Fi_init_142 rfl (show (1 : Int) = 0 + 1 by decide) (by decide) rfl ?_
  refine gf_goto 124 C dd_Fi_init_145 (by decide) ?_
  refine gf_iload_n C dd_Fi_init_124 0 rfl ?_
  refine gf_iconst C dd_Fi_init_125 ?_
  refine gf_icmp_ge 148 C dd_Fi_init_126 (by decide) (by decide) (by decide) (fun h126 => absurd h126 (by decide)) (fun h126 => ?_)
  refine gf_aload_n C dd_Fi_init_129 1 rfl ?_
  refine gf_getA (r := 31) C gf_cl6 fl_Fi_30 dd_Fi_init_130 rfl (show gf_is 35 0 0 6 17 by decide) rfl (by decide) ?_
  refine gf_iload_n C dd_Fi_init_133 0 rfl ?_
  refine gf_newO (k := 35) rfl C gf_cl5 gf_ty5 (by decide +kernel) ⟨gf_mem 135 (by decide +kernel) (by decide +kernel), gf_mem 137 (by decide +kernel) (by decide +kernel), gf_mem 75 (by decide +kernel) (by decide +kernel)⟩ dd_Fi_init_134 (by decide) (Nat.le_of_ble_eq_true rfl) (fun j => (gf_ups_new rfl).trans (hμ _ _ (by decide))) (fun j => (gf_ups_new rfl).trans (hρ _ _ (by decide))) ⟨Nat.le_of_ble_eq_true rfl, Nat.le_of_ble_eq_true rfl⟩ ?_
  refine gf_ph (φ' := (35, 599, 36, gf_ups ρ [(31, 0, 32), (32, 3, 34), (32, 0, 33), (0, 5, 31), (23, 6, 30), (23, 5, 29), (23, 4, 28), (23, 3, 27), (23, 2, 26), (23, 1, 25), (23, 0, 24), (0, 2, 23), (14, 3, 21), (21, 0, 22), (14, 2, 19), (19, 0, 20), (14, 1, 17), (17, 0, 18), (14, 0, 15), (15, 0, 16), (0, 1, 14), (1, 5, 12), (12, 0, 13), (1, 4, 10), (10, 0, 11), (1, 3, 8), (8, 0, 9), (1, 2, 6), (6, 0, 7), (1, 1, 4), (4, 0, 5), (1, 0, 2), (2, 0, 3), (0, 0, 1)])) rfl ?_
  refine gf_dup C dd_Fi_init_137 rfl ?_
  refine gf_callI (st := [.ref (gf_ad E 35), .int (gf_i 1), .ref (gf_ad E 31)]) (As := []) C hO wk_Fi_34 (ct_Wr_init_35 (gf_xl X) E (gf_ups ρ [(31, 0, 32), (32, 3, 34), (32, 0, 33), (0, 5, 31), (23, 6, 30), (23, 5, 29), (23, 4, 28), (23, 3, 27), (23, 2, 26), (23, 1, 25), (23, 0, 24), (0, 2, 23), (14, 3, 21), (21, 0, 22), (14, 2, 19), (19, 0, 20), (14, 1, 17), (17, 0, 18), (14, 0, 15), (15, 0, 16), (0, 1, 14), (1, 5, 12), (12, 0, 13), (1, 4, 10), (10, 0, 11), (1, 3, 8), (8, 0, 9), (1, 2, 6), (6, 0, 7), (1, 1, 4), (4, 0, 5), (1, 0, 2), (2, 0, 3), (0, 0, 1)]) (gf_ups μ [(21, 1, (-1)), (19, 1, (-1)), (17, 1, (-1)), (15, 1, (-1)), (12, 1, (-1)), (10, 1, (-1)), (8, 1, (-1)), (6, 1, (-1)), (4, 1, (-1)), (2, 1, (-1))]) (gf_z_ups hμ rfl) (gf_n_ups hρ rfl)) rfl ⟨rfl, rfl⟩ ⟨Nat.le_of_ble_eq_true rfl, Nat.le_of_ble_eq_true rfl⟩ (Nat.le_of_ble_eq_true rfl) rfl dd_Fi_init_138 (fun m138 hp138 => ?_)
  refine gf_phU (a' := 37) (b' := 647) (L' := [(35, 3, 37), (35, 0, 36), (31, 0, 32), (32, 3, 34), (32, 0, 33), (0, 5, 31), (23, 6, 30), (23, 5, 29), (23, 4, 28), (23, 3, 27), (23, 2, 26), (23, 1, 25), (23, 0, 24), (0, 2, 23), (14, 3, 21), (21, 0, 22), (14, 2, 19), (19, 0, 20), (14, 1, 17), (17, 0, 18), (14, 0, 15), (15, 0, 16), (0, 1, 14), (1, 5, 12), (12, 0, 13), (1, 4, 10), (10, 0, 11), (1, 3, 8), (8, 0, 9), (1, 2, 6), (6, 0, 7), (1, 1, 4), (4, 0, 5), (1, 0, 2), (2, 0, 3), (0, 0, 1)]) rfl rfl rfl ?_
  refine gf_pm (μ := gf_ups μ [(21, 1, (-1)), (19, 1, (-1)), (17, 1, (-1)), (15, 1, (-1)), (12, 1, (-1)), (10, 1, (-1)), (8, 1, (-1)), (6, 1, (-1)), (4, 1, (-1)), (2, 1, (-1))]) (hp138.trans (gf_ups_ups _ _ _)) ?_
  refine gf_aast C rfl gf_cl5 dd_Fi_init_141 (show gf_is 38 31 4 5 3 by decide) (show gf_is 38 35 0 5 5 by decide) (by decide) ?_
  refine gf_ph (φ' := (37, 647, 38, gf_ups ρ [(31, 1, 35), (35, 3, 37), (35, 0, 36), (31, 0, 32), (32, 3, 34), (32, 0, 33), (0, 5, 31), (23, 6, 30), (23, 5, 29), (23, 4, 28), (23, 3, 27), (23, 2, 26), (23, 1, 25), (23, 0, 24), (0, 2, 23), (14, 3, 21), (21, 0, 22), (14, 2, 19), (19, 0, 20), (14, 1, 17), (17, 0, 18), (14, 0, 15), (15, 0, 16), (0, 1, 14), (1, 5, 12), (12, 0, 13), (1, 4, 10), (10, 0, 11), (1, 3, 8), (8, 0, 9), (1, 2, 6), (6, 0, 7), (1, 1, 4), (4, 0, 5), (1, 0, 2), (2, 0, 3), (0, 0, 1)])) rfl ?_
  refine gf_iinc (q := 0) (v := 2) (lv' := [(1, .int (gf_i 2)), (0, .ref (gf_ad E 0))]) C dd_Fi_init_142 rfl (show (2 : Int) = 1 + 1 by decide) (by decide) rfl ?_
  refine gf_goto 124 C dd_Fi_init_145 (by decide) ?_
  refine gf_iload_n C dd_Fi_init_124 0 rfl ?_
  refine gf_iconst C dd_Fi_init_125 ?_
  refine gf_icmp_ge 148 C dd_Fi_init_126 (by decide) (by decide) (by decide) (fun h126 => absurd h126 (by decide)) (fun h126 => ?_)
  refine gf_aload_n C dd_Fi_init_129 1 rfl ?_
  refine gf_getA (r := 31) C gf_cl6 fl_Fi_30 dd_Fi_init_130 rfl (show gf_is 38 0 0 6 17 by decide) rfl (by decide) ?_
  refine gf_iload_n C dd_Fi_init_133 0 rfl ?_
  refine gf_newO (k := 38) rfl C gf_cl5 gf_ty5 (by decide +kernel) ⟨gf_mem 135 (by decide +kernel) (by decide +kernel), gf_mem 137 (by decide +kernel) (by decide +kernel), gf_mem 75 (by decide +kernel) (by decide +kernel)⟩ dd_Fi_init_134 (by decide) (Nat.le_of_ble_eq_true rfl) (fun j => (gf_ups_new rfl).trans (hμ _ _ (by decide))) (fun j => (gf_ups_new rfl).trans (hρ _ _ (by decide))) ⟨Nat.le_of_ble_eq_true rfl, Nat.le_of_ble_eq_true rfl⟩ ?_
  refine gf_ph (φ' := (38, 652, 39, gf_ups ρ [(31, 1, 35), (35, 3, 37), (35, 0, 36), (31, 0, 32), (32, 3, 34), (32, 0, 33), (0, 5, 31), (23, 6, 30), (23, 5, 29), (23, 4, 28), (23, 3, 27), (23, 2, 26), (23, 1, 25), (23, 0, 24), (0, 2, 23), (14, 3, 21), (21, 0, 22), (14, 2, 19), (19, 0, 20), (14, 1, 17), (17, 0, 18), (14, 0, 15), (15, 0, 16), (0, 1, 14), (1, 5, 12), (12, 0, 13), (1, 4, 10), (10, 0, 11), (1, 3, 8), (8, 0, 9), (1, 2, 6), (6, 0, 7), (1, 1, 4), (4, 0, 5), (1, 0, 2), (2, 0, 3), (0, 0, 1)])) rfl ?_
  refine gf_dup C dd_Fi_init_137 rfl ?_
  refine gf_callI (st := [.ref (gf_ad E 38), .int (gf_i 2), .ref (gf_ad E 31)]) (As := []) C hO wk_Fi_34 (ct_Wr_init_38 (gf_xl X) E (gf_ups ρ [(31, 1, 35), (35, 3, 37), (35, 0, 36), (31, 0, 32), (32, 3, 34), (32, 0, 33), (0, 5, 31), (23, 6, 30), (23, 5, 29), (23, 4, 28), (23, 3, 27), (23, 2, 26), (23, 1, 25), (23, 0, 24), (0, 2, 23), (14, 3, 21), (21, 0, 22), (14, 2, 19), (19, 0, 20), (14, 1, 17), (17, 0, 18), (14, 0, 15), (15, 0, 16), (0, 1, 14), (1, 5, 12), (12, 0, 13), (1, 4, 10), (10, 0, 11), (1, 3, 8), (8, 0, 9), (1, 2, 6), (6, 0, 7), (1, 1, 4), (4, 0, 5), (1, 0, 2), (2, 0, 3), (0, 0, 1)]) (gf_ups μ [(21, 1, (-1)), (19, 1, (-1)), (17, 1, (-1)), (15, 1, (-1)), (12, 1, (-1)), (10, 1, (-1)), (8, 1, (-1)), (6, 1, (-1)), (4, 1, (-1)), (2, 1, (-1))]) (gf_z_ups hμ rfl) (gf_n_ups hρ rfl)) rfl ⟨rfl, rfl⟩ ⟨Nat.le_of_ble_eq_true rfl, Nat.le_of_ble_eq_true rfl⟩ (Nat.le_of_ble_eq_true rfl) rfl dd_Fi_init_138 (fun m138 hp138 => ?_)
  refine gf_phU (a' := 40) (b' := 700) (L' := [(38, 3, 40), (38, 0, 39), (31, 1, 35), (35, 3, 37), (35, 0, 36), (31, 0, 32), (32, 3, 34), (32, 0, 33), (0, 5, 31), (23, 6, 30), (23, 5, 29), (23, 4, 28), (23, 3, 27), (23, 2, 26), (23, 1, 25), (23, 0, 24), (0, 2, 23), (14, 3, 21), (21, 0, 22), (14, 2, 19), (19, 0, 20), (14, 1, 17), (17, 0, 18), (14, 0, 15), (15, 0, 16), (0, 1, 14), (1, 5, 12), (12, 0, 13), (1, 4, 10), (10, 0, 11), (1, 3, 8), (8, 0, 9), (1, 2, 6), (6, 0, 7), (1, 1, 4), (4, 0, 5), (1, 0, 2), (2, 0, 3), (0, 0, 1)]) rfl rfl rfl ?_
  refine gf_pm (μ := gf_ups μ [(21, 1, (-1)), (19, 1, (-1)), (17, 1, (-1)), (15, 1, (-1)), (12, 1, (-1)), (10, 1, (-1)), (8, 1, (-1)), (6, 1, (-1)), (4, 1, (-1)), (2, 1, (-1))]) (hp138.trans (gf_ups_ups _ _ _)) ?_
  refine gf_aast C rfl gf_cl5 dd_Fi_init_141 (show gf_is 41 31 4 5 3 by decide) (show gf_is 41 38 0 5 5 by decide) (by decide) ?_
  refine gf_ph (φ' := (40, 700, 41, gf_ups ρ [(31, 2, 38), (38, 3, 40), (38, 0, 39), (31, 1, 35), (35, 3, 37), (35, 0, 36), (31, 0, 32), (32, 3, 34), (32, 0, 33), (0, 5, 31), (23, 6, 30), (23, 5, 29), (23, 4, 28), (23, 3, 27), (23, 2, 26), (23, 1, 25), (23, 0, 24), (0, 2, 23), (14, 3, 21), (21, 0, 22), (14, 2, 19), (19, 0, 20), (14, 1, 17), (17, 0, 18), (14, 0, 15), (15, 0, 16), (0, 1, 14), (1, 5, 12), (12, 0, 13), (1, 4, 10), (10, 0, 11), (1, 3, 8), (8, 0, 9), (1, 2, 6), (6, 0, 7), (1, 1, 4), (4, 0, 5), (1, 0, 2), (2, 0, 3), (0, 0, 1)])) rfl ?_
  refine gf_iinc (q := 0) (v := 3) (lv' := [(1, .int (gf_i 3)), (0, .ref (gf_ad E 0))]) C dd_Fi_init_142 rfl (show (3 : Int) = 2 + 1 by decide) (by decide) rfl ?_
  refine gf_goto 124 C dd_Fi_init_145 (by decide) ?_
  refine gf_iload_n C dd_Fi_init_124 0 rfl ?_
  refine gf_iconst C dd_Fi_init_125 ?_
  refine gf_icmp_ge 148 C dd_Fi_init_126 (by decide) (by decide) (by decide) (fun h126 => ?_) (fun h126 => absurd (by decide) h126)
  refine gf_aload_n C dd_Fi_init_148 1 rfl ?_
  refine gf_newO (k := 41) rfl C gf_cl5 gf_ty5 (by decide +kernel) ⟨gf_mem 135 (by decide +kernel) (by decide +kernel), gf_mem 137 (by decide +kernel) (by decide +kernel), gf_mem 75 (by decide +kernel) (by decide +kernel)⟩ dd_Fi_init_149 (by decide) (Nat.le_of_ble_eq_true rfl) (fun j => (gf_ups_new rfl).trans (hμ _ _ (by decide))) (fun j => (gf_ups_new rfl).trans (hρ _ _ (by decide))) ⟨Nat.le_of_ble_eq_true rfl, Nat.le_of_ble_eq_true rfl⟩ ?_
  refine gf_ph (φ' := (41, 705, 42, gf_ups ρ [(31, 2, 38), (38, 3, 40), (38, 0, 39), (31, 1, 35), (35, 3, 37), (35, 0, 36), (31, 0, 32), (32, 3, 34), (32, 0, 33), (0, 5, 31), (23, 6, 30), (23, 5, 29), (23, 4, 28), (23, 3, 27), (23, 2, 26), (23, 1, 25), (23, 0, 24), (0, 2, 23), (14, 3, 21), (21, 0, 22), (14, 2, 19), (19, 0, 20), (14, 1, 17), (17, 0, 18), (14, 0, 15), (15, 0, 16), (0, 1, 14), (1, 5, 12), (12, 0, 13), (1, 4, 10), (10, 0, 11), (1, 3, 8), (8, 0, 9), (1, 2, 6), (6, 0, 7), (1, 1, 4), (4, 0, 5), (1, 0, 2), (2, 0, 3), (0, 0, 1)])) rfl ?_
  refine gf_dup C dd_Fi_init_152 rfl ?_
  refine gf_callI (st := [.ref (gf_ad E 41), .ref (gf_ad E 0)]) (As := []) C hO wk_Fi_34 (ct_Wr_init_41 (gf_xl X) E (gf_ups ρ [(31, 2, 38), (38, 3, 40), (38, 0, 39), (31, 1, 35), (35, 3, 37), (35, 0, 36), (31, 0, 32), (32, 3, 34), (32, 0, 33), (0, 5, 31), (23, 6, 30), (23, 5, 29), (23, 4, 28), (23, 3, 27), (23, 2, 26), (23, 1, 25), (23, 0, 24), (0, 2, 23), (14, 3, 21), (21, 0, 22), (14, 2, 19), (19, 0, 20), (14, 1, 17), (17, 0, 18), (14, 0, 15), (15, 0, 16), (0, 1, 14), (1, 5, 12), (12, 0, 13), (1, 4, 10), (10, 0, 11), (1, 3, 8), (8, 0, 9), (1, 2, 6), (6, 0, 7), (1, 1, 4), (4, 0, 5), (1, 0, 2), (2, 0, 3), (0, 0, 1)]) (gf_ups μ [(21, 1, (-1)), (19, 1, (-1)), (17, 1, (-1)), (15, 1, (-1)), (12, 1, (-1)), (10, 1, (-1)), (8, 1, (-1)), (6, 1, (-1)), (4, 1, (-1)), (2, 1, (-1))]) (gf_z_ups hμ rfl) (gf_n_ups hρ rfl)) rfl ⟨rfl, rfl⟩ ⟨Nat.le_of_ble_eq_true rfl, Nat.le_of_ble_eq_true rfl⟩ (Nat.le_of_ble_eq_true rfl) rfl dd_Fi_init_153 (fun m153 hp153 => ?_)
  refine gf_phU (a' := 43) (b' := 753) (L' := [(41, 3, 43), (41, 0, 42), (31, 2, 38), (38, 3, 40), (38, 0, 39), (31, 1, 35), (35, 3, 37), (35, 0, 36), (31, 0, 32), (32, 3, 34), (32, 0, 33), (0, 5, 31), (23, 6, 30), (23, 5, 29), (23, 4, 28), (23, 3, 27), (23, 2, 26), (23, 1, 25), (23, 0, 24), (0, 2, 23), (14, 3, 21), (21, 0, 22), (14, 2, 19), (19, 0, 20), (14, 1, 17), (17, 0, 18), (14, 0, 15), (15, 0, 16), (0, 1, 14), (1, 5, 12), (12, 0, 13), (1, 4, 10), (10, 0, 11), (1, 3, 8), (8, 0, 9), (1, 2, 6), (6, 0, 7), (1, 1, 4), (4, 0, 5), (1, 0, 2), (2, 0, 3), (0, 0, 1)]) rfl rfl rfl ?_
  refine gf_pm (μ := gf_ups μ [(21, 1, (-1)), (19, 1, (-1)), (17, 1, (-1)), (15, 1, (-1)), (12, 1, (-1)), (10, 1, (-1)), (8, 1, (-1)), (6, 1, (-1)), (4, 1, (-1)), (2, 1, (-1))]) (hp153.trans (gf_ups_ups _ _ _)) ?_
  refine gf_putF (z := 4) (ty := .object "GuardFigures$Writing") C hname gf_cl6 fl_Fi_35 dd_Fi_init_156 rfl rfl rfl rfl (by decide +kernel) (fun _ => ⟨rfl, rfl⟩) (show gf_is 44 0 0 6 17 by decide) (by decide) ?_
  refine gf_ph (φ' := (43, 753, 44, gf_ups ρ [(0, 4, 41), (41, 3, 43), (41, 0, 42), (31, 2, 38), (38, 3, 40), (38, 0, 39), (31, 1, 35), (35, 3, 37), (35, 0, 36), (31, 0, 32), (32, 3, 34), (32, 0, 33), (0, 5, 31), (23, 6, 30), (23, 5, 29), (23, 4, 28), (23, 3, 27), (23, 2, 26), (23, 1, 25), (23, 0, 24), (0, 2, 23), (14, 3, 21), (21, 0, 22), (14, 2, 19), (19, 0, 20), (14, 1, 17), (17, 0, 18), (14, 0, 15), (15, 0, 16), (0, 1, 14), (1, 5, 12), (12, 0, 13), (1, 4, 10), (10, 0, 11), (1, 3, 8), (8, 0, 9), (1, 2, 6), (6, 0, 7), (1, 1, 4), (4, 0, 5), (1, 0, 2), (2, 0, 3), (0, 0, 1)])) rfl ?_
  refine gf_aload_n C dd_Fi_init_159 1 rfl ?_
  refine gf_newO (k := 44) rfl C gf_cl2 gf_ty2 (by decide +kernel) ⟨gf_mem 165 (by decide +kernel) (by decide +kernel), gf_mem 166 (by decide +kernel) (by decide +kernel), gf_mem 76 (by decide +kernel) (by decide +kernel)⟩ dd_Fi_init_160 (by decide) (Nat.le_of_ble_eq_true rfl) (fun j => (gf_ups_new rfl).trans (hμ _ _ (by decide))) (fun j => (gf_ups_new rfl).trans (hρ _ _ (by decide))) ⟨Nat.le_of_ble_eq_true rfl, Nat.le_of_ble_eq_true rfl⟩ ?_
  refine gf_ph (φ' := (44, 755, 45, gf_ups ρ [(0, 4, 41), (41, 3, 43), (41, 0, 42), (31, 2, 38), (38, 3, 40), (38, 0, 39), (31, 1, 35), (35, 3, 37), (35, 0, 36), (31, 0, 32), (32, 3, 34), (32, 0, 33), (0, 5, 31), (23, 6, 30), (23, 5, 29), (23, 4, 28), (23, 3, 27), (23, 2, 26), (23, 1, 25), (23, 0, 24), (0, 2, 23), (14, 3, 21), (21, 0, 22), (14, 2, 19), (19, 0, 20), (14, 1, 17), (17, 0, 18), (14, 0, 15), (15, 0, 16), (0, 1, 14), (1, 5, 12), (12, 0, 13), (1, 4, 10), (10, 0, 11), (1, 3, 8), (8, 0, 9), (1, 2, 6), (6, 0, 7), (1, 1, 4), (4, 0, 5), (1, 0, 2), (2, 0, 3), (0, 0, 1)])) rfl ?_
  refine gf_dup C dd_Fi_init_163 rfl ?_
  refine gf_callI (st := [.ref (gf_ad E 44), .ref (gf_ad E 0)]) (As := []) C hO wk_Fi_41 (ct_Re_init_44 (gf_xl X) E (gf_ups ρ [(0, 4, 41), (41, 3, 43), (41, 0, 42), (31, 2, 38), (38, 3, 40), (38, 0, 39), (31, 1, 35), (35, 3, 37), (35, 0, 36), (31, 0, 32), (32, 3, 34), (32, 0, 33), (0, 5, 31), (23, 6, 30), (23, 5, 29), (23, 4, 28), (23, 3, 27), (23, 2, 26), (23, 1, 25), (23, 0, 24), (0, 2, 23), (14, 3, 21), (21, 0, 22), (14, 2, 19), (19, 0, 20), (14, 1, 17), (17, 0, 18), (14, 0, 15), (15, 0, 16), (0, 1, 14), (1, 5, 12), (12, 0, 13), (1, 4, 10), (10, 0, 11), (1, 3, 8), (8, 0, 9), (1, 2, 6), (6, 0, 7), (1, 1, 4), (4, 0, 5), (1, 0, 2), (2, 0, 3), (0, 0, 1)]) (gf_ups μ [(21, 1, (-1)), (19, 1, (-1)), (17, 1, (-1)), (15, 1, (-1)), (12, 1, (-1)), (10, 1, (-1)), (8, 1, (-1)), (6, 1, (-1)), (4, 1, (-1)), (2, 1, (-1))]) (gf_z_ups hμ rfl) (gf_n_ups hρ rfl)) rfl ⟨rfl, rfl⟩ ⟨Nat.le_of_ble_eq_true rfl, Nat.le_of_ble_eq_true rfl⟩ (Nat.le_of_ble_eq_true rfl) rfl dd_Fi_init_164 (fun m164 hp164 => ?_)
  refine gf_phU (a' := 52) (b' := 783) (L' := [(45, 6, 52), (45, 5, 51), (45, 4, 50), (45, 3, 49), (45, 2, 48), (45, 1, 47), (45, 0, 46), (44, 0, 45), (0, 4, 41), (41, 3, 43), (41, 0, 42), (31, 2, 38), (38, 3, 40), (38, 0, 39), (31, 1, 35), (35, 3, 37), (35, 0, 36), (31, 0, 32), (32, 3, 34), (32, 0, 33), (0, 5, 31), (23, 6, 30), (23, 5, 29), (23, 4, 28), (23, 3, 27), (23, 2, 26), (23, 1, 25), (23, 0, 24), (0, 2, 23), (14, 3, 21), (21, 0, 22), (14, 2, 19), (19, 0, 20), (14, 1, 17), (17, 0, 18), (14, 0, 15), (15, 0, 16), (0, 1, 14), (1, 5, 12), (12, 0, 13), (1, 4, 10), (10, 0, 11), (1, 3, 8), (8, 0, 9), (1, 2, 6), (6, 0, 7), (1, 1, 4), (4, 0, 5), (1, 0, 2), (2, 0, 3), (0, 0, 1)]) rfl rfl rfl ?_
  refine gf_pm (μ := gf_ups μ [(21, 1, (-1)), (19, 1, (-1)), (17, 1, (-1)), (15, 1, (-1)), (12, 1, (-1)), (10, 1, (-1)), (8, 1, (-1)), (6, 1, (-1)), (4, 1, (-1)), (2, 1, (-1))]) (hp164.trans (gf_ups_ups _ _ _)) ?_
  refine gf_putF (z := 6) (ty := .object "GuardFigures$Reader") C hname gf_cl6 fl_Fi_42 dd_Fi_init_167 rfl rfl rfl rfl (by decide +kernel) (fun _ => ⟨rfl, rfl⟩) (show gf_is 53 0 0 6 17 by decide) (by decide) ?_
  refine gf_ph (φ' := (52, 783, 53, gf_ups ρ [(0, 6, 44), (45, 6, 52), (45, 5, 51), (45, 4, 50), (45, 3, 49), (45, 2, 48), (45, 1, 47), (45, 0, 46), (44, 0, 45), (0, 4, 41), (41, 3, 43), (41, 0, 42), (31, 2, 38), (38, 3, 40), (38, 0, 39), (31, 1, 35), (35, 3, 37), (35, 0, 36), (31, 0, 32), (32, 3, 34), (32, 0, 33), (0, 5, 31), (23, 6, 30), (23, 5, 29), (23, 4, 28), (23, 3, 27), (23, 2, 26), (23, 1, 25), (23, 0, 24), (0, 2, 23), (14, 3, 21), (21, 0, 22), (14, 2, 19), (19, 0, 20), (14, 1, 17), (17, 0, 18), (14, 0, 15), (15, 0, 16), (0, 1, 14), (1, 5, 12), (12, 0, 13), (1, 4, 10), (10, 0, 11), (1, 3, 8), (8, 0, 9), (1, 2, 6), (6, 0, 7), (1, 1, 4), (4, 0, 5), (1, 0, 2), (2, 0, 3), (0, 0, 1)])) rfl ?_
  refine gf_aload_n C dd_Fi_init_170 1 rfl ?_
  refine gf_newO (k := 53) rfl C gf_cl4 gf_ty4 (by decide +kernel) ⟨gf_mem 182 (by decide +kernel) (by decide +kernel), gf_mem 183 (by decide +kernel) (by decide +kernel), gf_mem 77 (by decide +kernel) (by decide +kernel)⟩ dd_Fi_init_171 (by decide) (Nat.le_of_ble_eq_true rfl) (fun j => (gf_ups_new rfl).trans (hμ _ _ (by decide))) (fun j => (gf_ups_new rfl).trans (hρ _ _ (by decide))) ⟨Nat.le_of_ble_eq_true rfl, Nat.le_of_ble_eq_true rfl⟩ ?_
  refine gf_ph (φ' := (53, 789, 54, gf_ups ρ [(0, 6, 44), (45, 6, 52), (45, 5, 51), (45, 4, 50), (45, 3, 49), (45, 2, 48), (45, 1, 47), (45, 0, 46), (44, 0, 45), (0, 4, 41), (41, 3, 43), (41, 0, 42), (31, 2, 38), (38, 3, 40), (38, 0, 39), (31, 1, 35), (35, 3, 37), (35, 0, 36), (31, 0, 32), (32, 3, 34), (32, 0, 33), (0, 5, 31), (23, 6, 30), (23, 5, 29), (23, 4, 28), (23, 3, 27), (23, 2, 26), (23, 1, 25), (23, 0, 24), (0, 2, 23), (14, 3, 21), (21, 0, 22), (14, 2, 19), (19, 0, 20), (14, 1, 17), (17, 0, 18), (14, 0, 15), (15, 0, 16), (0, 1, 14), (1, 5, 12), (12, 0, 13), (1, 4, 10), (10, 0, 11), (1, 3, 8), (8, 0, 9), (1, 2, 6), (6, 0, 7), (1, 1, 4), (4, 0, 5), (1, 0, 2), (2, 0, 3), (0, 0, 1)])) rfl ?_
  refine gf_dup C dd_Fi_init_174 rfl ?_
  refine gf_callI (st := [.ref (gf_ad E 53), .ref (gf_ad E 0)]) (As := []) C hO wk_Fi_48 (ct_Wa_init_53 (gf_xl X) E (gf_ups ρ [(0, 6, 44), (45, 6, 52), (45, 5, 51), (45, 4, 50), (45, 3, 49), (45, 2, 48), (45, 1, 47), (45, 0, 46), (44, 0, 45), (0, 4, 41), (41, 3, 43), (41, 0, 42), (31, 2, 38), (38, 3, 40), (38, 0, 39), (31, 1, 35), (35, 3, 37), (35, 0, 36), (31, 0, 32), (32, 3, 34), (32, 0, 33), (0, 5, 31), (23, 6, 30), (23, 5, 29), (23, 4, 28), (23, 3, 27), (23, 2, 26), (23, 1, 25), (23, 0, 24), (0, 2, 23), (14, 3, 21), (21, 0, 22), (14, 2, 19), (19, 0, 20), (14, 1, 17), (17, 0, 18), (14, 0, 15), (15, 0, 16), (0, 1, 14), (1, 5, 12), (12, 0, 13), (1, 4, 10), (10, 0, 11), (1, 3, 8), (8, 0, 9), (1, 2, 6), (6, 0, 7), (1, 1, 4), (4, 0, 5), (1, 0, 2), (2, 0, 3), (0, 0, 1)]) (gf_ups μ [(21, 1, (-1)), (19, 1, (-1)), (17, 1, (-1)), (15, 1, (-1)), (12, 1, (-1)), (10, 1, (-1)), (8, 1, (-1)), (6, 1, (-1)), (4, 1, (-1)), (2, 1, (-1))]) (gf_z_ups hμ rfl) (gf_n_ups hρ rfl)) rfl ⟨rfl, rfl⟩ ⟨Nat.le_of_ble_eq_true rfl, Nat.le_of_ble_eq_true rfl⟩ (Nat.le_of_ble_eq_true rfl) rfl dd_Fi_init_175 (fun m175 hp175 => ?_)
  refine gf_phU (a' := 58) (b' := 983) (L' := [(53, 5, 58), (53, 4, 57), (53, 3, 56), (53, 1, 55), (53, 0, 54), (0, 6, 44), (45, 6, 52), (45, 5, 51), (45, 4, 50), (45, 3, 49), (45, 2, 48), (45, 1, 47), (45, 0, 46), (44, 0, 45), (0, 4, 41), (41, 3, 43), (41, 0, 42), (31, 2, 38), (38, 3, 40), (38, 0, 39), (31, 1, 35), (35, 3, 37), (35, 0, 36), (31, 0, 32), (32, 3, 34), (32, 0, 33), (0, 5, 31), (23, 6, 30), (23, 5, 29), (23, 4, 28), (23, 3, 27), (23, 2, 26), (23, 1, 25), (23, 0, 24), (0, 2, 23), (14, 3, 21), (21, 0, 22), (14, 2, 19), (19, 0, 20), (14, 1, 17), (17, 0, 18), (14, 0, 15), (15, 0, 16), (0, 1, 14), (1, 5, 12), (12, 0, 13), (1, 4, 10), (10, 0, 11), (1, 3, 8), (8, 0, 9), (1, 2, 6), (6, 0, 7), (1, 1, 4), (4, 0, 5), (1, 0, 2), (2, 0, 3), (0, 0, 1)]) rfl rfl rfl ?_
  refine gf_pm (μ := gf_ups μ [(21, 1, (-1)), (19, 1, (-1)), (17, 1, (-1)), (15, 1, (-1)), (12, 1, (-1)), (10, 1, (-1)), (8, 1, (-1)), (6, 1, (-1)), (4, 1, (-1)), (2, 1, (-1))]) (hp175.trans (gf_ups_ups _ _ _)) ?_
  refine gf_putF (z := 7) (ty := .object "GuardFigures$Watch") C hname gf_cl6 fl_Fi_49 dd_Fi_init_178 rfl rfl rfl rfl (by decide +kernel) (fun _ => ⟨rfl, rfl⟩) (show gf_is 59 0 0 6 17 by decide) (by decide) ?_
  refine gf_ph (φ' := (58, 983, 59, gf_ups ρ [(0, 7, 53), (53, 5, 58), (53, 4, 57), (53, 3, 56), (53, 1, 55), (53, 0, 54), (0, 6, 44), (45, 6, 52), (45, 5, 51), (45, 4, 50), (45, 3, 49), (45, 2, 48), (45, 1, 47), (45, 0, 46), (44, 0, 45), (0, 4, 41), (41, 3, 43), (41, 0, 42), (31, 2, 38), (38, 3, 40), (38, 0, 39), (31, 1, 35), (35, 3, 37), (35, 0, 36), (31, 0, 32), (32, 3, 34), (32, 0, 33), (0, 5, 31), (23, 6, 30), (23, 5, 29), (23, 4, 28), (23, 3, 27), (23, 2, 26), (23, 1, 25), (23, 0, 24), (0, 2, 23), (14, 3, 21), (21, 0, 22), (14, 2, 19), (19, 0, 20), (14, 1, 17), (17, 0, 18), (14, 0, 15), (15, 0, 16), (0, 1, 14), (1, 5, 12), (12, 0, 13), (1, 4, 10), (10, 0, 11), (1, 3, 8), (8, 0, 9), (1, 2, 6), (6, 0, 7), (1, 1, 4), (4, 0, 5), (1, 0, 2), (2, 0, 3), (0, 0, 1)])) rfl ?_
  refine gf_aload_n C dd_Fi_init_181 1 rfl ?_
  refine gf_newO (k := 59) rfl C gf_cl1 gf_ty1 (by decide +kernel) ⟨gf_mem 208 (by decide +kernel) (by decide +kernel), gf_mem 209 (by decide +kernel) (by decide +kernel), gf_mem 78 (by decide +kernel) (by decide +kernel)⟩ dd_Fi_init_182 (by decide) (Nat.le_of_ble_eq_true rfl) (fun j => (gf_ups_new rfl).trans (hμ _ _ (by decide))) (fun j => (gf_ups_new rfl).trans (hρ _ _ (by decide))) ⟨Nat.le_of_ble_eq_true rfl, Nat.le_of_ble_eq_true rfl⟩ ?_
  refine gf_ph (φ' := (59, 985, 60, gf_ups ρ [(0, 7, 53), (53, 5, 58), (53, 4, 57), (53, 3, 56), (53, 1, 55), (53, 0, 54), (0, 6, 44), (45, 6, 52), (45, 5, 51), (45, 4, 50), (45, 3, 49), (45, 2, 48), (45, 1, 47), (45, 0, 46), (44, 0, 45), (0, 4, 41), (41, 3, 43), (41, 0, 42), (31, 2, 38), (38, 3, 40), (38, 0, 39), (31, 1, 35), (35, 3, 37), (35, 0, 36), (31, 0, 32), (32, 3, 34), (32, 0, 33), (0, 5, 31), (23, 6, 30), (23, 5, 29), (23, 4, 28), (23, 3, 27), (23, 2, 26), (23, 1, 25), (23, 0, 24), (0, 2, 23), (14, 3, 21), (21, 0, 22), (14, 2, 19), (19, 0, 20), (14, 1, 17), (17, 0, 18), (14, 0, 15), (15, 0, 16), (0, 1, 14), (1, 5, 12), (12, 0, 13), (1, 4, 10), (10, 0, 11), (1, 3, 8), (8, 0, 9), (1, 2, 6), (6, 0, 7), (1, 1, 4), (4, 0, 5), (1, 0, 2), (2, 0, 3), (0, 0, 1)])) rfl ?_
  refine gf_dup C dd_Fi_init_185 rfl ?_
  refine gf_callI (st := [.ref (gf_ad E 59), .ref (gf_ad E 0)]) (As := []) C hO wk_Fi_55 (ct_Ou_init_59 (gf_xl X) E (gf_ups ρ [(0, 7, 53), (53, 5, 58), (53, 4, 57), (53, 3, 56), (53, 1, 55), (53, 0, 54), (0, 6, 44), (45, 6, 52), (45, 5, 51), (45, 4, 50), (45, 3, 49), (45, 2, 48), (45, 1, 47), (45, 0, 46), (44, 0, 45), (0, 4, 41), (41, 3, 43), (41, 0, 42), (31, 2, 38), (38, 3, 40), (38, 0, 39), (31, 1, 35), (35, 3, 37), (35, 0, 36), (31, 0, 32), (32, 3, 34), (32, 0, 33), (0, 5, 31), (23, 6, 30), (23, 5, 29), (23, 4, 28), (23, 3, 27), (23, 2, 26), (23, 1, 25), (23, 0, 24), (0, 2, 23), (14, 3, 21), (21, 0, 22), (14, 2, 19), (19, 0, 20), (14, 1, 17), (17, 0, 18), (14, 0, 15), (15, 0, 16), (0, 1, 14), (1, 5, 12), (12, 0, 13), (1, 4, 10), (10, 0, 11), (1, 3, 8), (8, 0, 9), (1, 2, 6), (6, 0, 7), (1, 1, 4), (4, 0, 5), (1, 0, 2), (2, 0, 3), (0, 0, 1)]) (gf_ups μ [(21, 1, (-1)), (19, 1, (-1)), (17, 1, (-1)), (15, 1, (-1)), (12, 1, (-1)), (10, 1, (-1)), (8, 1, (-1)), (6, 1, (-1)), (4, 1, (-1)), (2, 1, (-1))]) (gf_z_ups hμ rfl) (gf_n_ups hρ rfl)) rfl ⟨rfl, rfl⟩ ⟨Nat.le_of_ble_eq_true rfl, Nat.le_of_ble_eq_true rfl⟩ (Nat.le_of_ble_eq_true rfl) rfl dd_Fi_init_186 (fun m186 hp186 => ?_)
  refine gf_phU (a' := 60) (b' := 1084) (L' := [(59, 0, 60), (0, 7, 53), (53, 5, 58), (53, 4, 57), (53, 3, 56), (53, 1, 55), (53, 0, 54), (0, 6, 44), (45, 6, 52), (45, 5, 51), (45, 4, 50), (45, 3, 49), (45, 2, 48), (45, 1, 47), (45, 0, 46), (44, 0, 45), (0, 4, 41), (41, 3, 43), (41, 0, 42), (31, 2, 38), (38, 3, 40), (38, 0, 39), (31, 1, 35), (35, 3, 37), (35, 0, 36), (31, 0, 32), (32, 3, 34), (32, 0, 33), (0, 5, 31), (23, 6, 30), (23, 5, 29), (23, 4, 28), (23, 3, 27), (23, 2, 26), (23, 1, 25), (23, 0, 24), (0, 2, 23), (14, 3, 21), (21, 0, 22), (14, 2, 19), (19, 0, 20), (14, 1, 17), (17, 0, 18), (14, 0, 15), (15, 0, 16), (0, 1, 14), (1, 5, 12), (12, 0, 13), (1, 4, 10), (10, 0, 11), (1, 3, 8), (8, 0, 9), (1, 2, 6), (6, 0, 7), (1, 1, 4), (4, 0, 5), (1, 0, 2), (2, 0, 3), (0, 0, 1)]) rfl rfl rfl ?_
  refine gf_pm (μ := gf_ups μ [(21, 1, (-1)), (19, 1, (-1)), (17, 1, (-1)), (15, 1, (-1)), (12, 1, (-1)), (10, 1, (-1)), (8, 1, (-1)), (6, 1, (-1)), (4, 1, (-1)), (2, 1, (-1))]) (hp186.trans (gf_ups_ups _ _ _)) ?_
  refine gf_putF (z := 8) (ty := .object "GuardFigures$Outlook") C hname gf_cl6 fl_Fi_56 dd_Fi_init_189 rfl rfl rfl rfl (by decide +kernel) (fun _ => ⟨rfl, rfl⟩) (show gf_is 61 0 0 6 17 by decide) (by decide) ?_
  refine gf_ph (φ' := (60, 1084, 61, gf_ups ρ [(0, 8, 59), (59, 0, 60), (0, 7, 53), (53, 5, 58), (53, 4, 57), (53, 3, 56), (53, 1, 55), (53, 0, 54), (0, 6, 44), (45, 6, 52), (45, 5, 51), (45, 4, 50), (45, 3, 49), (45, 2, 48), (45, 1, 47), (45, 0, 46), (44, 0, 45), (0, 4, 41), (41, 3, 43), (41, 0, 42), (31, 2, 38), (38, 3, 40), (38, 0, 39), (31, 1, 35), (35, 3, 37), (35, 0, 36), (31, 0, 32), (32, 3, 34), (32, 0, 33), (0, 5, 31), (23, 6, 30), (23, 5, 29), (23, 4, 28), (23, 3, 27), (23, 2, 26), (23, 1, 25), (23, 0, 24), (0, 2, 23), (14, 3, 21), (21, 0, 22), (14, 2, 19), (19, 0, 20), (14, 1, 17), (17, 0, 18), (14, 0, 15), (15, 0, 16), (0, 1, 14), (1, 5, 12), (12, 0, 13), (1, 4, 10), (10, 0, 11), (1, 3, 8), (8, 0, 9), (1, 2, 6), (6, 0, 7), (1, 1, 4), (4, 0, 5), (1, 0, 2), (2, 0, 3), (0, 0, 1)])) rfl ?_
  refine gf_aload_n C dd_Fi_init_192 1 rfl ?_
  refine gf_newO (k := 61) rfl C gf_cl0 gf_ty0 (by decide +kernel) ⟨gf_mem 112 (by decide +kernel) (by decide +kernel), gf_mem 114 (by decide +kernel) (by decide +kernel), gf_mem 74 (by decide +kernel) (by decide +kernel)⟩ dd_Fi_init_193 (by decide) (Nat.le_of_ble_eq_true rfl) (fun j => (gf_ups_new rfl).trans (hμ _ _ (by decide))) (fun j => (gf_ups_new rfl).trans (hρ _ _ (by decide))) ⟨Nat.le_of_ble_eq_true rfl, Nat.le_of_ble_eq_true rfl⟩ ?_
  refine gf_ph (φ' := (61, 1087, 62, gf_ups ρ [(0, 8, 59), (59, 0, 60), (0, 7, 53), (53, 5, 58), (53, 4, 57), (53, 3, 56), (53, 1, 55), (53, 0, 54), (0, 6, 44), (45, 6, 52), (45, 5, 51), (45, 4, 50), (45, 3, 49), (45, 2, 48), (45, 1, 47), (45, 0, 46), (44, 0, 45), (0, 4, 41), (41, 3, 43), (41, 0, 42), (31, 2, 38), (38, 3, 40), (38, 0, 39), (31, 1, 35), (35, 3, 37), (35, 0, 36), (31, 0, 32), (32, 3, 34), (32, 0, 33), (0, 5, 31), (23, 6, 30), (23, 5, 29), (23, 4, 28), (23, 3, 27), (23, 2, 26), (23, 1, 25), (23, 0, 24), (0, 2, 23), (14, 3, 21), (21, 0, 22), (14, 2, 19), (19, 0, 20), (14, 1, 17), (17, 0, 18), (14, 0, 15), (15, 0, 16), (0, 1, 14), (1, 5, 12), (12, 0, 13), (1, 4, 10), (10, 0, 11), (1, 3, 8), (8, 0, 9), (1, 2, 6), (6, 0, 7), (1, 1, 4), (4, 0, 5), (1, 0, 2), (2, 0, 3), (0, 0, 1)])) rfl ?_
  refine gf_dup C dd_Fi_init_196 rfl ?_
  refine gf_callIN (st := [.ref (gf_ad E 61), .ref (gf_ad E 0)]) (As := []) C hO gf_kGdi C.2.2.2.2.2.2.1.2.2.2.2.2.2.1 (ct_Gd_init (gf_xl X) E 61 62 (gf_ups ρ [(0, 8, 59), (59, 0, 60), (0, 7, 53), (53, 5, 58), (53, 4, 57), (53, 3, 56), (53, 1, 55), (53, 0, 54), (0, 6, 44), (45, 6, 52), (45, 5, 51), (45, 4, 50), (45, 3, 49), (45, 2, 48), (45, 1, 47), (45, 0, 46), (44, 0, 45), (0, 4, 41), (41, 3, 43), (41, 0, 42), (31, 2, 38), (38, 3, 40), (38, 0, 39), (31, 1, 35), (35, 3, 37), (35, 0, 36), (31, 0, 32), (32, 3, 34), (32, 0, 33), (0, 5, 31), (23, 6, 30), (23, 5, 29), (23, 4, 28), (23, 3, 27), (23, 2, 26), (23, 1, 25), (23, 0, 24), (0, 2, 23), (14, 3, 21), (21, 0, 22), (14, 2, 19), (19, 0, 20), (14, 1, 17), (17, 0, 18), (14, 0, 15), (15, 0, 16), (0, 1, 14), (1, 5, 12), (12, 0, 13), (1, 4, 10), (10, 0, 11), (1, 3, 8), (8, 0, 9), (1, 2, 6), (6, 0, 7), (1, 1, 4), (4, 0, 5), (1, 0, 2), (2, 0, 3), (0, 0, 1)]) (gf_ups μ [(21, 1, (-1)), (19, 1, (-1)), (17, 1, (-1)), (15, 1, (-1)), (12, 1, (-1)), (10, 1, (-1)), (8, 1, (-1)), (6, 1, (-1)), (4, 1, (-1)), (2, 1, (-1))]) (by decide)) rfl ⟨rfl, rfl⟩ ⟨Nat.le_of_ble_eq_true rfl, Nat.le_of_ble_eq_true rfl⟩ (Nat.le_of_ble_eq_true rfl) rfl dd_Fi_init_197 (fun m197 hp197 => ?_)
  refine gf_ph (φ' := (61, 1087, 62, gf_ups ρ [(0, 8, 59), (59, 0, 60), (0, 7, 53), (53, 5, 58), (53, 4, 57), (53, 3, 56), (53, 1, 55), (53, 0, 54), (0, 6, 44), (45, 6, 52), (45, 5, 51), (45, 4, 50), (45, 3, 49), (45, 2, 48), (45, 1, 47), (45, 0, 46), (44, 0, 45), (0, 4, 41), (41, 3, 43), (41, 0, 42), (31, 2, 38), (38, 3, 40), (38, 0, 39), (31, 1, 35), (35, 3, 37), (35, 0, 36), (31, 0, 32), (32, 3, 34), (32, 0, 33), (0, 5, 31), (23, 6, 30), (23, 5, 29), (23, 4, 28), (23, 3, 27), (23, 2, 26), (23, 1, 25), (23, 0, 24), (0, 2, 23), (14, 3, 21), (21, 0, 22), (14, 2, 19), (19, 0, 20), (14, 1, 17), (17, 0, 18), (14, 0, 15), (15, 0, 16), (0, 1, 14), (1, 5, 12), (12, 0, 13), (1, 4, 10), (10, 0, 11), (1, 3, 8), (8, 0, 9), (1, 2, 6), (6, 0, 7), (1, 1, 4), (4, 0, 5), (1, 0, 2), (2, 0, 3), (0, 0, 1)])) rfl ?_
  refine gf_pm hp197 ?_
  refine gf_putF (z := 9) (ty := .object "GuardFigures$Guard") C hname gf_cl6 fl_Fi_60 dd_Fi_init_200 rfl rfl rfl rfl (by decide +kernel) (fun _ => ⟨rfl, rfl⟩) (show gf_is 62 0 0 6 17 by decide) (by decide) ?_
  refine gf_ph (φ' := (61, 1087, 62, gf_ups ρ [(0, 9, 61), (0, 8, 59), (59, 0, 60), (0, 7, 53), (53, 5, 58), (53, 4, 57), (53, 3, 56), (53, 1, 55), (53, 0, 54), (0, 6, 44), (45, 6, 52), (45, 5, 51), (45, 4, 50), (45, 3, 49), (45, 2, 48), (45, 1, 47), (45, 0, 46), (44, 0, 45), (0, 4, 41), (41, 3, 43), (41, 0, 42), (31, 2, 38), (38, 3, 40), (38, 0, 39), (31, 1, 35), (35, 3, 37), (35, 0, 36), (31, 0, 32), (32, 3, 34), (32, 0, 33), (0, 5, 31), (23, 6, 30), (23, 5, 29), (23, 4, 28), (23, 3, 27), (23, 2, 26), (23, 1, 25), (23, 0, 24), (0, 2, 23), (14, 3, 21), (21, 0, 22), (14, 2, 19), (19, 0, 20), (14, 1, 17), (17, 0, 18), (14, 0, 15), (15, 0, 16), (0, 1, 14), (1, 5, 12), (12, 0, 13), (1, 4, 10), (10, 0, 11), (1, 3, 8), (8, 0, 9), (1, 2, 6), (6, 0, 7), (1, 1, 4), (4, 0, 5), (1, 0, 2), (2, 0, 3), (0, 0, 1)])) rfl ?_
  refine gf_aload_n C dd_Fi_init_203 1 rfl ?_
  refine gf_bipush C dd_Fi_init_204 (by decide +kernel) ?_
  refine gf_newIk (N := 8) (k := 62) (cA0 := 0) rfl C (gf_mem 111 (by decide +kernel) (by decide +kernel)) dd_Fi_init_206 (by decide) (by decide) (by decide) (Nat.le_of_ble_eq_true rfl) (fun j => (gf_ups_new rfl).trans (hμ _ _ (by decide))) ⟨Nat.le_of_ble_eq_true rfl, Nat.le_of_ble_eq_true rfl⟩ ?_
  refine gf_ph (φ' := (62, 1095, 63, gf_ups ρ [(0, 9, 61), (0, 8, 59), (59, 0, 60), (0, 7, 53), (53, 5, 58), (53, 4, 57), (53, 3, 56), (53, 1, 55), (53, 0, 54), (0, 6, 44), (45, 6, 52), (45, 5, 51), (45, 4, 50), (45, 3, 49), (45, 2, 48), (45, 1, 47), (45, 0, 46), (44, 0, 45), (0, 4, 41), (41, 3, 43), (41, 0, 42), (31, 2, 38), (38, 3, 40), (38, 0, 39), (31, 1, 35), (35, 3, 37), (35, 0, 36), (31, 0, 32), (32, 3, 34), (32, 0, 33), (0, 5, 31), (23, 6, 30), (23, 5, 29), (23, 4, 28), (23, 3, 27), (23, 2, 26), (23, 1, 25), (23, 0, 24), (0, 2, 23), (14, 3, 21), (21, 0, 22), (14, 2, 19), (19, 0, 20), (14, 1, 17), (17, 0, 18), (14, 0, 15), (15, 0, 16), (0, 1, 14), (1, 5, 12), (12, 0, 13), (1, 4, 10), (10, 0, 11), (1, 3, 8), (8, 0, 9), (1, 2, 6), (6, 0, 7), (1, 1, 4), (4, 0, 5), (1, 0, 2), (2, 0, 3), (0, 0, 1)])) rfl ?_
  refine gf_putF (z := 10) (ty := .array .int) C hname gf_cl6 fl_Fi_64 dd_Fi_init_208 rfl rfl rfl rfl (by decide +kernel) (fun _ => ⟨rfl, rfl⟩) (show gf_is 63 0 0 6 17 by decide) (by decide) ?_
  refine gf_ph (φ' := (62, 1095, 63, gf_ups ρ [(0, 10, 62), (0, 9, 61), (0, 8, 59), (59, 0, 60), (0, 7, 53), (53, 5, 58), (53, 4, 57), (53, 3, 56), (53, 1, 55), (53, 0, 54), (0, 6, 44), (45, 6, 52), (45, 5, 51), (45, 4, 50), (45, 3, 49), (45, 2, 48), (45, 1, 47), (45, 0, 46), (44, 0, 45), (0, 4, 41), (41, 3, 43), (41, 0, 42), (31, 2, 38), (38, 3, 40), (38, 0, 39), (31, 1, 35), (35, 3, 37), (35, 0, 36), (31, 0, 32), (32, 3, 34), (32, 0, 33), (0, 5, 31), (23, 6, 30), (23, 5, 29), (23, 4, 28), (23, 3, 27), (23, 2, 26), (23, 1, 25), (23, 0, 24), (0, 2, 23), (14, 3, 21), (21, 0, 22), (14, 2, 19), (19, 0, 20), (14, 1, 17), (17, 0, 18), (14, 0, 15), (15, 0, 16), (0, 1, 14), (1, 5, 12), (12, 0, 13), (1, 4, 10), (10, 0, 11), (1, 3, 8), (8, 0, 9), (1, 2, 6), (6, 0, 7), (1, 1, 4), (4, 0, 5), (1, 0, 2), (2, 0, 3), (0, 0, 1)])) rfl ?_
  refine gf_aload_n C dd_Fi_init_211 1 rfl ?_
  refine gf_bipush C dd_Fi_init_212 (by decide +kernel) ?_
  refine gf_newIk (N := 11) (k := 63) (cA0 := 0) rfl C (gf_mem 111 (by decide +kernel) (by decide +kernel)) dd_Fi_init_214 (by decide) (by decide) (by decide) (Nat.le_of_ble_eq_true rfl) (fun j => (gf_ups_new rfl).trans (hμ _ _ (by decide))) ⟨Nat.le_of_ble_eq_true rfl, Nat.le_of_ble_eq_true rfl⟩ ?_
  refine gf_ph (φ' := (63, 1106, 64, gf_ups ρ [(0, 10, 62), (0, 9, 61), (0, 8, 59), (59, 0, 60), (0, 7, 53), (53, 5, 58), (53, 4, 57), (53, 3, 56), (53, 1, 55), (53, 0, 54), (0, 6, 44), (45, 6, 52), (45, 5, 51), (45, 4, 50), (45, 3, 49), (45, 2, 48), (45, 1, 47), (45, 0, 46), (44, 0, 45), (0, 4, 41), (41, 3, 43), (41, 0, 42), (31, 2, 38), (38, 3, 40), (38, 0, 39), (31, 1, 35), (35, 3, 37), (35, 0, 36), (31, 0, 32), (32, 3, 34), (32, 0, 33), (0, 5, 31), (23, 6, 30), (23, 5, 29), (23, 4, 28), (23, 3, 27), (23, 2, 26), (23, 1, 25), (23, 0, 24), (0, 2, 23), (14, 3, 21), (21, 0, 22), (14, 2, 19), (19, 0, 20), (14, 1, 17), (17, 0, 18), (14, 0, 15), (15, 0, 16), (0, 1, 14), (1, 5, 12), (12, 0, 13), (1, 4, 10), (10, 0, 11), (1, 3, 8), (8, 0, 9), (1, 2, 6), (6, 0, 7), (1, 1, 4), (4, 0, 5), (1, 0, 2), (2, 0, 3), (0, 0, 1)])) rfl ?_
  refine gf_putF (z := 11) (ty := .array .int) C hname gf_cl6 fl_Fi_68 dd_Fi_init_216 rfl rfl rfl rfl (by decide +kernel) (fun _ => ⟨rfl, rfl⟩) (show gf_is 64 0 0 6 17 by decide) (by decide) ?_
  refine gf_ph (φ' := (63, 1106, 64, gf_ups ρ [(0, 11, 63), (0, 10, 62), (0, 9, 61), (0, 8, 59), (59, 0, 60), (0, 7, 53), (53, 5, 58), (53, 4, 57), (53, 3, 56), (53, 1, 55), (53, 0, 54), (0, 6, 44), (45, 6, 52), (45, 5, 51), (45, 4, 50), (45, 3, 49), (45, 2, 48), (45, 1, 47), (45, 0, 46), (44, 0, 45), (0, 4, 41), (41, 3, 43), (41, 0, 42), (31, 2, 38), (38, 3, 40), (38, 0, 39), (31, 1, 35), (35, 3, 37), (35, 0, 36), (31, 0, 32), (32, 3, 34), (32, 0, 33), (0, 5, 31), (23, 6, 30), (23, 5, 29), (23, 4, 28), (23, 3, 27), (23, 2, 26), (23, 1, 25), (23, 0, 24), (0, 2, 23), (14, 3, 21), (21, 0, 22), (14, 2, 19), (19, 0, 20), (14, 1, 17), (17, 0, 18), (14, 0, 15), (15, 0, 16), (0, 1, 14), (1, 5, 12), (12, 0, 13), (1, 4, 10), (10, 0, 11), (1, 3, 8), (8, 0, 9), (1, 2, 6), (6, 0, 7), (1, 1, 4), (4, 0, 5), (1, 0, 2), (2, 0, 3), (0, 0, 1)])) rfl ?_
  refine gf_aload_n C dd_Fi_init_219 1 rfl ?_
  refine gf_lconst 1 C dd_Fi_init_220 (by decide +kernel) ?_
  refine gf_putL (z := 14) C gf_cl6 fl_Fi_71 dd_Fi_init_221 rfl rfl rfl (by decide +kernel) (show gf_is 64 0 0 6 17 by decide) (by decide) ?_
  refine gf_pm (μ := gf_ups μ [(0, 14, 1), (21, 1, (-1)), (19, 1, (-1)), (17, 1, (-1)), (15, 1, (-1)), (12, 1, (-1)), (10, 1, (-1)), (8, 1, (-1)), (6, 1, (-1)), (4, 1, (-1)), (2, 1, (-1))]) rfl ?_
  refine gf_aload_n C dd_Fi_init_224 1 rfl ?_
  refine gf_bipush C dd_Fi_init_225 (by decide +kernel) ?_
  refine gf_newIk (N := 6) (k := 64) (cA0 := 0) rfl C (gf_mem 111 (by decide +kernel) (by decide +kernel)) dd_Fi_init_227 (by decide) (by decide) (by decide) (Nat.le_of_ble_eq_true rfl) (fun j => (gf_ups_new rfl).trans (hμ _ _ (by decide))) ⟨Nat.le_of_ble_eq_true rfl, Nat.le_of_ble_eq_true rfl⟩ ?_
  refine gf_ph (φ' := (64, 1112, 65, gf_ups ρ [(0, 11, 63), (0, 10, 62), (0, 9, 61), (0, 8, 59), (59, 0, 60), (0, 7, 53), (53, 5, 58), (53, 4, 57), (53, 3, 56), (53, 1, 55), (53, 0, 54), (0, 6, 44), (45, 6, 52), (45, 5, 51), (45, 4, 50), (45, 3, 49), (45, 2, 48), (45, 1, 47), (45, 0, 46), (44, 0, 45), (0, 4, 41), (41, 3, 43), (41, 0, 42), (31, 2, 38), (38, 3, 40), (38, 0, 39), (31, 1, 35), (35, 3, 37), (35, 0, 36), (31, 0, 32), (32, 3, 34), (32, 0, 33), (0, 5, 31), (23, 6, 30), (23, 5, 29), (23, 4, 28), (23, 3, 27), (23, 2, 26), (23, 1, 25), (23, 0, 24), (0, 2, 23), (14, 3, 21), (21, 0, 22), (14, 2, 19), (19, 0, 20), (14, 1, 17), (17, 0, 18), (14, 0, 15), (15, 0, 16), (0, 1, 14), (1, 5, 12), (12, 0, 13), (1, 4, 10), (10, 0, 11), (1, 3, 8), (8, 0, 9), (1, 2, 6), (6, 0, 7), (1, 1, 4), (4, 0, 5), (1, 0, 2), (2, 0, 3), (0, 0, 1)])) rfl ?_
  refine gf_putF (z := 16) (ty := .array .int) C hname gf_cl6 fl_Fi_75 dd_Fi_init_229 rfl rfl rfl rfl (by decide +kernel) (fun _ => ⟨rfl, rfl⟩) (show gf_is 65 0 0 6 17 by decide) (by decide) ?_
  refine gf_ph (φ' := (64, 1112, 65, gf_ups ρ [(0, 16, 64), (0, 11, 63), (0, 10, 62), (0, 9, 61), (0, 8, 59), (59, 0, 60), (0, 7, 53), (53, 5, 58), (53, 4, 57), (53, 3, 56), (53, 1, 55), (53, 0, 54), (0, 6, 44), (45, 6, 52), (45, 5, 51), (45, 4, 50), (45, 3, 49), (45, 2, 48), (45, 1, 47), (45, 0, 46), (44, 0, 45), (0, 4, 41), (41, 3, 43), (41, 0, 42), (31, 2, 38), (38, 3, 40), (38, 0, 39), (31, 1, 35), (35, 3, 37), (35, 0, 36), (31, 0, 32), (32, 3, 34), (32, 0, 33), (0, 5, 31), (23, 6, 30), (23, 5, 29), (23, 4, 28), (23, 3, 27), (23, 2, 26), (23, 1, 25), (23, 0, 24), (0, 2, 23), (14, 3, 21), (21, 0, 22), (14, 2, 19), (19, 0, 20), (14, 1, 17), (17, 0, 18), (14, 0, 15), (15, 0, 16), (0, 1, 14), (1, 5, 12), (12, 0, 13), (1, 4, 10), (10, 0, 11), (1, 3, 8), (8, 0, 9), (1, 2, 6), (6, 0, 7), (1, 1, 4), (4, 0, 5), (1, 0, 2), (2, 0, 3), (0, 0, 1)])) rfl ?_
  exact gf_vret C hQ dd_Fi_init_232 rfl
