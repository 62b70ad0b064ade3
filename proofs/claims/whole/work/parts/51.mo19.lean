/-! the reference: by turns -/
def gm_ext (x : Int → Int) (n u r : Int) : Int → Int := fun j => if j < n then x j else r / 10 ^ (n + u - 1 - j).toNat % 10
def gm_leaf (μ : gf_M) (i u r : Int) : Int := gm_rk μ i (gm_ext (gm_x μ) (μ 71 1) u r) (μ 71 1 + u)
def gm_fld (lf : Int → Int) (u : Int) : Nat → Int → Int
  | 0, r => lf r
  | d + 1, r => pf_bst (if (u - 1 - d) % 2 = 0 then 1 else 0) (fun f => gm_fld lf u d (10 * r + f)) 9
theorem gm_fld_R {lf : Int → Int} (h : ∀ r : Int, 0 ≤ lf r ∧ lf r ≤ 10) (u : Int) : ∀ (d : Nat) (r : Int), 0 ≤ gm_fld lf u d r ∧ gm_fld lf u d r ≤ 10
  | 0, r => h r
  | d + 1, r => pf_bst_R 9 (fun f _ _ => gm_fld_R h u d (10 * r + f))
theorem pf_10_4 {n : Nat} (h : n < 5) : (1 : Int) ≤ 10 ^ n ∧ (10 : Int) ^ n ≤ 10000 := (show ∀ n : Nat, n < 5 → (1 : Int) ≤ 10 ^ n ∧ (10 : Int) ^ n ≤ 10000 by decide) n h
theorem pf_div10 (a : Int) (n : Nat) : a / 10 ^ n / 10 = a / 10 ^ (n + 1) := by
  rw [Int.ediv_ediv_of_nonneg (Int.le_of_lt (Int.pow_pos (by decide))), Int.pow_succ]
theorem pf_div_R {a : Int} (n : Nat) (h : 0 ≤ a) : 0 ≤ a / 10 ^ n ∧ a / 10 ^ n ≤ a := ⟨Int.ediv_nonneg h (Int.le_of_lt (Int.pow_pos (by decide))), Int.ediv_le_self _ h⟩
theorem dd_Mo_duel_0 : decode cc_Mo_duel 0 = .ok (.aload_n 0, 1) := by decide +kernel
theorem dd_Mo_duel_1 : decode cc_Mo_duel 1 = .ok (.iload_n 1, 1) := by decide +kernel
theorem dd_Mo_duel_2 : decode cc_Mo_duel 2 = .ok (.invokevirtual 183, 3) := by decide +kernel
theorem dd_Mo_duel_5 : decode cc_Mo_duel 5 = .ok (.ifCond .eq 15, 3) := by decide +kernel
theorem dd_Mo_duel_8 : decode cc_Mo_duel 8 = .ok (.iload_n 2, 1) := by decide +kernel
theorem dd_Mo_duel_9 : decode cc_Mo_duel 9 = .ok (.i2l, 1) := by decide +kernel
theorem dd_Mo_duel_10 : decode cc_Mo_duel 10 = .ok (.lconst 0, 1) := by decide +kernel
theorem dd_Mo_duel_11 : decode cc_Mo_duel 11 = .ok (.ldc2_w 189, 3) := by decide +kernel
theorem dd_Mo_duel_14 : decode cc_Mo_duel 14 = .ok (.invokestatic 69, 3) := by decide +kernel
theorem dd_Mo_duel_17 : decode cc_Mo_duel 17 = .ok (.ifCond .ne 5, 3) := by decide +kernel
theorem dd_Mo_duel_20 : decode cc_Mo_duel 20 = .ok (.iconst (-1), 1) := by decide +kernel
theorem dd_Mo_duel_21 : decode cc_Mo_duel 21 = .ok (.ireturn, 1) := by decide +kernel
theorem dd_Mo_duel_22 : decode cc_Mo_duel 22 = .ok (.aload_n 0, 1) := by decide +kernel
theorem dd_Mo_duel_23 : decode cc_Mo_duel 23 = .ok (.iload_n 1, 1) := by decide +kernel
theorem dd_Mo_duel_24 : decode cc_Mo_duel 24 = .ok (.invokevirtual 162, 3) := by decide +kernel
theorem dd_Mo_duel_27 : decode cc_Mo_duel 27 = .ok (.istore_n 3, 1) := by decide +kernel
theorem dd_Mo_duel_28 : decode cc_Mo_duel 28 = .ok (.iload_n 2, 1) := by decide +kernel
theorem dd_Mo_duel_29 : decode cc_Mo_duel 29 = .ok (.bipush 8, 2) := by decide +kernel
theorem dd_Mo_duel_31 : decode cc_Mo_duel 31 = .ok (.aload_n 0, 1) := by decide +kernel
theorem dd_Mo_duel_32 : decode cc_Mo_duel 32 = .ok (.getfield 146, 3) := by decide +kernel
theorem dd_Mo_duel_35 : decode cc_Mo_duel 35 = .ok (.isub, 1) := by decide +kernel
theorem dd_Mo_duel_36 : decode cc_Mo_duel 36 = .ok (.if_icmp .ge 7, 3) := by decide +kernel
theorem dd_Mo_duel_39 : decode cc_Mo_duel 39 = .ok (.iload_n 2, 1) := by decide +kernel
theorem dd_Mo_duel_40 : decode cc_Mo_duel 40 = .ok (.goto 10, 3) := by decide +kernel
theorem dd_Mo_duel_43 : decode cc_Mo_duel 43 = .ok (.bipush 8, 2) := by decide +kernel
theorem dd_Mo_duel_45 : decode cc_Mo_duel 45 = .ok (.aload_n 0, 1) := by decide +kernel
theorem dd_Mo_duel_46 : decode cc_Mo_duel 46 = .ok (.getfield 146, 3) := by decide +kernel
theorem dd_Mo_duel_49 : decode cc_Mo_duel 49 = .ok (.isub, 1) := by decide +kernel
theorem dd_Mo_duel_50 : decode cc_Mo_duel 50 = .ok (.istore 4, 2) := by decide +kernel
theorem dd_Mo_duel_52 : decode cc_Mo_duel 52 = .ok (.iconst 1, 1) := by decide +kernel
theorem dd_Mo_duel_53 : decode cc_Mo_duel 53 = .ok (.istore 5, 2) := by decide +kernel
theorem dd_Mo_duel_55 : decode cc_Mo_duel 55 = .ok (.iconst 0, 1) := by decide +kernel
theorem dd_Mo_duel_56 : decode cc_Mo_duel 56 = .ok (.istore 6, 2) := by decide +kernel
theorem dd_Mo_duel_58 : decode cc_Mo_duel 58 = .ok (.iload 6, 2) := by decide +kernel
theorem dd_Mo_duel_60 : decode cc_Mo_duel 60 = .ok (.iload 4, 2) := by decide +kernel
theorem dd_Mo_duel_62 : decode cc_Mo_duel 62 = .ok (.if_icmp .ge 16, 3) := by decide +kernel
theorem dd_Mo_duel_65 : decode cc_Mo_duel 65 = .ok (.iload 5, 2) := by decide +kernel
theorem dd_Mo_duel_67 : decode cc_Mo_duel 67 = .ok (.bipush 10, 2) := by decide +kernel
theorem dd_Mo_duel_69 : decode cc_Mo_duel 69 = .ok (.imul, 1) := by decide +kernel
theorem dd_Mo_duel_70 : decode cc_Mo_duel 70 = .ok (.istore 5, 2) := by decide +kernel
theorem dd_Mo_duel_72 : decode cc_Mo_duel 72 = .ok (.iinc 6 1, 3) := by decide +kernel
theorem dd_Mo_duel_75 : decode cc_Mo_duel 75 = .ok (.goto (-17), 3) := by decide +kernel
theorem dd_Mo_duel_78 : decode cc_Mo_duel 78 = .ok (.aload_n 0, 1) := by decide +kernel
theorem dd_Mo_duel_79 : decode cc_Mo_duel 79 = .ok (.getfield 57, 3) := by decide +kernel
theorem dd_Mo_duel_82 : decode cc_Mo_duel 82 = .ok (.iconst 0, 1) := by decide +kernel
theorem dd_Mo_duel_83 : decode cc_Mo_duel 83 = .ok (.iload_n 3, 1) := by decide +kernel
theorem dd_Mo_duel_84 : decode cc_Mo_duel 84 = .ok (.iastore, 1) := by decide +kernel
theorem dd_Mo_duel_85 : decode cc_Mo_duel 85 = .ok (.iconst 0, 1) := by decide +kernel
theorem dd_Mo_duel_86 : decode cc_Mo_duel 86 = .ok (.istore 6, 2) := by decide +kernel
theorem dd_Mo_duel_88 : decode cc_Mo_duel 88 = .ok (.iload 6, 2) := by decide +kernel
theorem dd_Mo_duel_90 : decode cc_Mo_duel 90 = .ok (.iload 5, 2) := by decide +kernel
theorem dd_Mo_duel_92 : decode cc_Mo_duel 92 = .ok (.if_icmp .ge 82, 3) := by decide +kernel
theorem dd_Mo_duel_95 : decode cc_Mo_duel 95 = .ok (.iload 4, 2) := by decide +kernel
theorem dd_Mo_duel_97 : decode cc_Mo_duel 97 = .ok (.ifCond .le 77, 3) := by decide +kernel
theorem dd_Mo_duel_100 : decode cc_Mo_duel 100 = .ok (.iload 6, 2) := by decide +kernel
theorem dd_Mo_duel_102 : decode cc_Mo_duel 102 = .ok (.istore 7, 2) := by decide +kernel
theorem dd_Mo_duel_104 : decode cc_Mo_duel 104 = .ok (.iload 4, 2) := by decide +kernel
theorem dd_Mo_duel_106 : decode cc_Mo_duel 106 = .ok (.iconst 1, 1) := by decide +kernel
theorem dd_Mo_duel_107 : decode cc_Mo_duel 107 = .ok (.isub, 1) := by decide +kernel
theorem dd_Mo_duel_108 : decode cc_Mo_duel 108 = .ok (.istore 8, 2) := by decide +kernel
theorem dd_Mo_duel_110 : decode cc_Mo_duel 110 = .ok (.iload 8, 2) := by decide +kernel
theorem dd_Mo_duel_112 : decode cc_Mo_duel 112 = .ok (.ifCond .lt 33, 3) := by decide +kernel
theorem dd_Mo_duel_115 : decode cc_Mo_duel 115 = .ok (.aload_n 0, 1) := by decide +kernel
theorem dd_Mo_duel_116 : decode cc_Mo_duel 116 = .ok (.getfield 36, 3) := by decide +kernel
theorem dd_Mo_duel_119 : decode cc_Mo_duel 119 = .ok (.aload_n 0, 1) := by decide +kernel
theorem dd_Mo_duel_120 : decode cc_Mo_duel 120 = .ok (.getfield 146, 3) := by decide +kernel
theorem dd_Mo_duel_123 : decode cc_Mo_duel 123 = .ok (.iload 8, 2) := by decide +kernel
theorem dd_Mo_duel_125 : decode cc_Mo_duel 125 = .ok (.iadd, 1) := by decide +kernel
theorem dd_Mo_duel_126 : decode cc_Mo_duel 126 = .ok (.iload 7, 2) := by decide +kernel
theorem dd_Mo_duel_128 : decode cc_Mo_duel 128 = .ok (.bipush 10, 2) := by decide +kernel
theorem dd_Mo_duel_130 : decode cc_Mo_duel 130 = .ok (.irem, 1) := by decide +kernel
theorem dd_Mo_duel_131 : decode cc_Mo_duel 131 = .ok (.iastore, 1) := by decide +kernel
theorem dd_Mo_duel_132 : decode cc_Mo_duel 132 = .ok (.iload 7, 2) := by decide +kernel
theorem dd_Mo_duel_134 : decode cc_Mo_duel 134 = .ok (.bipush 10, 2) := by decide +kernel
theorem dd_Mo_duel_136 : decode cc_Mo_duel 136 = .ok (.idiv, 1) := by decide +kernel
theorem dd_Mo_duel_137 : decode cc_Mo_duel 137 = .ok (.istore 7, 2) := by decide +kernel
theorem dd_Mo_duel_139 : decode cc_Mo_duel 139 = .ok (.iinc 8 (-1), 3) := by decide +kernel
theorem dd_Mo_duel_142 : decode cc_Mo_duel 142 = .ok (.goto (-32), 3) := by decide +kernel
theorem dd_Mo_duel_145 : decode cc_Mo_duel 145 = .ok (.aload_n 0, 1) := by decide +kernel
theorem dd_Mo_duel_146 : decode cc_Mo_duel 146 = .ok (.getfield 57, 3) := by decide +kernel
theorem dd_Mo_duel_149 : decode cc_Mo_duel 149 = .ok (.iload 6, 2) := by decide +kernel
theorem dd_Mo_duel_151 : decode cc_Mo_duel 151 = .ok (.aload_n 0, 1) := by decide +kernel
theorem dd_Mo_duel_152 : decode cc_Mo_duel 152 = .ok (.iload_n 1, 1) := by decide +kernel
theorem dd_Mo_duel_153 : decode cc_Mo_duel 153 = .ok (.aload_n 0, 1) := by decide +kernel
theorem dd_Mo_duel_154 : decode cc_Mo_duel 154 = .ok (.getfield 36, 3) := by decide +kernel
theorem dd_Mo_duel_157 : decode cc_Mo_duel 157 = .ok (.aload_n 0, 1) := by decide +kernel
theorem dd_Mo_duel_158 : decode cc_Mo_duel 158 = .ok (.getfield 146, 3) := by decide +kernel
theorem dd_Mo_duel_161 : decode cc_Mo_duel 161 = .ok (.iload 4, 2) := by decide +kernel
theorem dd_Mo_duel_163 : decode cc_Mo_duel 163 = .ok (.iadd, 1) := by decide +kernel
theorem dd_Mo_duel_164 : decode cc_Mo_duel 164 = .ok (.invokevirtual 152, 3) := by decide +kernel
theorem dd_Mo_duel_167 : decode cc_Mo_duel 167 = .ok (.iastore, 1) := by decide +kernel
theorem dd_Mo_duel_168 : decode cc_Mo_duel 168 = .ok (.iinc 6 1, 3) := by decide +kernel
theorem dd_Mo_duel_171 : decode cc_Mo_duel 171 = .ok (.goto (-83), 3) := by decide +kernel
theorem dd_Mo_duel_174 : decode cc_Mo_duel 174 = .ok (.iload 4, 2) := by decide +kernel
theorem dd_Mo_duel_176 : decode cc_Mo_duel 176 = .ok (.iconst 1, 1) := by decide +kernel
theorem dd_Mo_duel_177 : decode cc_Mo_duel 177 = .ok (.isub, 1) := by decide +kernel
theorem dd_Mo_duel_178 : decode cc_Mo_duel 178 = .ok (.istore 6, 2) := by decide +kernel
theorem dd_Mo_duel_180 : decode cc_Mo_duel 180 = .ok (.iload 6, 2) := by decide +kernel
theorem dd_Mo_duel_182 : decode cc_Mo_duel 182 = .ok (.ifCond .lt 120, 3) := by decide +kernel
theorem dd_Mo_duel_185 : decode cc_Mo_duel 185 = .ok (.iload 5, 2) := by decide +kernel
theorem dd_Mo_duel_187 : decode cc_Mo_duel 187 = .ok (.bipush 10, 2) := by decide +kernel
theorem dd_Mo_duel_189 : decode cc_Mo_duel 189 = .ok (.idiv, 1) := by decide +kernel
theorem dd_Mo_duel_190 : decode cc_Mo_duel 190 = .ok (.istore 5, 2) := by decide +kernel
theorem dd_Mo_duel_192 : decode cc_Mo_duel 192 = .ok (.iconst 0, 1) := by decide +kernel
theorem dd_Mo_duel_193 : decode cc_Mo_duel 193 = .ok (.istore 7, 2) := by decide +kernel
theorem dd_Mo_duel_195 : decode cc_Mo_duel 195 = .ok (.iload 7, 2) := by decide +kernel
theorem dd_Mo_duel_197 : decode cc_Mo_duel 197 = .ok (.iload 5, 2) := by decide +kernel
theorem dd_Mo_duel_199 : decode cc_Mo_duel 199 = .ok (.if_icmp .ge 97, 3) := by decide +kernel
theorem dd_Mo_duel_202 : decode cc_Mo_duel 202 = .ok (.aload_n 0, 1) := by decide +kernel
theorem dd_Mo_duel_203 : decode cc_Mo_duel 203 = .ok (.getfield 57, 3) := by decide +kernel
theorem dd_Mo_duel_206 : decode cc_Mo_duel 206 = .ok (.bipush 10, 2) := by decide +kernel
theorem dd_Mo_duel_208 : decode cc_Mo_duel 208 = .ok (.iload 7, 2) := by decide +kernel
theorem dd_Mo_duel_210 : decode cc_Mo_duel 210 = .ok (.imul, 1) := by decide +kernel
theorem dd_Mo_duel_211 : decode cc_Mo_duel 211 = .ok (.iaload, 1) := by decide +kernel
theorem dd_Mo_duel_212 : decode cc_Mo_duel 212 = .ok (.istore 8, 2) := by decide +kernel
theorem dd_Mo_duel_214 : decode cc_Mo_duel 214 = .ok (.iconst 1, 1) := by decide +kernel
theorem dd_Mo_duel_215 : decode cc_Mo_duel 215 = .ok (.istore 9, 2) := by decide +kernel
theorem dd_Mo_duel_217 : decode cc_Mo_duel 217 = .ok (.iload 9, 2) := by decide +kernel
theorem dd_Mo_duel_219 : decode cc_Mo_duel 219 = .ok (.bipush 10, 2) := by decide +kernel
theorem dd_Mo_duel_221 : decode cc_Mo_duel 221 = .ok (.if_icmp .ge 60, 3) := by decide +kernel
theorem dd_Mo_duel_224 : decode cc_Mo_duel 224 = .ok (.aload_n 0, 1) := by decide +kernel
theorem dd_Mo_duel_225 : decode cc_Mo_duel 225 = .ok (.getfield 57, 3) := by decide +kernel
theorem dd_Mo_duel_228 : decode cc_Mo_duel 228 = .ok (.bipush 10, 2) := by decide +kernel
theorem dd_Mo_duel_230 : decode cc_Mo_duel 230 = .ok (.iload 7, 2) := by decide +kernel
theorem dd_Mo_duel_232 : decode cc_Mo_duel 232 = .ok (.imul, 1) := by decide +kernel
theorem dd_Mo_duel_233 : decode cc_Mo_duel 233 = .ok (.iload 9, 2) := by decide +kernel
theorem dd_Mo_duel_235 : decode cc_Mo_duel 235 = .ok (.iadd, 1) := by decide +kernel
theorem dd_Mo_duel_236 : decode cc_Mo_duel 236 = .ok (.iaload, 1) := by decide +kernel
theorem dd_Mo_duel_237 : decode cc_Mo_duel 237 = .ok (.istore 10, 2) := by decide +kernel
theorem dd_Mo_duel_239 : decode cc_Mo_duel 239 = .ok (.iload 10, 2) := by decide +kernel
theorem dd_Mo_duel_241 : decode cc_Mo_duel 241 = .ok (.iload 8, 2) := by decide +kernel
theorem dd_Mo_duel_243 : decode cc_Mo_duel 243 = .ok (.if_icmp .le 7, 3) := by decide +kernel
theorem dd_Mo_duel_246 : decode cc_Mo_duel 246 = .ok (.iconst 1, 1) := by decide +kernel
theorem dd_Mo_duel_247 : decode cc_Mo_duel 247 = .ok (.goto 4, 3) := by decide +kernel
theorem dd_Mo_duel_250 : decode cc_Mo_duel 250 = .ok (.iconst 0, 1) := by decide +kernel
theorem dd_Mo_duel_251 : decode cc_Mo_duel 251 = .ok (.iload 6, 2) := by decide +kernel
theorem dd_Mo_duel_253 : decode cc_Mo_duel 253 = .ok (.iconst 2, 1) := by decide +kernel
theorem dd_Mo_duel_254 : decode cc_Mo_duel 254 = .ok (.irem, 1) := by decide +kernel
theorem dd_Mo_duel_255 : decode cc_Mo_duel 255 = .ok (.ifCond .ne 7, 3) := by decide +kernel
theorem dd_Mo_duel_258 : decode cc_Mo_duel 258 = .ok (.iconst 1, 1) := by decide +kernel
theorem dd_Mo_duel_259 : decode cc_Mo_duel 259 = .ok (.goto 4, 3) := by decide +kernel
theorem dd_Mo_duel_262 : decode cc_Mo_duel 262 = .ok (.iconst 0, 1) := by decide +kernel
theorem dd_Mo_duel_263 : decode cc_Mo_duel 263 = .ok (.if_icmp .ne 8, 3) := by decide +kernel
theorem dd_Mo_duel_266 : decode cc_Mo_duel 266 = .ok (.iload 10, 2) := by decide +kernel
theorem dd_Mo_duel_268 : decode cc_Mo_duel 268 = .ok (.goto 5, 3) := by decide +kernel
theorem dd_Mo_duel_271 : decode cc_Mo_duel 271 = .ok (.iload 8, 2) := by decide +kernel
theorem dd_Mo_duel_273 : decode cc_Mo_duel 273 = .ok (.istore 8, 2) := by decide +kernel
theorem dd_Mo_duel_275 : decode cc_Mo_duel 275 = .ok (.iinc 9 1, 3) := by decide +kernel
theorem dd_Mo_duel_278 : decode cc_Mo_duel 278 = .ok (.goto (-61), 3) := by decide +kernel
theorem dd_Mo_duel_281 : decode cc_Mo_duel 281 = .ok (.aload_n 0, 1) := by decide +kernel
theorem dd_Mo_duel_282 : decode cc_Mo_duel 282 = .ok (.getfield 57, 3) := by decide +kernel
theorem dd_Mo_duel_285 : decode cc_Mo_duel 285 = .ok (.iload 7, 2) := by decide +kernel
theorem dd_Mo_duel_287 : decode cc_Mo_duel 287 = .ok (.iload 8, 2) := by decide +kernel
theorem dd_Mo_duel_289 : decode cc_Mo_duel 289 = .ok (.iastore, 1) := by decide +kernel
theorem dd_Mo_duel_290 : decode cc_Mo_duel 290 = .ok (.iinc 7 1, 3) := by decide +kernel
theorem dd_Mo_duel_293 : decode cc_Mo_duel 293 = .ok (.goto (-98), 3) := by decide +kernel
theorem dd_Mo_duel_296 : decode cc_Mo_duel 296 = .ok (.iinc 6 (-1), 3) := by decide +kernel
theorem dd_Mo_duel_299 : decode cc_Mo_duel 299 = .ok (.goto (-119), 3) := by decide +kernel
theorem dd_Mo_duel_302 : decode cc_Mo_duel 302 = .ok (.aload_n 0, 1) := by decide +kernel
theorem dd_Mo_duel_303 : decode cc_Mo_duel 303 = .ok (.getfield 57, 3) := by decide +kernel
theorem dd_Mo_duel_306 : decode cc_Mo_duel 306 = .ok (.iconst 0, 1) := by decide +kernel
theorem dd_Mo_duel_307 : decode cc_Mo_duel 307 = .ok (.iaload, 1) := by decide +kernel
theorem dd_Mo_duel_308 : decode cc_Mo_duel 308 = .ok (.ireturn, 1) := by decide +kernel
set_option maxRecDepth 100000 in
set_option maxHeartbeats 4000000 in
theorem ct_Mo_duel (l : Launch) (E : gf_E) (i n : Int) (μ : gf_M) (hi : gf_R i) (hnR : gf_R n) (hok : gm_ok μ)  : gf_Mi l E yy_Mo_duel cc_Mo_duel 11 .int (gf_rm 5 121) 81 gf_ref μ [.ref (gf_ad E 65), .int (gf_i i), .int (gf_i n)] (fun q μ' => (¬ (0 ≤ i ∧ i < μ 71 0 ∧ 0 ≤ n ∧ n ≤ 4) → q = -1 ∧ μ' = μ) ∧ (0 ≤ i ∧ i < μ 71 0 ∧ 0 ≤ n ∧ n ≤ 4 → q = gm_fld (gm_leaf μ i (gf_min n (8 - μ 71 1))) (gf_min n (8 - μ 71 1)) (gf_min n (8 - μ 71 1)).toNat 0 ∧ gm_sc μ' μ)) := by
  refine gf_mi (by decide +kernel) (Nat.le_of_ble_eq_true rfl) (by decide) (fun X Q hlx C hQ => ?_)
  subst hlx
  replace C : gf_C X E cc_Mo_duel 11 "GuardFiguresModel" (gf_rm 5 121) := C
  show gf_G X E Q 11 gf_φ μ 0 [(0, .ref (gf_ad E 65)), (1, .int (gf_i i)), (2, .int (gf_i n))] []
  obtain ⟨hc, hgs, hln, hx, hd⟩ := id hok
  refine gf_aload_n C dd_Mo_duel_0 0 rfl ?_
  refine gf_iload_n C dd_Mo_duel_1 1 rfl ?_
  refine gf_callVi (st := []) (As := [.int (gf_i i)]) C wk_Mo_183 gf_cl7 (show gf_is 81 65 0 7 26 by decide) (ct_Mo_isGuard (gf_xl X) E i μ (by omega) (by omega)) rfl ⟨rfl, rfl, rfl, rfl⟩ (Nat.le_of_ble_eq_true rfl) rfl dd_Mo_duel_2 (fun r2 m2 hR2 hp2 => ?_)
  have hr2 := hp2.1
  refine gf_pm hp2.2 ?_
  refine gf_if_eq 20 C dd_Mo_duel_5 (by decide) (by omega) (fun h5 => ?_) (fun h5 => ?_)
  · skip
    refine gf_iconst C dd_Mo_duel_20 ?_
    refine gf_iret C hQ dd_Mo_duel_21 (by omega) ?_
    exact ⟨fun _ => ⟨rfl, rfl⟩, fun h => absurd h (by omega)⟩
  · skip
    refine gf_iload_n C dd_Mo_duel_8 2 rfl ?_
    refine gf_gi2l C dd_Mo_duel_9 (by omega) ?_
    refine gf_lconst 0 C dd_Mo_duel_10 (by decide +kernel) ?_
    refine gf_ldc2 4 C dd_Mo_duel_11 ck_Mo_189 (by decide +kernel) ?_
    refine gf_callSi (st := []) (As := [.long (gf_l n), .long (gf_l 0), .long (gf_l 4)]) C wk_Mo_69 (ct_Mo_in (gf_xl X) E n 0 4 μ (by omega) (by omega) (by omega)) rfl ⟨rfl, rfl, rfl, rfl⟩ (Nat.le_of_ble_eq_true rfl) rfl dd_Mo_duel_14 (fun r14 m14 hR14 hp14 => ?_)
    have hr14 := hp14.1
    refine gf_pm hp14.2 ?_
    refine gf_if_ne 22 C dd_Mo_duel_17 (by decide) (by omega) (fun h17 => ?_) (fun h17 => ?_)
    · skip
      have hin : 0 ≤ i ∧ i < μ 71 0 := by omega
      have hin2 : 0 ≤ n ∧ n ≤ 4 := by omega
      clear hr2 hr14 hp2 hp14
      have hg := gm_ok_g hok hin
      refine gf_aload_n C dd_Mo_duel_22 0 rfl ?_
      refine gf_iload_n C dd_Mo_duel_23 1 rfl ?_
      refine gf_callVi (st := []) (As := [.int (gf_i i)]) C wk_Mo_162 gf_cl7 (show gf_is 81 65 0 7 26 by decide) (ct_Mo_now (gf_xl X) E i μ hg hln hx) rfl ⟨rfl, rfl, rfl, rfl⟩ (Nat.le_of_ble_eq_true rfl) rfl dd_Mo_duel_24 (fun r24 m24 hR24 hp24 => ?_)
      obtain ⟨⟨hwa, hwR⟩, hw15, hw73, hwf⟩ := hp24
      refine gf_istore_n (lv' := [(3, .int (gf_i r24)), (0, .ref (gf_ad E 65)), (1, .int (gf_i i)), (2, .int (gf_i n))]) C dd_Mo_duel_27 (by decide) rfl ?_
      refine gf_iload_n C dd_Mo_duel_28 3 rfl ?_
      refine gf_bipush C dd_Mo_duel_29 (by decide +kernel) ?_
      refine gf_aload_n C dd_Mo_duel_31 1 rfl ?_
      refine gf_getI (z := 15) C gf_cl7 fl_Mo_146 dd_Mo_duel_32 rfl rfl (show gf_is 81 65 0 7 26 by decide) (fun hv32 => ?_)
      refine gf_isub C dd_Mo_duel_35 ?_
      refine gf_icmp_ge 43 C dd_Mo_duel_36 (by decide) (by omega) (by omega) (fun h36 => ?_) (fun h36 => ?_)
      · skip
        refine gf_bipush C dd_Mo_duel_43 (by decide +kernel) ?_
        refine gf_aload_n C dd_Mo_duel_45 1 rfl ?_
        refine gf_getI (z := 15) C gf_cl7 fl_Mo_146 dd_Mo_duel_46 rfl rfl (show gf_is 81 65 0 7 26 by decide) (fun hv46 => ?_)
        refine gf_isub C dd_Mo_duel_49 ?_
        refine gf_nm (fun x50 hx50 => ?_)
        refine gf_istore (lv' := [(4, .int (gf_i x50)), (3, .int (gf_i r24)), (0, .ref (gf_ad E 65)), (1, .int (gf_i i)), (2, .int (gf_i n))]) C dd_Mo_duel_50 (by decide) rfl ?_
        have hu : x50 = gf_min n (8 - μ 71 1) := by
          unfold gf_min
          split <;> omega
        have huR : 0 ≤ x50 ∧ x50 ≤ 4 ∧ x50 ≤ 8 - μ 71 1 := by omega
        clear hx50
        rw [← hu] at hQ
        obtain ⟨lf, hlf⟩ : ∃ lf : Int → Int, lf = gm_leaf μ i x50 := ⟨_, rfl⟩
        have hlfR : ∀ r : Int, 0 ≤ lf r ∧ lf r ≤ 10 := fun r => by rw [hlf]; exact pf_reck_R _ _ _ _ _
        have hfR := gm_fld_R hlfR x50
        have hu4 := pf_10_4 (n := x50.toNat) (by omega)
        rw [← hlf] at hQ
        refine gf_iconst C dd_Mo_duel_52 ?_
        refine gf_istore (lv' := [(5, .int (gf_i 1)), (4, .int (gf_i x50)), (3, .int (gf_i r24)), (0, .ref (gf_ad E 65)), (1, .int (gf_i i)), (2, .int (gf_i n))]) C dd_Mo_duel_53 (by decide) rfl ?_
        refine gf_iconst C dd_Mo_duel_55 ?_
        refine gf_istore (lv' := [(6, .int (gf_i 0)), (5, .int (gf_i 1)), (4, .int (gf_i x50)), (3, .int (gf_i r24)), (0, .ref (gf_ad E 65)), (1, .int (gf_i i)), (2, .int (gf_i n))]) C dd_Mo_duel_56 (by decide) rfl ?_
        have L58_1 : ∀ (N : Nat) (w k : Int) , (0 ≤ k ∧ k ≤ x50 ∧ w = 10 ^ k.toNat) → (4 - k).toNat < N → gf_G X E Q 11 gf_φ m24 58 [(5, .int (gf_i w)), (6, .int (gf_i k)), (0, .ref (gf_ad E 65)), (1, .int (gf_i i)), (2, .int (gf_i n)), (3, .int (gf_i r24)), (4, .int (gf_i x50))] [] := by
          intro N
          induction N with
          | zero => intro w k hinv hN; exact absurd hN (Nat.not_lt_zero _)
          | succ N ih58_1 =>
            intro w k hinv hN
            have hinv0 := hinv
            obtain ⟨hk0, hk1, hwk⟩ := hinv
            have h104 := pf_10_4 (n := k.toNat) (by omega)
            refine gf_iload C dd_Mo_duel_58 1 rfl ?_
            refine gf_iload C dd_Mo_duel_60 6 rfl ?_
            refine gf_icmp_ge 78 C dd_Mo_duel_62 (by decide) (by omega) (by omega) (fun h62 => ?_) (fun h62 => ?_)
            · skip
              have hw : w = 10 ^ x50.toNat := by rw [hwk, show k = x50 by omega]
              refine gf_aload_n C dd_Mo_duel_78 2 rfl ?_
              refine gf_getA (r := 80) C gf_cl7 fl_Mo_57 dd_Mo_duel_79 rfl (show gf_is 81 65 0 7 26 by decide) (by decide) (by decide) ?_
              refine gf_iconst C dd_Mo_duel_82 ?_
              refine gf_iload_n C dd_Mo_duel_83 5 rfl ?_
              refine gf_iast C dd_Mo_duel_84 (show gf_is 81 80 1 0 10000 by decide) (by omega) (by omega) ?_
              refine gf_nmM (fun m84 hm84 => ?_)
              have w84 : m84 80 0 = lf 0 ∨ 0 < x50 := by
                rcases (show x50 = 0 ∨ 0 < x50 by omega) with h | h
                · left
                  rw [hm84, gf_up_s, hwa, hlf, h]
                  unfold gm_leaf
                  rw [Int.add_zero]
                  refine gm_rk_congr (fun j h0 h1 => ?_)
                  unfold gm_ext
                  rw [if_pos h1]
                · right; exact h
              refine gf_iconst C dd_Mo_duel_85 ?_
              refine gf_istore (lv' := [(6, .int (gf_i 0)), (5, .int (gf_i w)), (0, .ref (gf_ad E 65)), (1, .int (gf_i i)), (2, .int (gf_i n)), (3, .int (gf_i r24)), (4, .int (gf_i x50))]) C dd_Mo_duel_86 (by decide) rfl ?_
              have L88_2 : ∀ (N : Nat) (row : Int) (m : gf_M) , (0 ≤ row ∧ row ≤ 10 ^ x50.toNat ∧ (∀ r : Int, 0 ≤ r → r < row → m 80 r = lf r) ∧ (row = 0 → m 80 0 = lf 0 ∨ 0 < x50) ∧ m 65 15 = μ 71 1 ∧ (∀ j : Int, 0 ≤ j → j < μ 71 1 → m 73 j = μ 71 (24 + j)) ∧ ∀ a b : Int, ¬ (a = 65 ∧ b = 15) → a ≠ 73 → a ≠ 80 → m a b = μ a b) → (10000 - row).toNat < N → gf_G X E Q 11 gf_φ m 88 [(6, .int (gf_i row)), (0, .ref (gf_ad E 65)), (1, .int (gf_i i)), (2, .int (gf_i n)), (3, .int (gf_i r24)), (4, .int (gf_i x50)), (5, .int (gf_i w))] [] := by
                intro N
                induction N with
                | zero => intro row m hinv hN; exact absurd hN (Nat.not_lt_zero _)
                | succ N ih88_2 =>
                  intro row m hinv hN
                  have hinv0 := hinv
                  obtain ⟨hr0, hr1, hrv, hrz, hr15, hr73, hrf⟩ := hinv
                  refine gf_iload C dd_Mo_duel_88 0 rfl ?_
                  refine gf_iload C dd_Mo_duel_90 6 rfl ?_
                  refine gf_icmp_ge 174 C dd_Mo_duel_92 (by decide) (by omega) (by omega) (fun h92 => ?_) (fun h92 => ?_)
                  · skip
                    have hall : ∀ r : Int, 0 ≤ r → r < 10 ^ x50.toNat → m 80 r = lf r := fun r h0 h1 => by
                      rcases (show x50 = 0 ∨ 0 < x50 by omega) with h | h
                      · have hp0 : (10 : Int) ^ x50.toNat = 1 := by rw [h]; decide
                        have er : r = 0 := by omega
                        rcases (show row = 0 ∨ 0 < row by omega) with h2 | h2
                        · rcases hrz h2 with h3 | h3
                          · rw [er]; exact h3
                          · omega
                        · rw [er]; exact hrv 0 (by omega) h2
                      · exact hrv r h0 (by omega)
                    clear hrz hrv
                    refine gf_iload C dd_Mo_duel_174 5 rfl ?_
                    refine gf_iconst C dd_Mo_duel_176 ?_
                    refine gf_isub C dd_Mo_duel_177 ?_
                    refine gf_nm (fun x178 hx178 => ?_)
                    refine gf_istore (lv' := [(6, .int (gf_i x178)), (0, .ref (gf_ad E 65)), (1, .int (gf_i i)), (2, .int (gf_i n)), (3, .int (gf_i r24)), (4, .int (gf_i x50)), (5, .int (gf_i w))]) C dd_Mo_duel_178 (by decide) rfl ?_
                    have L180_3 : ∀ (N : Nat) (w k : Int) (m : gf_M) , (-1 ≤ k ∧ k ≤ x50 - 1 ∧ w = 10 ^ (k + 1).toNat ∧ (∀ r : Int, 0 ≤ r → r < 10 ^ (k + 1).toNat → m 80 r = gm_fld lf x50 (x50 - 1 - k).toNat r) ∧ ∀ a b : Int, ¬ (a = 65 ∧ b = 15) → a ≠ 73 → a ≠ 80 → m a b = μ a b) → (k + 1).toNat < N → gf_G X E Q 11 gf_φ m 180 [(5, .int (gf_i w)), (6, .int (gf_i k)), (0, .ref (gf_ad E 65)), (4, .int (gf_i x50))] [] := by
                      intro N
                      induction N with
                      | zero => intro w k m hinv hN; exact absurd hN (Nat.not_lt_zero _)
                      | succ N ih180_3 =>
                        intro w k m hinv hN
                        have hinv0 := hinv
                        obtain ⟨hk0, hk1, hwv, hfv, hff⟩ := hinv
                        have h104 := pf_10_4 (n := (k + 1).toNat) (by omega)
                        refine gf_iload C dd_Mo_duel_180 1 rfl ?_
                        refine gf_if_lt 302 C dd_Mo_duel_182 (by decide) (by omega) (fun h182 => ?_) (fun h182 => ?_)
                        · skip
                          refine gf_aload_n C dd_Mo_duel_302 2 rfl ?_
                          refine gf_getA (r := 80) C gf_cl7 fl_Mo_57 dd_Mo_duel_303 rfl (show gf_is 81 65 0 7 26 by decide) (by decide) (by decide) ?_
                          refine gf_iconst C dd_Mo_duel_306 ?_
                          refine gf_iald C dd_Mo_duel_307 (show gf_is 81 80 1 0 10000 by decide) (by omega) (fun hv307 => ?_)
                          refine gf_iret C hQ dd_Mo_duel_308 (by omega) ?_
                          refine ⟨fun h => absurd h (by omega), fun _ => ⟨?_, fun a b hab => by unfold gm_scr at hab; exact hff a b (by omega) (by omega) (by omega)⟩⟩
                          have ek : k = -1 := by omega
                          have := hfv 0 (by omega) (by omega)
                          rw [this, ek, show (x50 - 1 - -1).toNat = x50.toNat by omega]
                        · skip
                          have hkk : (10 : Int) ^ (k + 1).toNat = 10 ^ k.toNat * 10 := by rw [show (k + 1).toNat = k.toNat + 1 by omega, Int.pow_succ]
                          have h10k := pf_10_4 (n := k.toNat) (by omega)
                          refine gf_iload C dd_Mo_duel_185 0 rfl ?_
                          refine gf_bipush C dd_Mo_duel_187 (by decide +kernel) ?_
                          refine gf_idiv C dd_Mo_duel_189 (by omega) ?_
                          refine gf_nm (fun x190 hx190 => ?_)
                          refine gf_istore (lv' := [(5, .int (gf_i x190)), (6, .int (gf_i k)), (0, .ref (gf_ad E 65)), (4, .int (gf_i x50))]) C dd_Mo_duel_190 (by decide) rfl ?_
                          have hw2 : x190 = 10 ^ k.toNat := by rw [hx190, hwv, hkk]; omega
                          refine gf_iconst C dd_Mo_duel_192 ?_
                          refine gf_istore (lv' := [(7, .int (gf_i 0)), (5, .int (gf_i x190)), (6, .int (gf_i k)), (0, .ref (gf_ad E 65)), (4, .int (gf_i x50))]) C dd_Mo_duel_193 (by decide) rfl ?_
                          have L195_4 : ∀ (N : Nat) (r : Int) (m3 : gf_M) , (0 ≤ r ∧ r ≤ 10 ^ k.toNat ∧ (∀ s : Int, 0 ≤ s → s < r → m3 80 s = gm_fld lf x50 (x50 - 1 - (k - 1)).toNat s) ∧ (∀ s : Int, r ≤ s → s < 10 ^ (k + 1).toNat → m3 80 s = gm_fld lf x50 (x50 - 1 - k).toNat s) ∧ ∀ a b : Int, ¬ (a = 65 ∧ b = 15) → a ≠ 73 → a ≠ 80 → m3 a b = μ a b) → (10000 - r).toNat < N → gf_G X E Q 11 gf_φ m3 195 [(7, .int (gf_i r)), (0, .ref (gf_ad E 65)), (4, .int (gf_i x50)), (5, .int (gf_i x190)), (6, .int (gf_i k))] [] := by
                            intro N
                            induction N with
                            | zero => intro r m3 hinv hN; exact absurd hN (Nat.not_lt_zero _)
                            | succ N ih195_4 =>
                              intro r m3 hinv hN
                              have hinv0 := hinv
                              obtain ⟨hq0, hq1, hf1, hf2, hf3⟩ := hinv
                              refine gf_iload C dd_Mo_duel_195 0 rfl ?_
                              refine gf_iload C dd_Mo_duel_197 3 rfl ?_
                              refine gf_icmp_ge 296 C dd_Mo_duel_199 (by decide) (by omega) (by omega) (fun h199 => ?_) (fun h199 => ?_)
                              · skip
                                obtain ⟨x296, hx296⟩ : ∃ y : Int, y = k + (-1) := ⟨_, rfl⟩
                                refine gf_iinc (q := 4) (v := x296) (lv' := [(6, .int (gf_i x296)), (7, .int (gf_i r)), (0, .ref (gf_ad E 65)), (4, .int (gf_i x50)), (5, .int (gf_i x190))]) C dd_Mo_duel_296 rfl hx296 (by decide) rfl ?_
                                refine gf_goto 180 C dd_Mo_duel_299 (by decide) ?_
                                refine gf_lsub [4, 0, 2, 3] rfl ?_
                                exact ih180_3 x190 x296 m3 (by
                                        refine ⟨by omega, by omega, by rw [hw2, show x296 + 1 = k by omega], fun r2 h0 h1 => ?_, hf3⟩
                                        rw [show x296 + 1 = k by omega] at h1
                                        rw [show x296 = k - 1 by omega]
                                        exact hf1 r2 h0 (by omega)) (by omega)
                              · skip
                                have hrb : 10 * r + 9 < 10 ^ (k + 1).toNat := by rw [hkk]; omega
                                have hd9 : (x50 - 1 - (k - 1)).toNat = (x50 - 1 - k).toNat + 1 := by omega
                                have hv0 := hf2 (10 * r) (by omega) (by omega)
                                have hv0R := hfR (x50 - 1 - k).toNat (10 * r)
                                refine gf_aload_n C dd_Mo_duel_202 1 rfl ?_
                                refine gf_getA (r := 80) C gf_cl7 fl_Mo_57 dd_Mo_duel_203 rfl (show gf_is 81 65 0 7 26 by decide) (by decide) (by decide) ?_
                                refine gf_bipush C dd_Mo_duel_206 (by decide +kernel) ?_
                                refine gf_iload C dd_Mo_duel_208 0 rfl ?_
                                refine gf_imul C dd_Mo_duel_210 ?_
                                refine gf_iald C dd_Mo_duel_211 (show gf_is 81 80 1 0 10000 by decide) (by omega) (fun hv211 => ?_)
                                refine gf_nm (fun x212 hx212 => ?_)
                                refine gf_istore (lv' := [(8, .int (gf_i x212)), (7, .int (gf_i r)), (0, .ref (gf_ad E 65)), (4, .int (gf_i x50)), (5, .int (gf_i x190)), (6, .int (gf_i k))]) C dd_Mo_duel_212 (by decide) rfl ?_
                                refine gf_iconst C dd_Mo_duel_214 ?_
                                refine gf_istore (lv' := [(9, .int (gf_i 1)), (8, .int (gf_i x212)), (7, .int (gf_i r)), (0, .ref (gf_ad E 65)), (4, .int (gf_i x50)), (5, .int (gf_i x190)), (6, .int (gf_i k))]) C dd_Mo_duel_215 (by decide) rfl ?_
                                have L217_5 : ∀ (N : Nat) (v f : Int) , (1 ≤ f ∧ f ≤ 10 ∧ v = pf_bst (if k % 2 = 0 then 1 else 0) (fun f => gm_fld lf x50 (x50 - 1 - k).toNat (10 * r + f)) (f - 1).toNat ∧ 0 ≤ v ∧ v ≤ 10) → (10 - f).toNat < N → gf_G X E Q 11 gf_φ m3 217 [(8, .int (gf_i v)), (9, .int (gf_i f)), (0, .ref (gf_ad E 65)), (4, .int (gf_i x50)), (5, .int (gf_i x190)), (6, .int (gf_i k)), (7, .int (gf_i r))] [] := by
                                  intro N
                                  induction N with
                                  | zero => intro v f hinv hN; exact absurd hN (Nat.not_lt_zero _)
                                  | succ N ih217_5 =>
                                    intro v f hinv hN
                                    have hinv0 := hinv
                                    obtain ⟨hf0, hf10, hv, hvR⟩ := hinv
                                    refine gf_iload C dd_Mo_duel_217 1 rfl ?_
                                    refine gf_bipush C dd_Mo_duel_219 (by decide +kernel) ?_
                                    refine gf_icmp_ge 281 C dd_Mo_duel_221 (by decide) (by omega) (by omega) (fun h221 => ?_) (fun h221 => ?_)
                                    · skip
                                      refine gf_aload_n C dd_Mo_duel_281 2 rfl ?_
                                      refine gf_getA (r := 80) C gf_cl7 fl_Mo_57 dd_Mo_duel_282 rfl (show gf_is 81 65 0 7 26 by decide) (by decide) (by decide) ?_
                                      refine gf_iload C dd_Mo_duel_285 6 rfl ?_
                                      refine gf_iload C dd_Mo_duel_287 0 rfl ?_
                                      refine gf_iast C dd_Mo_duel_289 (show gf_is 81 80 1 0 10000 by decide) (by omega) (by omega) ?_
                                      refine gf_nmM (fun m289 hm289 => ?_)
                                      obtain ⟨x290, hx290⟩ : ∃ y : Int, y = r + 1 := ⟨_, rfl⟩
                                      refine gf_iinc (q := 6) (v := x290) (lv' := [(7, .int (gf_i x290)), (8, .int (gf_i v)), (9, .int (gf_i f)), (0, .ref (gf_ad E 65)), (4, .int (gf_i x50)), (5, .int (gf_i x190)), (6, .int (gf_i k))]) C dd_Mo_duel_290 rfl hx290 (by decide) rfl ?_
                                      refine gf_goto 195 C dd_Mo_duel_293 (by decide) ?_
                                      refine gf_lsub [0, 3, 4, 5, 6] rfl ?_
                                      exact ih195_4 x290 m289 (by
                                              refine ⟨by omega, by omega, fun s h0 h1 => ?_, fun s h0 h1 => by rw [hm289, gf_up_j (by omega)]; exact hf2 s (by omega) h1, fun a b h1 h2 h3 => by rw [hm289, gf_up_k h3]; exact hf3 a b h1 h2 h3⟩
                                              rw [hm289]
                                              by_cases e : s = r
                                              · rw [e, gf_up_s, hv, show (f - 1).toNat = 9 by omega, hd9]
                                                show _ = pf_bst (if (x50 - 1 - (((x50 - 1 - k).toNat : Nat) : Int)) % 2 = 0 then 1 else 0) (fun f => gm_fld lf x50 (x50 - 1 - k).toNat (10 * r + f)) 9
                                                rw [show x50 - 1 - (((x50 - 1 - k).toNat : Nat) : Int) = k by omega]
                                              · rw [gf_up_j e]; exact hf1 s h0 (by omega)) (by omega)
                                    · skip
                                      have hvf := hf2 (10 * r + f) (by omega) (by omega)
                                      have hvfR := hfR (x50 - 1 - k).toNat (10 * r + f)
                                      refine gf_aload_n C dd_Mo_duel_224 2 rfl ?_
                                      refine gf_getA (r := 80) C gf_cl7 fl_Mo_57 dd_Mo_duel_225 rfl (show gf_is 81 65 0 7 26 by decide) (by decide) (by decide) ?_
                                      refine gf_bipush C dd_Mo_duel_228 (by decide +kernel) ?_
                                      refine gf_iload C dd_Mo_duel_230 6 rfl ?_
                                      refine gf_imul C dd_Mo_duel_232 ?_
                                      refine gf_iload C dd_Mo_duel_233 1 rfl ?_
                                      refine gf_iadd C dd_Mo_duel_235 ?_
                                      refine gf_iald C dd_Mo_duel_236 (show gf_is 81 80 1 0 10000 by decide) (by omega) (fun hv236 => ?_)
                                      refine gf_nm (fun x237 hx237 => ?_)
                                      refine gf_istore (lv' := [(10, .int (gf_i x237)), (8, .int (gf_i v)), (9, .int (gf_i f)), (0, .ref (gf_ad E 65)), (4, .int (gf_i x50)), (5, .int (gf_i x190)), (6, .int (gf_i k)), (7, .int (gf_i r))]) C dd_Mo_duel_237 (by decide) rfl ?_
                                      refine gf_iload C dd_Mo_duel_239 0 rfl ?_
                                      refine gf_iload C dd_Mo_duel_241 1 rfl ?_
                                      refine gf_icmp_le 250 C dd_Mo_duel_243 (by decide) (by omega) (by omega) (fun h243 => ?_) (fun h243 => ?_)
                                      · skip
                                        refine gf_iconst C dd_Mo_duel_250 ?_
                                        refine gf_iload C dd_Mo_duel_251 6 rfl ?_
                                        refine gf_iconst C dd_Mo_duel_253 ?_
                                        refine gf_irem C dd_Mo_duel_254 (by omega) ?_
                                        refine gf_if_ne 262 C dd_Mo_duel_255 (by decide) (by omega) (fun h255 => ?_) (fun h255 => ?_)
                                        · skip
                                          refine gf_iconst C dd_Mo_duel_262 ?_
                                          refine gf_icmp_ne 271 C dd_Mo_duel_263 (by decide) (by omega) (by omega) (fun h263 => ?_) (fun h263 => ?_)
                                          · skip
                                            refine gf_iload C dd_Mo_duel_271 1 rfl ?_
                                            refine gf_istore (lv' := [(8, .int (gf_i v)), (10, .int (gf_i x237)), (9, .int (gf_i f)), (0, .ref (gf_ad E 65)), (4, .int (gf_i x50)), (5, .int (gf_i x190)), (6, .int (gf_i k)), (7, .int (gf_i r))]) C dd_Mo_duel_273 (by decide) rfl ?_
                                            obtain ⟨x275, hx275⟩ : ∃ y : Int, y = f + 1 := ⟨_, rfl⟩
                                            refine gf_iinc (q := 2) (v := x275) (lv' := [(9, .int (gf_i x275)), (8, .int (gf_i v)), (10, .int (gf_i x237)), (0, .ref (gf_ad E 65)), (4, .int (gf_i x50)), (5, .int (gf_i x190)), (6, .int (gf_i k)), (7, .int (gf_i r))]) C dd_Mo_duel_275 rfl hx275 (by decide) rfl ?_
                                            refine gf_goto 217 C dd_Mo_duel_278 (by decide) ?_
                                            refine gf_lsub [1, 0, 3, 4, 5, 6, 7] rfl ?_
                                            exact ih217_5 v x275 (by
                                                    refine ⟨by omega, by omega, ?_, by omega, by omega⟩
                                                    rw [show (x275 - 1).toNat = (f - 1).toNat + 1 by omega]
                                                    show _ = if (if k % 2 = 0 then (1 : Int) else 0) = 0 then gf_min (pf_bst _ _ (f - 1).toNat) (gm_fld lf x50 (x50 - 1 - k).toNat (10 * r + ((((f - 1).toNat : Nat) : Int) + 1))) else gf_max (pf_bst _ _ (f - 1).toNat) (gm_fld lf x50 (x50 - 1 - k).toNat (10 * r + ((((f - 1).toNat : Nat) : Int) + 1)))
                                                    rw [show (((f - 1).toNat : Nat) : Int) + 1 = f by omega, ← hv, ← hvf, ← hx237]
                                                    unfold gf_min gf_max
                                                    by_cases hpar : k % 2 = 0
                                                    · rw [if_pos hpar, if_neg (by decide)]
                                                      split <;> omega
                                                    · rw [if_neg hpar, if_pos rfl]
                                                      split <;> omega) (by omega)
                                          · skip
                                            refine gf_iload C dd_Mo_duel_266 0 rfl ?_
                                            refine gf_goto 273 C dd_Mo_duel_268 (by decide) ?_
                                            refine gf_istore (lv' := [(8, .int (gf_i x237)), (10, .int (gf_i x237)), (9, .int (gf_i f)), (0, .ref (gf_ad E 65)), (4, .int (gf_i x50)), (5, .int (gf_i x190)), (6, .int (gf_i k)), (7, .int (gf_i r))]) C dd_Mo_duel_273 (by decide) rfl ?_
                                            obtain ⟨x275, hx275⟩ : ∃ y : Int, y = f + 1 := ⟨_, rfl⟩
                                            refine gf_iinc (q := 2) (v := x275) (lv' := [(9, .int (gf_i x275)), (8, .int (gf_i x237)), (10, .int (gf_i x237)), (0, .ref (gf_ad E 65)), (4, .int (gf_i x50)), (5, .int (gf_i x190)), (6, .int (gf_i k)), (7, .int (gf_i r))]) C dd_Mo_duel_275 rfl hx275 (by decide) rfl ?_
                                            refine gf_goto 217 C dd_Mo_duel_278 (by decide) ?_
                                            refine gf_lsub [1, 0, 3, 4, 5, 6, 7] rfl ?_
                                            exact ih217_5 x237 x275 (by
                                                    refine ⟨by omega, by omega, ?_, by omega, by omega⟩
                                                    rw [show (x275 - 1).toNat = (f - 1).toNat + 1 by omega]
                                                    show _ = if (if k % 2 = 0 then (1 : Int) else 0) = 0 then gf_min (pf_bst _ _ (f - 1).toNat) (gm_fld lf x50 (x50 - 1 - k).toNat (10 * r + ((((f - 1).toNat : Nat) : Int) + 1))) else gf_max (pf_bst _ _ (f - 1).toNat) (gm_fld lf x50 (x50 - 1 - k).toNat (10 * r + ((((f - 1).toNat : Nat) : Int) + 1)))
                                                    rw [show (((f - 1).toNat : Nat) : Int) + 1 = f by omega, ← hv, ← hvf, ← hx237]
                                                    unfold gf_min gf_max
                                                    by_cases hpar : k % 2 = 0
                                                    · rw [if_pos hpar, if_neg (by decide)]
                                                      split <;> omega
                                                    · rw [if_neg hpar, if_pos rfl]
                                                      split <;> omega) (by omega)
                                        · skip
                                          refine gf_iconst C dd_Mo_duel_258 ?_
                                          refine gf_goto 263 C dd_Mo_duel_259 (by decide) ?_
                                          refine gf_icmp_ne 271 C dd_Mo_duel_263 (by decide) (by omega) (by omega) (fun h263 => ?_) (fun h263 => ?_)
                                          · skip
                                            refine gf_iload C dd_Mo_duel_271 1 rfl ?_
                                            refine gf_istore (lv' := [(8, .int (gf_i v)), (10, .int (gf_i x237)), (9, .int (gf_i f)), (0, .ref (gf_ad E 65)), (4, .int (gf_i x50)), (5, .int (gf_i x190)), (6, .int (gf_i k)), (7, .int (gf_i r))]) C dd_Mo_duel_273 (by decide) rfl ?_
                                            obtain ⟨x275, hx275⟩ : ∃ y : Int, y = f + 1 := ⟨_, rfl⟩
                                            refine gf_iinc (q := 2) (v := x275) (lv' := [(9, .int (gf_i x275)), (8, .int (gf_i v)), (10, .int (gf_i x237)), (0, .ref (gf_ad E 65)), (4, .int (gf_i x50)), (5, .int (gf_i x190)), (6, .int (gf_i k)), (7, .int (gf_i r))]) C dd_Mo_duel_275 rfl hx275 (by decide) rfl ?_
                                            refine gf_goto 217 C dd_Mo_duel_278 (by decide) ?_
                                            refine gf_lsub [1, 0, 3, 4, 5, 6, 7] rfl ?_
                                            exact ih217_5 v x275 (by
                                                    refine ⟨by omega, by omega, ?_, by omega, by omega⟩
                                                    rw [show (x275 - 1).toNat = (f - 1).toNat + 1 by omega]
                                                    show _ = if (if k % 2 = 0 then (1 : Int) else 0) = 0 then gf_min (pf_bst _ _ (f - 1).toNat) (gm_fld lf x50 (x50 - 1 - k).toNat (10 * r + ((((f - 1).toNat : Nat) : Int) + 1))) else gf_max (pf_bst _ _ (f - 1).toNat) (gm_fld lf x50 (x50 - 1 - k).toNat (10 * r + ((((f - 1).toNat : Nat) : Int) + 1)))
                                                    rw [show (((f - 1).toNat : Nat) : Int) + 1 = f by omega, ← hv, ← hvf, ← hx237]
                                                    unfold gf_min gf_max
                                                    by_cases hpar : k % 2 = 0
                                                    · rw [if_pos hpar, if_neg (by decide)]
                                                      split <;> omega
                                                    · rw [if_neg hpar, if_pos rfl]
                                                      split <;> omega) (by omega)
                                          · skip
                                            refine gf_iload C dd_Mo_duel_266 0 rfl ?_
                                            refine gf_goto 273 C dd_Mo_duel_268 (by decide) ?_
                                            refine gf_istore (lv' := [(8, .int (gf_i x237)), (10, .int (gf_i x237)), (9, .int (gf_i f)), (0, .ref (gf_ad E 65)), (4, .int (gf_i x50)), (5, .int (gf_i x190)), (6, .int (gf_i k)), (7, .int (gf_i r))]) C dd_Mo_duel_273 (by decide) rfl ?_
                                            obtain ⟨x275, hx275⟩ : ∃ y : Int, y = f + 1 := ⟨_, rfl⟩
                                            refine gf_iinc (q := 2) (v := x275) (lv' := [(9, .int (gf_i x275)), (8, .int (gf_i x237)), (10, .int (gf_i x237)), (0, .ref (gf_ad E 65)), (4, .int (gf_i x50)), (5, .int (gf_i x190)), (6, .int (gf_i k)), (7, .int (gf_i r))]) C dd_Mo_duel_275 rfl hx275 (by decide) rfl ?_
                                            refine gf_goto 217 C dd_Mo_duel_278 (by decide) ?_
                                            refine gf_lsub [1, 0, 3, 4, 5, 6, 7] rfl ?_
                                            exact ih217_5 x237 x275 (by
                                                    refine ⟨by omega, by omega, ?_, by omega, by omega⟩
                                                    rw [show (x275 - 1).toNat = (f - 1).toNat + 1 by omega]
                                                    show _ = if (if k % 2 = 0 then (1 : Int) else 0) = 0 then gf_min (pf_bst _ _ (f - 1).toNat) (gm_fld lf x50 (x50 - 1 - k).toNat (10 * r + ((((f - 1).toNat : Nat) : Int) + 1))) else gf_max (pf_bst _ _ (f - 1).toNat) (gm_fld lf x50 (x50 - 1 - k).toNat (10 * r + ((((f - 1).toNat : Nat) : Int) + 1)))
                                                    rw [show (((f - 1).toNat : Nat) : Int) + 1 = f by omega, ← hv, ← hvf, ← hx237]
                                                    unfold gf_min gf_max
                                                    by_cases hpar : k % 2 = 0
                                                    · rw [if_pos hpar, if_neg (by decide)]
                                                      split <;> omega
                                                    · rw [if_neg hpar, if_pos rfl]
                                                      split <;> omega) (by omega)
                                      · skip
                                        refine gf_iconst C dd_Mo_duel_246 ?_
                                        refine gf_goto 251 C dd_Mo_duel_247 (by decide) ?_
                                        refine gf_iload C dd_Mo_duel_251 6 rfl ?_
                                        refine gf_iconst C dd_Mo_duel_253 ?_
                                        refine gf_irem C dd_Mo_duel_254 (by omega) ?_
                                        refine gf_if_ne 262 C dd_Mo_duel_255 (by decide) (by omega) (fun h255 => ?_) (fun h255 => ?_)
                                        · skip
                                          refine gf_iconst C dd_Mo_duel_262 ?_
                                          refine gf_icmp_ne 271 C dd_Mo_duel_263 (by decide) (by omega) (by omega) (fun h263 => ?_) (fun h263 => ?_)
                                          · skip
                                            refine gf_iload C dd_Mo_duel_271 1 rfl ?_
                                            refine gf_istore (lv' := [(8, .int (gf_i v)), (10, .int (gf_i x237)), (9, .int (gf_i f)), (0, .ref (gf_ad E 65)), (4, .int (gf_i x50)), (5, .int (gf_i x190)), (6, .int (gf_i k)), (7, .int (gf_i r))]) C dd_Mo_duel_273 (by decide) rfl ?_
                                            obtain ⟨x275, hx275⟩ : ∃ y : Int, y = f + 1 := ⟨_, rfl⟩
                                            refine gf_iinc (q := 2) (v := x275) (lv' := [(9, .int (gf_i x275)), (8, .int (gf_i v)), (10, .int (gf_i x237)), (0, .ref (gf_ad E 65)), (4, .int (gf_i x50)), (5, .int (gf_i x190)), (6, .int (gf_i k)), (7, .int (gf_i r))]) C dd_Mo_duel_275 rfl hx275 (by decide) rfl ?_
                                            refine gf_goto 217 C dd_Mo_duel_278 (by decide) ?_
                                            refine gf_lsub [1, 0, 3, 4, 5, 6, 7] rfl ?_
                                            exact ih217_5 v x275 (by
                                                    refine ⟨by omega, by omega, ?_, by omega, by omega⟩
                                                    rw [show (x275 - 1).toNat = (f - 1).toNat + 1 by omega]
                                                    show _ = if (if k % 2 = 0 then (1 : Int) else 0) = 0 then gf_min (pf_bst _ _ (f - 1).toNat) (gm_fld lf x50 (x50 - 1 - k).toNat (10 * r + ((((f - 1).toNat : Nat) : Int) + 1))) else gf_max (pf_bst _ _ (f - 1).toNat) (gm_fld lf x50 (x50 - 1 - k).toNat (10 * r + ((((f - 1).toNat : Nat) : Int) + 1)))
                                                    rw [show (((f - 1).toNat : Nat) : Int) + 1 = f by omega, ← hv, ← hvf, ← hx237]
                                                    unfold gf_min gf_max
                                                    by_cases hpar : k % 2 = 0
                                                    · rw [if_pos hpar, if_neg (by decide)]
                                                      split <;> omega
                                                    · rw [if_neg hpar, if_pos rfl]
                                                      split <;> omega) (by omega)
                                          · skip
                                            refine gf_iload C dd_Mo_duel_266 0 rfl ?_
                                            refine gf_goto 273 C dd_Mo_duel_268 (by decide) ?_
                                            refine gf_istore (lv' := [(8, .int (gf_i x237)), (10, .int (gf_i x237)), (9, .int (gf_i f)), (0, .ref (gf_ad E 65)), (4, .int (gf_i x50)), (5, .int (gf_i x190)), (6, .int (gf_i k)), (7, .int (gf_i r))]) C dd_Mo_duel_273 (by decide) rfl ?_
                                            obtain ⟨x275, hx275⟩ : ∃ y : Int, y = f + 1 := ⟨_, rfl⟩
                                            refine gf_iinc (q := 2) (v := x275) (lv' := [(9, .int (gf_i x275)), (8, .int (gf_i x237)), (10, .int (gf_i x237)), (0, .ref (gf_ad E 65)), (4, .int (gf_i x50)), (5, .int (gf_i x190)), (6, .int (gf_i k)), (7, .int (gf_i r))]) C dd_Mo_duel_275 rfl hx275 (by decide) rfl ?_
                                            refine gf_goto 217 C dd_Mo_duel_278 (by decide) ?_
                                            refine gf_lsub [1, 0, 3, 4, 5, 6, 7] rfl ?_
                                            exact ih217_5 x237 x275 (by
                                                    refine ⟨by omega, by omega, ?_, by omega, by omega⟩
                                                    rw [show (x275 - 1).toNat = (f - 1).toNat + 1 by omega]
                                                    show _ = if (if k % 2 = 0 then (1 : Int) else 0) = 0 then gf_min (pf_bst _ _ (f - 1).toNat) (gm_fld lf x50 (x50 - 1 - k).toNat (10 * r + ((((f - 1).toNat : Nat) : Int) + 1))) else gf_max (pf_bst _ _ (f - 1).toNat) (gm_fld lf x50 (x50 - 1 - k).toNat (10 * r + ((((f - 1).toNat : Nat) : Int) + 1)))
                                                    rw [show (((f - 1).toNat : Nat) : Int) + 1 = f by omega, ← hv, ← hvf, ← hx237]
                                                    unfold gf_min gf_max
                                                    by_cases hpar : k % 2 = 0
                                                    · rw [if_pos hpar, if_neg (by decide)]
                                                      split <;> omega
                                                    · rw [if_neg hpar, if_pos rfl]
                                                      split <;> omega) (by omega)
                                        · skip
                                          refine gf_iconst C dd_Mo_duel_258 ?_
                                          refine gf_goto 263 C dd_Mo_duel_259 (by decide) ?_
                                          refine gf_icmp_ne 271 C dd_Mo_duel_263 (by decide) (by omega) (by omega) (fun h263 => ?_) (fun h263 => ?_)
                                          · skip
                                            refine gf_iload C dd_Mo_duel_271 1 rfl ?_
                                            refine gf_istore (lv' := [(8, .int (gf_i v)), (10, .int (gf_i x237)), (9, .int (gf_i f)), (0, .ref (gf_ad E 65)), (4, .int (gf_i x50)), (5, .int (gf_i x190)), (6, .int (gf_i k)), (7, .int (gf_i r))]) C dd_Mo_duel_273 (by decide) rfl ?_
                                            obtain ⟨x275, hx275⟩ : ∃ y : Int, y = f + 1 := ⟨_, rfl⟩
                                            refine gf_iinc (q := 2) (v := x275) (lv' := [(9, .int (gf_i x275)), (8, .int (gf_i v)), (10, .int (gf_i x237)), (0, .ref (gf_ad E 65)), (4, .int (gf_i x50)), (5, .int (gf_i x190)), (6, .int (gf_i k)), (7, .int (gf_i r))]) C dd_Mo_duel_275 rfl hx275 (by decide) rfl ?_
                                            refine gf_goto 217 C dd_Mo_duel_278 (by decide) ?_
                                            refine gf_lsub [1, 0, 3, 4, 5, 6, 7] rfl ?_
                                            exact ih217_5 v x275 (by
                                                    refine ⟨by omega, by omega, ?_, by omega, by omega⟩
                                                    rw [show (x275 - 1).toNat = (f - 1).toNat + 1 by omega]
                                                    show _ = if (if k % 2 = 0 then (1 : Int) else 0) = 0 then gf_min (pf_bst _ _ (f - 1).toNat) (gm_fld lf x50 (x50 - 1 - k).toNat (10 * r + ((((f - 1).toNat : Nat) : Int) + 1))) else gf_max (pf_bst _ _ (f - 1).toNat) (gm_fld lf x50 (x50 - 1 - k).toNat (10 * r + ((((f - 1).toNat : Nat) : Int) + 1)))
                                                    rw [show (((f - 1).toNat : Nat) : Int) + 1 = f by omega, ← hv, ← hvf, ← hx237]
                                                    unfold gf_min gf_max
                                                    by_cases hpar : k % 2 = 0
                                                    · rw [if_pos hpar, if_neg (by decide)]
                                                      split <;> omega
                                                    · rw [if_neg hpar, if_pos rfl]
                                                      split <;> omega) (by omega)
                                          · skip
                                            refine gf_iload C dd_Mo_duel_266 0 rfl ?_
                                            refine gf_goto 273 C dd_Mo_duel_268 (by decide) ?_
                                            refine gf_istore (lv' := [(8, .int (gf_i x237)), (10, .int (gf_i x237)), (9, .int (gf_i f)), (0, .ref (gf_ad E 65)), (4, .int (gf_i x50)), (5, .int (gf_i x190)), (6, .int (gf_i k)), (7, .int (gf_i r))]) C dd_Mo_duel_273 (by decide) rfl ?_
                                            obtain ⟨x275, hx275⟩ : ∃ y : Int, y = f + 1 := ⟨_, rfl⟩
                                            refine gf_iinc (q := 2) (v := x275) (lv' := [(9, .int (gf_i x275)), (8, .int (gf_i x237)), (10, .int (gf_i x237)), (0, .ref (gf_ad E 65)), (4, .int (gf_i x50)), (5, .int (gf_i x190)), (6, .int (gf_i k)), (7, .int (gf_i r))]) C dd_Mo_duel_275 rfl hx275 (by decide) rfl ?_
                                            refine gf_goto 217 C dd_Mo_duel_278 (by decide) ?_
                                            refine gf_lsub [1, 0, 3, 4, 5, 6, 7] rfl ?_
                                            exact ih217_5 x237 x275 (by
                                                    refine ⟨by omega, by omega, ?_, by omega, by omega⟩
                                                    rw [show (x275 - 1).toNat = (f - 1).toNat + 1 by omega]
                                                    show _ = if (if k % 2 = 0 then (1 : Int) else 0) = 0 then gf_min (pf_bst _ _ (f - 1).toNat) (gm_fld lf x50 (x50 - 1 - k).toNat (10 * r + ((((f - 1).toNat : Nat) : Int) + 1))) else gf_max (pf_bst _ _ (f - 1).toNat) (gm_fld lf x50 (x50 - 1 - k).toNat (10 * r + ((((f - 1).toNat : Nat) : Int) + 1)))
                                                    rw [show (((f - 1).toNat : Nat) : Int) + 1 = f by omega, ← hv, ← hvf, ← hx237]
                                                    unfold gf_min gf_max
                                                    by_cases hpar : k % 2 = 0
                                                    · rw [if_pos hpar, if_neg (by decide)]
                                                      split <;> omega
                                                    · rw [if_neg hpar, if_pos rfl]
                                                      split <;> omega) (by omega)
                                refine gf_lsub [1, 0, 3, 4, 5, 6, 2] rfl ?_
                                exact L217_5 _ x212 1 (⟨by omega, by omega, by rw [hx212, hv0]; show _ = gm_fld lf x50 (x50 - 1 - k).toNat (10 * r + 0); rw [Int.add_zero], by omega, by omega⟩) (Nat.lt_succ_self _)
                          refine gf_lsub [0, 3, 4, 1, 2] rfl ?_
                          exact L195_4 _ 0 m (⟨by omega, by omega, fun s h0 h1 => by omega, fun s h0 h1 => hfv s (by omega) h1, hff⟩) (Nat.lt_succ_self _)
                    refine gf_lsub [6, 0, 1, 5] rfl ?_
                    exact L180_3 _ w x178 m (⟨by omega, by omega, by rw [hw, show x178 + 1 = x50 by omega], fun r h0 h1 => by rw [show (x50 - 1 - x178).toNat = 0 by omega]; exact hall r h0 (by rw [show x178 + 1 = x50 by omega] at h1; exact h1), hrf⟩) (Nat.lt_succ_self _)
                  · skip
                    refine gf_iload C dd_Mo_duel_95 5 rfl ?_
                    refine gf_if_le 174 C dd_Mo_duel_97 (by decide) (by omega) (fun h97 => ?_) (fun h97 => ?_)
                    · skip
                      have hall : ∀ r : Int, 0 ≤ r → r < 10 ^ x50.toNat → m 80 r = lf r := fun r h0 h1 => by
                        rcases (show x50 = 0 ∨ 0 < x50 by omega) with h | h
                        · have hp0 : (10 : Int) ^ x50.toNat = 1 := by rw [h]; decide
                          have er : r = 0 := by omega
                          rcases (show row = 0 ∨ 0 < row by omega) with h2 | h2
                          · rcases hrz h2 with h3 | h3
                            · rw [er]; exact h3
                            · omega
                          · rw [er]; exact hrv 0 (by omega) h2
                        · exact hrv r h0 (by omega)
                      clear hrz hrv
                      refine gf_iload C dd_Mo_duel_174 5 rfl ?_
                      refine gf_iconst C dd_Mo_duel_176 ?_
                      refine gf_isub C dd_Mo_duel_177 ?_
                      refine gf_nm (fun x178 hx178 => ?_)
                      refine gf_istore (lv' := [(6, .int (gf_i x178)), (0, .ref (gf_ad E 65)), (1, .int (gf_i i)), (2, .int (gf_i n)), (3, .int (gf_i r24)), (4, .int (gf_i x50)), (5, .int (gf_i w))]) C dd_Mo_duel_178 (by decide) rfl ?_
                      have L180_6 : ∀ (N : Nat) (w k : Int) (m : gf_M) , (-1 ≤ k ∧ k ≤ x50 - 1 ∧ w = 10 ^ (k + 1).toNat ∧ (∀ r : Int, 0 ≤ r → r < 10 ^ (k + 1).toNat → m 80 r = gm_fld lf x50 (x50 - 1 - k).toNat r) ∧ ∀ a b : Int, ¬ (a = 65 ∧ b = 15) → a ≠ 73 → a ≠ 80 → m a b = μ a b) → (k + 1).toNat < N → gf_G X E Q 11 gf_φ m 180 [(5, .int (gf_i w)), (6, .int (gf_i k)), (0, .ref (gf_ad E 65)), (4, .int (gf_i x50))] [] := by
                        intro N
                        induction N with
                        | zero => intro w k m hinv hN; exact absurd hN (Nat.not_lt_zero _)
                        | succ N ih180_6 =>
                          intro w k m hinv hN
                          have hinv0 := hinv
                          obtain ⟨hk0, hk1, hwv, hfv, hff⟩ := hinv
                          have h104 := pf_10_4 (n := (k + 1).toNat) (by omega)
                          refine gf_iload C dd_Mo_duel_180 1 rfl ?_
                          refine gf_if_lt 302 C dd_Mo_duel_182 (by decide) (by omega) (fun h182 => ?_) (fun h182 => ?_)
                          · skip
                            refine gf_aload_n C dd_Mo_duel_302 2 rfl ?_
                            refine gf_getA (r := 80) C gf_cl7 fl_Mo_57 dd_Mo_duel_303 rfl (show gf_is 81 65 0 7 26 by decide) (by decide) (by decide) ?_
                            refine gf_iconst C dd_Mo_duel_306 ?_
                            refine gf_iald C dd_Mo_duel_307 (show gf_is 81 80 1 0 10000 by decide) (by omega) (fun hv307 => ?_)
                            refine gf_iret C hQ dd_Mo_duel_308 (by omega) ?_
                            refine ⟨fun h => absurd h (by omega), fun _ => ⟨?_, fun a b hab => by unfold gm_scr at hab; exact hff a b (by omega) (by omega) (by omega)⟩⟩
                            have ek : k = -1 := by omega
                            have := hfv 0 (by omega) (by omega)
                            rw [this, ek, show (x50 - 1 - -1).toNat = x50.toNat by omega]
                          · skip
                            have hkk : (10 : Int) ^ (k + 1).toNat = 10 ^ k.toNat * 10 := by rw [show (k + 1).toNat = k.toNat + 1 by omega, Int.pow_succ]
                            have h10k := pf_10_4 (n := k.toNat) (by omega)
                            refine gf_iload C dd_Mo_duel_185 0 rfl ?_
                            refine gf_bipush C dd_Mo_duel_187 (by decide +kernel) ?_
                            refine gf_idiv C dd_Mo_duel_189 (by omega) ?_
                            refine gf_nm (fun x190 hx190 => ?_)
                            refine gf_istore (lv' := [(5, .int (gf_i x190)), (6, .int (gf_i k)), (0, .ref (gf_ad E 65)), (4, .int (gf_i x50))]) C dd_Mo_duel_190 (by decide) rfl ?_
                            have hw2 : x190 = 10 ^ k.toNat := by rw [hx190, hwv, hkk]; omega
                            refine gf_iconst C dd_Mo_duel_192 ?_
                            refine gf_istore (lv' := [(7, .int (gf_i 0)), (5, .int (gf_i x190)), (6, .int (gf_i k)), (0, .ref (gf_ad E 65)), (4, .int (gf_i x50))]) C dd_Mo_duel_193 (by decide) rfl ?_
                            have L195_7 : ∀ (N : Nat) (r : Int) (m3 : gf_M) , (0 ≤ r ∧ r ≤ 10 ^ k.toNat ∧ (∀ s : Int, 0 ≤ s → s < r → m3 80 s = gm_fld lf x50 (x50 - 1 - (k - 1)).toNat s) ∧ (∀ s : Int, r ≤ s → s < 10 ^ (k + 1).toNat → m3 80 s = gm_fld lf x50 (x50 - 1 - k).toNat s) ∧ ∀ a b : Int, ¬ (a = 65 ∧ b = 15) → a ≠ 73 → a ≠ 80 → m3 a b = μ a b) → (10000 - r).toNat < N → gf_G X E Q 11 gf_φ m3 195 [(7, .int (gf_i r)), (0, .ref (gf_ad E 65)), (4, .int (gf_i x50)), (5, .int (gf_i x190)), (6, .int (gf_i k))] [] := by
                              intro N
                              induction N with
                              | zero => intro r m3 hinv hN; exact absurd hN (Nat.not_lt_zero _)
                              | succ N ih195_7 =>
                                intro r m3 hinv hN
                                have hinv0 := hinv
                                obtain ⟨hq0, hq1, hf1, hf2, hf3⟩ := hinv
                                refine gf_iload C dd_Mo_duel_195 0 rfl ?_
                                refine gf_iload C dd_Mo_duel_197 3 rfl ?_
                                refine gf_icmp_ge 296 C dd_Mo_duel_199 (by decide) (by omega) (by omega) (fun h199 => ?_) (fun h199 => ?_)
                                · skip
                                  obtain ⟨x296, hx296⟩ : ∃ y : Int, y = k + (-1) := ⟨_, rfl⟩
                                  refine gf_iinc (q := 4) (v := x296) (lv' := [(6, .int (gf_i x296)), (7, .int (gf_i r)), (0, .ref (gf_ad E 65)), (4, .int (gf_i x50)), (5, .int (gf_i x190))]) C dd_Mo_duel_296 rfl hx296 (by decide) rfl ?_
                                  refine gf_goto 180 C dd_Mo_duel_299 (by decide) ?_
                                  refine gf_lsub [4, 0, 2, 3] rfl ?_
                                  exact ih180_6 x190 x296 m3 (by
                                          refine ⟨by omega, by omega, by rw [hw2, show x296 + 1 = k by omega], fun r2 h0 h1 => ?_, hf3⟩
                                          rw [show x296 + 1 = k by omega] at h1
                                          rw [show x296 = k - 1 by omega]
                                          exact hf1 r2 h0 (by omega)) (by omega)
                                · skip
                                  have hrb : 10 * r + 9 < 10 ^ (k + 1).toNat := by rw [hkk]; omega
                                  have hd9 : (x50 - 1 - (k - 1)).toNat = (x50 - 1 - k).toNat + 1 := by omega
                                  have hv0 := hf2 (10 * r) (by omega) (by omega)
                                  have hv0R := hfR (x50 - 1 - k).toNat (10 * r)
                                  refine gf_aload_n C dd_Mo_duel_202 1 rfl ?_
                                  refine gf_getA (r := 80) C gf_cl7 fl_Mo_57 dd_Mo_duel_203 rfl (show gf_is 81 65 0 7 26 by decide) (by decide) (by decide) ?_
                                  refine gf_bipush C dd_Mo_duel_206 (by decide +kernel) ?_
                                  refine gf_iload C dd_Mo_duel_208 0 rfl ?_
                                  refine gf_imul C dd_Mo_duel_210 ?_
                                  refine gf_iald C dd_Mo_duel_211 (show gf_is 81 80 1 0 10000 by decide) (by omega) (fun hv211 => ?_)
                                  refine gf_nm (fun x212 hx212 => ?_)
                                  refine gf_istore (lv' := [(8, .int (gf_i x212)), (7, .int (gf_i r)), (0, .ref (gf_ad E 65)), (4, .int (gf_i x50)), (5, .int (gf_i x190)), (6, .int (gf_i k))]) C dd_Mo_duel_212 (by decide) rfl ?_
                                  refine gf_iconst C dd_Mo_duel_214 ?_
                                  refine gf_istore (lv' := [(9, .int (gf_i 1)), (8, .int (gf_i x212)), (7, .int (gf_i r)), (0, .ref (gf_ad E 65)), (4, .int (gf_i x50)), (5, .int (gf_i x190)), (6, .int (gf_i k))]) C dd_Mo_duel_215 (by decide) rfl ?_
                                  have L217_8 : ∀ (N : Nat) (v f : Int) , (1 ≤ f ∧ f ≤ 10 ∧ v = pf_bst (if k % 2 = 0 then 1 else 0) (fun f => gm_fld lf x50 (x50 - 1 - k).toNat (10 * r + f)) (f - 1).toNat ∧ 0 ≤ v ∧ v ≤ 10) → (10 - f).toNat < N → gf_G X E Q 11 gf_φ m3 217 [(8, .int (gf_i v)), (9, .int (gf_i f)), (0, .ref (gf_ad E 65)), (4, .int (gf_i x50)), (5, .int (gf_i x190)), (6, .int (gf_i k)), (7, .int (gf_i r))] [] := by
                                    intro N
                                    induction N with
                                    | zero => intro v f hinv hN; exact absurd hN (Nat.not_lt_zero _)
                                    | succ N ih217_8 =>
                                      intro v f hinv hN
                                      have hinv0 := hinv
                                      obtain ⟨hf0, hf10, hv, hvR⟩ := hinv
                                      refine gf_iload C dd_Mo_duel_217 1 rfl ?_
                                      refine gf_bipush C dd_Mo_duel_219 (by decide +kernel) ?_
                                      refine gf_icmp_ge 281 C dd_Mo_duel_221 (by decide) (by omega) (by omega) (fun h221 => ?_) (fun h221 => ?_)
                                      · skip
                                        refine gf_aload_n C dd_Mo_duel_281 2 rfl ?_
                                        refine gf_getA (r := 80) C gf_cl7 fl_Mo_57 dd_Mo_duel_282 rfl (show gf_is 81 65 0 7 26 by decide) (by decide) (by decide) ?_
                                        refine gf_iload C dd_Mo_duel_285 6 rfl ?_
                                        refine gf_iload C dd_Mo_duel_287 0 rfl ?_
                                        refine gf_iast C dd_Mo_duel_289 (show gf_is 81 80 1 0 10000 by decide) (by omega) (by omega) ?_
                                        refine gf_nmM (fun m289 hm289 => ?_)
                                        obtain ⟨x290, hx290⟩ : ∃ y : Int, y = r + 1 := ⟨_, rfl⟩
                                        refine gf_iinc (q := 6) (v := x290) (lv' := [(7, .int (gf_i x290)), (8, .int (gf_i v)), (9, .int (gf_i f)), (0, .ref (gf_ad E 65)), (4, .int (gf_i x50)), (5, .int (gf_i x190)), (6, .int (gf_i k))]) C dd_Mo_duel_290 rfl hx290 (by decide) rfl ?_
                                        refine gf_goto 195 C dd_Mo_duel_293 (by decide) ?_
                                        refine gf_lsub [0, 3, 4, 5, 6] rfl ?_
                                        exact ih195_7 x290 m289 (by
                                                refine ⟨by omega, by omega, fun s h0 h1 => ?_, fun s h0 h1 => by rw [hm289, gf_up_j (by omega)]; exact hf2 s (by omega) h1, fun a b h1 h2 h3 => by rw [hm289, gf_up_k h3]; exact hf3 a b h1 h2 h3⟩
                                                rw [hm289]
                                                by_cases e : s = r
                                                · rw [e, gf_up_s, hv, show (f - 1).toNat = 9 by omega, hd9]
                                                  show _ = pf_bst (if (x50 - 1 - (((x50 - 1 - k).toNat : Nat) : Int)) % 2 = 0 then 1 else 0) (fun f => gm_fld lf x50 (x50 - 1 - k).toNat (10 * r + f)) 9
                                                  rw [show x50 - 1 - (((x50 - 1 - k).toNat : Nat) : Int) = k by omega]
                                                · rw [gf_up_j e]; exact hf1 s h0 (by omega)) (by omega)
                                      · skip
                                        have hvf := hf2 (10 * r + f) (by omega) (by omega)
                                        have hvfR := hfR (x50 - 1 - k).toNat (10 * r + f)
                                        refine gf_aload_n C dd_Mo_duel_224 2 rfl ?_
                                        refine gf_getA (r := 80) C gf_cl7 fl_Mo_57 dd_Mo_duel_225 rfl (show gf_is 81 65 0 7 26 by decide) (by decide) (by decide) ?_
                                        refine gf_bipush C dd_Mo_duel_228 (by decide +kernel) ?_
                                        refine gf_iload C dd_Mo_duel_230 6 rfl ?_
                                        refine gf_imul C dd_Mo_duel_232 ?_
                                        refine gf_iload C dd_Mo_duel_233 1 rfl ?_
                                        refine gf_iadd C dd_Mo_duel_235 ?_
                                        refine gf_iald C dd_Mo_duel_236 (show gf_is 81 80 1 0 10000 by decide) (by omega) (fun hv236 => ?_)
                                        refine gf_nm (fun x237 hx237 => ?_)
                                        refine gf_istore (lv' := [(10, .int (gf_i x237)), (8, .int (gf_i v)), (9, .int (gf_i f)), (0, .ref (gf_ad E 65)), (4, .int (gf_i x50)), (5, .int (gf_i x190)), (6, .int (gf_i k)), (7, .int (gf_i r))]) C dd_Mo_duel_237 (by decide) rfl ?_
                                        refine gf_iload C dd_Mo_duel_239 0 rfl ?_
                                        refine gf_iload C dd_Mo_duel_241 1 rfl ?_
                                        refine gf_icmp_le 250 C dd_Mo_duel_243 (by decide) (by omega) (by omega) (fun h243 => ?_) (fun h243 => ?_)
                                        · skip
                                          refine gf_iconst C dd_Mo_duel_250 ?_
                                          refine gf_iload C dd_Mo_duel_251 6 rfl ?_
                                          refine gf_iconst C dd_Mo_duel_253 ?_
                                          refine gf_irem C dd_Mo_duel_254 (by omega) ?_
                                          refine gf_if_ne 262 C dd_Mo_duel_255 (by decide) (by omega) (fun h255 => ?_) (fun h255 => ?_)
                                          · skip
                                            refine gf_iconst C dd_Mo_duel_262 ?_
                                            refine gf_icmp_ne 271 C dd_Mo_duel_263 (by decide) (by omega) (by omega) (fun h263 => ?_) (fun h263 => ?_)
                                            · skip
                                              refine gf_iload C dd_Mo_duel_271 1 rfl ?_
                                              refine gf_istore (lv' := [(8, .int (gf_i v)), (10, .int (gf_i x237)), (9, .int (gf_i f)), (0, .ref (gf_ad E 65)), (4, .int (gf_i x50)), (5, .int (gf_i x190)), (6, .int (gf_i k)), (7, .int (gf_i r))]) C dd_Mo_duel_273 (by decide) rfl ?_
                                              obtain ⟨x275, hx275⟩ : ∃ y : Int, y = f + 1 := ⟨_, rfl⟩
                                              refine gf_iinc (q := 2) (v := x275) (lv' := [(9, .int (gf_i x275)), (8, .int (gf_i v)), (10, .int (gf_i x237)), (0, .ref (gf_ad E 65)), (4, .int (gf_i x50)), (5, .int (gf_i x190)), (6, .int (gf_i k)), (7, .int (gf_i r))]) C dd_Mo_duel_275 rfl hx275 (by decide) rfl ?_
                                              refine gf_goto 217 C dd_Mo_duel_278 (by decide) ?_
                                              refine gf_lsub [1, 0, 3, 4, 5, 6, 7] rfl ?_
                                              exact ih217_8 v x275 (by
                                                      refine ⟨by omega, by omega, ?_, by omega, by omega⟩
                                                      rw [show (x275 - 1).toNat = (f - 1).toNat + 1 by omega]
                                                      show _ = if (if k % 2 = 0 then (1 : Int) else 0) = 0 then gf_min (pf_bst _ _ (f - 1).toNat) (gm_fld lf x50 (x50 - 1 - k).toNat (10 * r + ((((f - 1).toNat : Nat) : Int) + 1))) else gf_max (pf_bst _ _ (f - 1).toNat) (gm_fld lf x50 (x50 - 1 - k).toNat (10 * r + ((((f - 1).toNat : Nat) : Int) + 1)))
                                                      rw [show (((f - 1).toNat : Nat) : Int) + 1 = f by omega, ← hv, ← hvf, ← hx237]
                                                      unfold gf_min gf_max
                                                      by_cases hpar : k % 2 = 0
                                                      · rw [if_pos hpar, if_neg (by decide)]
                                                        split <;> omega
                                                      · rw [if_neg hpar, if_pos rfl]
                                                        split <;> omega) (by omega)
                                            · skip
                                              refine gf_iload C dd_Mo_duel_266 0 rfl ?_
                                              refine gf_goto 273 C dd_Mo_duel_268 (by decide) ?_
                                              refine gf_istore (lv' := [(8, .int (gf_i x237)), (10, .int (gf_i x237)), (9, .int (gf_i f)), (0, .ref (gf_ad E 65)), (4, .int (gf_i x50)), (5, .int (gf_i x190)), (6, .int (gf_i k)), (7, .int (gf_i r))]) C dd_Mo_duel_273 (by decide) rfl ?_
                                              obtain ⟨x275, hx275⟩ : ∃ y : Int, y = f + 1 := ⟨_, rfl⟩
                                              refine gf_iinc (q := 2) (v := x275) (lv' := [(9, .int (gf_i x275)), (8, .int (gf_i x237)), (10, .int (gf_i x237)), (0, .ref (gf_ad E 65)), (4, .int (gf_i x50)), (5, .int (gf_i x190)), (6, .int (gf_i k)), (7, .int (gf_i r))]) C dd_Mo_duel_275 rfl hx275 (by decide) rfl ?_
                                              refine gf_goto 217 C dd_Mo_duel_278 (by decide) ?_
                                              refine gf_lsub [1, 0, 3, 4, 5, 6, 7] rfl ?_
                                              exact ih217_8 x237 x275 (by
                                                      refine ⟨by omega, by omega, ?_, by omega, by omega⟩
                                                      rw [show (x275 - 1).toNat = (f - 1).toNat + 1 by omega]
                                                      show _ = if (if k % 2 = 0 then (1 : Int) else 0) = 0 then gf_min (pf_bst _ _ (f - 1).toNat) (gm_fld lf x50 (x50 - 1 - k).toNat (10 * r + ((((f - 1).toNat : Nat) : Int) + 1))) else gf_max (pf_bst _ _ (f - 1).toNat) (gm_fld lf x50 (x50 - 1 - k).toNat (10 * r + ((((f - 1).toNat : Nat) : Int) + 1)))
                                                      rw [show (((f - 1).toNat : Nat) : Int) + 1 = f by omega, ← hv, ← hvf, ← hx237]
                                                      unfold gf_min gf_max
                                                      by_cases hpar : k % 2 = 0
                                                      · rw [if_pos hpar, if_neg (by decide)]
                                                        split <;> omega
                                                      · rw [if_neg hpar, if_pos rfl]
                                                        split <;> omega) (by omega)
                                          · skip
                                            refine gf_iconst C dd_Mo_duel_258 ?_
                                            refine gf_goto 263 C dd_Mo_duel_259 (by decide) ?_
                                            refine gf_icmp_ne 271 C dd_Mo_duel_263 (by decide) (by omega) (by omega) (fun h263 => ?_) (fun h263 => ?_)
                                            · skip
                                              refine gf_iload C dd_Mo_duel_271 1 rfl ?_
                                              refine gf_istore (lv' := [(8, .int (gf_i v)), (10, .int (gf_i x237)), (9, .int (gf_i f)), (0, .ref (gf_ad E 65)), (4, .int (gf_i x50)), (5, .int (gf_i x190)), (6, .int (gf_i k)), (7, .int (gf_i r))]) C dd_Mo_duel_273 (by decide) rfl ?_
                                              obtain ⟨x275, hx275⟩ : ∃ y : Int, y = f + 1 := ⟨_, rfl⟩
                                              refine gf_iinc (q := 2) (v := x275) (lv' := [(9, .int (gf_i x275)), (8, .int (gf_i v)), (10, .int (gf_i x237)), (0, .ref (gf_ad E 65)), (4, .int (gf_i x50)), (5, .int (gf_i x190)), (6, .int (gf_i k)), (7, .int (gf_i r))]) C dd_Mo_duel_275 rfl hx275 (by decide) rfl ?_
                                              refine gf_goto 217 C dd_Mo_duel_278 (by decide) ?_
                                              refine gf_lsub [1, 0, 3, 4, 5, 6, 7] rfl ?_
                                              exact ih217_8 v x275 (by
                                                      refine ⟨by omega, by omega, ?_, by omega, by omega⟩
                                                      rw [show (x275 - 1).toNat = (f - 1).toNat + 1 by omega]
                                                      show _ = if (if k % 2 = 0 then (1 : Int) else 0) = 0 then gf_min (pf_bst _ _ (f - 1).toNat) (gm_fld lf x50 (x50 - 1 - k).toNat (10 * r + ((((f - 1).toNat : Nat) : Int) + 1))) else gf_max (pf_bst _ _ (f - 1).toNat) (gm_fld lf x50 (x50 - 1 - k).toNat (10 * r + ((((f - 1).toNat : Nat) : Int) + 1)))
                                                      rw [show (((f - 1).toNat : Nat) : Int) + 1 = f by omega, ← hv, ← hvf, ← hx237]
                                                      unfold gf_min gf_max
                                                      by_cases hpar : k % 2 = 0
                                                      · rw [if_pos hpar, if_neg (by decide)]
                                                        split <;> omega
                                                      · rw [if_neg hpar, if_pos rfl]
                                                        split <;> omega) (by omega)
                                            · skip
                                              refine gf_iload C dd_Mo_duel_266 0 rfl ?_
                                              refine gf_goto 273 C dd_Mo_duel_268 (by decide) ?_
                                              refine gf_istore (lv' := [(8, .int (gf_i x237)), (10, .int (gf_i x237)), (9, .int (gf_i f)), (0, .ref (gf_ad E 65)), (4, .int (gf_i x50)), (5, .int (gf_i x190)), (6, .int (gf_i k)), (7, .int (gf_i r))]) C dd_Mo_duel_273 (by decide) rfl ?_
                                              obtain ⟨x275, hx275⟩ : ∃ y : Int, y = f + 1 := ⟨_, rfl⟩
                                              refine gf_iinc (q := 2) (v := x275) (lv' := [(9, .int (gf_i x275)), (8, .int (gf_i x237)), (10, .int (gf_i x237)), (0, .ref (gf_ad E 65)), (4, .int (gf_i x50)), (5, .int (gf_i x190)), (6, .int (gf_i k)), (7, .int (gf_i r))]) C dd_Mo_duel_275 rfl hx275 (by decide) rfl ?_
                                              refine gf_goto 217 C dd_Mo_duel_278 (by decide) ?_
                                              refine gf_lsub [1, 0, 3, 4, 5, 6, 7] rfl ?_
                                              exact ih217_8 x237 x275 (by
                                                      refine ⟨by omega, by omega, ?_, by omega, by omega⟩
                                                      rw [show (x275 - 1).toNat = (f - 1).toNat + 1 by omega]
                                                      show _ = if (if k % 2 = 0 then (1 : Int) else 0) = 0 then gf_min (pf_bst _ _ (f - 1).toNat) (gm_fld lf x50 (x50 - 1 - k).toNat (10 * r + ((((f - 1).toNat : Nat) : Int) + 1))) else gf_max (pf_bst _ _ (f - 1).toNat) (gm_fld lf x50 (x50 - 1 - k).toNat (10 * r + ((((f - 1).toNat : Nat) : Int) + 1)))
                                                      rw [show (((f - 1).toNat : Nat) : Int) + 1 = f by omega, ← hv, ← hvf, ← hx237]
                                                      unfold gf_min gf_max
                                                      by_cases hpar : k % 2 = 0
                                                      · rw [if_pos hpar, if_neg (by decide)]
                                                        split <;> omega
                                                      · rw [if_neg hpar, if_pos rfl]
                                                        split <;> omega) (by omega)
                                        · skip
                                          refine gf_iconst C dd_Mo_duel_246 ?_
                                          refine gf_goto 251 C dd_Mo_duel_247 (by decide) ?_
                                          refine gf_iload C dd_Mo_duel_251 6 rfl ?_
                                          refine gf_iconst C dd_Mo_duel_253 ?_
                                          refine gf_irem C dd_Mo_duel_254 (by omega) ?_
                                          refine gf_if_ne 262 C dd_Mo_duel_255 (by decide) (by omega) (fun h255 => ?_) (fun h255 => ?_)
                                          · skip
                                            refine gf_iconst C dd_Mo_duel_262 ?_
                                            refine gf_icmp_ne 271 C dd_Mo_duel_263 (by decide) (by omega) (by omega) (fun h263 => ?_) (fun h263 => ?_)
                                            · skip
                                              refine gf_iload C dd_Mo_duel_271 1 rfl ?_
                                              refine gf_istore (lv' := [(8, .int (gf_i v)), (10, .int (gf_i x237)), (9, .int (gf_i f)), (0, .ref (gf_ad E 65)), (4, .int (gf_i x50)), (5, .int (gf_i x190)), (6, .int (gf_i k)), (7, .int (gf_i r))]) C dd_Mo_duel_273 (by decide) rfl ?_
                                              obtain ⟨x275, hx275⟩ : ∃ y : Int, y = f + 1 := ⟨_, rfl⟩
                                              refine gf_iinc (q := 2) (v := x275) (lv' := [(9, .int (gf_i x275)), (8, .int (gf_i v)), (10, .int (gf_i x237)), (0, .ref (gf_ad E 65)), (4, .int (gf_i x50)), (5, .int (gf_i x190)), (6, .int (gf_i k)), (7, .int (gf_i r))]) C dd_Mo_duel_275 rfl hx275 (by decide) rfl ?_
                                              refine gf_goto 217 C dd_Mo_duel_278 (by decide) ?_
                                              refine gf_lsub [1, 0, 3, 4, 5, 6, 7] rfl ?_
                                              exact ih217_8 v x275 (by
                                                      refine ⟨by omega, by omega, ?_, by omega, by omega⟩
                                                      rw [show (x275 - 1).toNat = (f - 1).toNat + 1 by omega]
                                                      show _ = if (if k % 2 = 0 then (1 : Int) else 0) = 0 then gf_min (pf_bst _ _ (f - 1).toNat) (gm_fld lf x50 (x50 - 1 - k).toNat (10 * r + ((((f - 1).toNat : Nat) : Int) + 1))) else gf_max (pf_bst _ _ (f - 1).toNat) (gm_fld lf x50 (x50 - 1 - k).toNat (10 * r + ((((f - 1).toNat : Nat) : Int) + 1)))
                                                      rw [show (((f - 1).toNat : Nat) : Int) + 1 = f by omega, ← hv, ← hvf, ← hx237]
                                                      unfold gf_min gf_max
                                                      by_cases hpar : k % 2 = 0
                                                      · rw [if_pos hpar, if_neg (by decide)]
                                                        split <;> omega
                                                      · rw [if_neg hpar, if_pos rfl]
                                                        split <;> omega) (by omega)
                                            · skip
                                              refine gf_iload C dd_Mo_duel_266 0 rfl ?_
                                              refine gf_goto 273 C dd_Mo_duel_268 (by decide) ?_
                                              refine gf_istore (lv' := [(8, .int (gf_i x237)), (10, .int (gf_i x237)), (9, .int (gf_i f)), (0, .ref (gf_ad E 65)), (4, .int (gf_i x50)), (5, .int (gf_i x190)), (6, .int (gf_i k)), (7, .int (gf_i r))]) C dd_Mo_duel_273 (by decide) rfl ?_
                                              obtain ⟨x275, hx275⟩ : ∃ y : Int, y = f + 1 := ⟨_, rfl⟩
                                              refine gf_iinc (q := 2) (v := x275) (lv' := [(9, .int (gf_i x275)), (8, .int (gf_i x237)), (10, .int (gf_i x237)), (0, .ref (gf_ad E 65)), (4, .int (gf_i x50)), (5, .int (gf_i x190)), (6, .int (gf_i k)), (7, .int (gf_i r))]) C dd_Mo_duel_275 rfl hx275 (by decide) rfl ?_
                                              refine gf_goto 217 C dd_Mo_duel_278 (by decide) ?_
                                              refine gf_lsub [1, 0, 3, 4, 5, 6, 7] rfl ?_
                                              exact ih217_8 x237 x275 (by
                                                      refine ⟨by omega, by omega, ?_, by omega, by omega⟩
                                                      rw [show (x275 - 1).toNat = (f - 1).toNat + 1 by omega]
                                                      show _ = if (if k % 2 = 0 then (1 : Int) else 0) = 0 then gf_min (pf_bst _ _ (f - 1).toNat) (gm_fld lf x50 (x50 - 1 - k).toNat (10 * r + ((((f - 1).toNat : Nat) : Int) + 1))) else gf_max (pf_bst _ _ (f - 1).toNat) (gm_fld lf x50 (x50 - 1 - k).toNat (10 * r + ((((f - 1).toNat : Nat) : Int) + 1)))
                                                      rw [show (((f - 1).toNat : Nat) : Int) + 1 = f by omega, ← hv, ← hvf, ← hx237]
                                                      unfold gf_min gf_max
                                                      by_cases hpar : k % 2 = 0
                                                      · rw [if_pos hpar, if_neg (by decide)]
                                                        split <;> omega
                                                      · rw [if_neg hpar, if_pos rfl]
                                                        split <;> omega) (by omega)
                                          · skip
                                            refine gf_iconst C dd_Mo_duel_258 ?_
                                            refine gf_goto 263 C dd_Mo_duel_259 (by decide) ?_
                                            refine gf_icmp_ne 271 C dd_Mo_duel_263 (by decide) (by omega) (by omega) (fun h263 => ?_) (fun h263 => ?_)
                                            · skip
                                              refine gf_iload C dd_Mo_duel_271 1 rfl ?_
                                              refine gf_istore (lv' := [(8, .int (gf_i v)), (10, .int (gf_i x237)), (9, .int (gf_i f)), (0, .ref (gf_ad E 65)), (4, .int (gf_i x50)), (5, .int (gf_i x190)), (6, .int (gf_i k)), (7, .int (gf_i r))]) C dd_Mo_duel_273 (by decide) rfl ?_
                                              obtain ⟨x275, hx275⟩ : ∃ y : Int, y = f + 1 := ⟨_, rfl⟩
                                              refine gf_iinc (q := 2) (v := x275) (lv' := [(9, .int (gf_i x275)), (8, .int (gf_i v)), (10, .int (gf_i x237)), (0, .ref (gf_ad E 65)), (4, .int (gf_i x50)), (5, .int (gf_i x190)), (6, .int (gf_i k)), (7, .int (gf_i r))]) C dd_Mo_duel_275 rfl hx275 (by decide) rfl ?_
                                              refine gf_goto 217 C dd_Mo_duel_278 (by decide) ?_
                                              refine gf_lsub [1, 0, 3, 4, 5, 6, 7] rfl ?_
                                              exact ih217_8 v x275 (by
                                                      refine ⟨by omega, by omega, ?_, by omega, by omega⟩
                                                      rw [show (x275 - 1).toNat = (f - 1).toNat + 1 by omega]
                                                      show _ = if (if k % 2 = 0 then (1 : Int) else 0) = 0 then gf_min (pf_bst _ _ (f - 1).toNat) (gm_fld lf x50 (x50 - 1 - k).toNat (10 * r + ((((f - 1).toNat : Nat) : Int) + 1))) else gf_max (pf_bst _ _ (f - 1).toNat) (gm_fld lf x50 (x50 - 1 - k).toNat (10 * r + ((((f - 1).toNat : Nat) : Int) + 1)))
                                                      rw [show (((f - 1).toNat : Nat) : Int) + 1 = f by omega, ← hv, ← hvf, ← hx237]
                                                      unfold gf_min gf_max
                                                      by_cases hpar : k % 2 = 0
                                                      · rw [if_pos hpar, if_neg (by decide)]
                                                        split <;> omega
                                                      · rw [if_neg hpar, if_pos rfl]
                                                        split <;> omega) (by omega)
                                            · skip
                                              refine gf_iload C dd_Mo_duel_266 0 rfl ?_
                                              refine gf_goto 273 C dd_Mo_duel_268 (by decide) ?_
                                              refine gf_istore (lv' := [(8, .int (gf_i x237)), (10, .int (gf_i x237)), (9, .int (gf_i f)), (0, .ref (gf_ad E 65)), (4, .int (gf_i x50)), (5, .int (gf_i x190)), (6, .int (gf_i k)), (7, .int (gf_i r))]) C dd_Mo_duel_273 (by decide) rfl ?_
                                              obtain ⟨x275, hx275⟩ : ∃ y : Int, y = f + 1 := ⟨_, rfl⟩
                                              refine gf_iinc (q := 2) (v := x275) (lv' := [(9, .int (gf_i x275)), (8, .int (gf_i x237)), (10, .int (gf_i x237)), (0, .ref (gf_ad E 65)), (4, .int (gf_i x50)), (5, .int (gf_i x190)), (6, .int (gf_i k)), (7, .int (gf_i r))]) C dd_Mo_duel_275 rfl hx275 (by decide) rfl ?_
                                              refine gf_goto 217 C dd_Mo_duel_278 (by decide) ?_
                                              refine gf_lsub [1, 0, 3, 4, 5, 6, 7] rfl ?_
                                              exact ih217_8 x237 x275 (by
                                                      refine ⟨by omega, by omega, ?_, by omega, by omega⟩
                                                      rw [show (x275 - 1).toNat = (f - 1).toNat + 1 by omega]
                                                      show _ = if (if k % 2 = 0 then (1 : Int) else 0) = 0 then gf_min (pf_bst _ _ (f - 1).toNat) (gm_fld lf x50 (x50 - 1 - k).toNat (10 * r + ((((f - 1).toNat : Nat) : Int) + 1))) else gf_max (pf_bst _ _ (f - 1).toNat) (gm_fld lf x50 (x50 - 1 - k).toNat (10 * r + ((((f - 1).toNat : Nat) : Int) + 1)))
                                                      rw [show (((f - 1).toNat : Nat) : Int) + 1 = f by omega, ← hv, ← hvf, ← hx237]
                                                      unfold gf_min gf_max
                                                      by_cases hpar : k % 2 = 0
                                                      · rw [if_pos hpar, if_neg (by decide)]
                                                        split <;> omega
                                                      · rw [if_neg hpar, if_pos rfl]
                                                        split <;> omega) (by omega)
                                  refine gf_lsub [1, 0, 3, 4, 5, 6, 2] rfl ?_
                                  exact L217_8 _ x212 1 (⟨by omega, by omega, by rw [hx212, hv0]; show _ = gm_fld lf x50 (x50 - 1 - k).toNat (10 * r + 0); rw [Int.add_zero], by omega, by omega⟩) (Nat.lt_succ_self _)
                            refine gf_lsub [0, 3, 4, 1, 2] rfl ?_
                            exact L195_7 _ 0 m (⟨by omega, by omega, fun s h0 h1 => by omega, fun s h0 h1 => hfv s (by omega) h1, hff⟩) (Nat.lt_succ_self _)
                      refine gf_lsub [6, 0, 1, 5] rfl ?_
                      exact L180_6 _ w x178 m (⟨by omega, by omega, by rw [hw, show x178 + 1 = x50 by omega], fun r h0 h1 => by rw [show (x50 - 1 - x178).toNat = 0 by omega]; exact hall r h0 (by rw [show x178 + 1 = x50 by omega] at h1; exact h1), hrf⟩) (Nat.lt_succ_self _)
                    · skip
                      refine gf_iload C dd_Mo_duel_100 0 rfl ?_
                      refine gf_istore (lv' := [(7, .int (gf_i row)), (6, .int (gf_i row)), (0, .ref (gf_ad E 65)), (1, .int (gf_i i)), (2, .int (gf_i n)), (3, .int (gf_i r24)), (4, .int (gf_i x50)), (5, .int (gf_i w))]) C dd_Mo_duel_102 (by decide) rfl ?_
                      refine gf_iload C dd_Mo_duel_104 6 rfl ?_
                      refine gf_iconst C dd_Mo_duel_106 ?_
                      refine gf_isub C dd_Mo_duel_107 ?_
                      refine gf_nm (fun x108 hx108 => ?_)
                      refine gf_istore (lv' := [(8, .int (gf_i x108)), (7, .int (gf_i row)), (6, .int (gf_i row)), (0, .ref (gf_ad E 65)), (1, .int (gf_i i)), (2, .int (gf_i n)), (3, .int (gf_i r24)), (4, .int (gf_i x50)), (5, .int (gf_i w))]) C dd_Mo_duel_108 (by decide) rfl ?_
                      have L110_9 : ∀ (N : Nat) (left k : Int) (m3 : gf_M) , (-1 ≤ k ∧ k ≤ x50 - 1 ∧ left = row / 10 ^ (x50 - 1 - k).toNat ∧ (∀ j : Int, k < j → j ≤ x50 - 1 → m3 73 (μ 71 1 + j) = row / 10 ^ (x50 - 1 - j).toNat % 10) ∧ m3 65 15 = μ 71 1 ∧ (∀ j : Int, 0 ≤ j → j < μ 71 1 → m3 73 j = μ 71 (24 + j)) ∧ (∀ b : Int, m3 80 b = m 80 b) ∧ ∀ a b : Int, ¬ (a = 65 ∧ b = 15) → a ≠ 73 → a ≠ 80 → m3 a b = μ a b) → (k + 1).toNat < N → gf_G X E Q 11 gf_φ m3 110 [(7, .int (gf_i left)), (8, .int (gf_i k)), (0, .ref (gf_ad E 65)), (1, .int (gf_i i)), (2, .int (gf_i n)), (3, .int (gf_i r24)), (4, .int (gf_i x50)), (5, .int (gf_i w)), (6, .int (gf_i row))] [] := by
                        intro N
                        induction N with
                        | zero => intro left k m3 hinv hN; exact absurd hN (Nat.not_lt_zero _)
                        | succ N ih110_9 =>
                          intro left k m3 hinv hN
                          have hinv0 := hinv
                          obtain ⟨hk0, hk1, hl, hkd, hk15, hk73, hk80, hkf⟩ := hinv
                          refine gf_iload C dd_Mo_duel_110 1 rfl ?_
                          refine gf_if_lt 145 C dd_Mo_duel_112 (by decide) (by omega) (fun h112 => ?_) (fun h112 => ?_)
                          · skip
                            have f145 : ∀ j : Int, 0 ≤ j → j < μ 71 1 + x50 → m3 73 j = gm_ext (gm_x μ) (μ 71 1) x50 row j := fun j h0 h1 => by
                              unfold gm_ext
                              by_cases e : j < μ 71 1
                              · rw [if_pos e]; exact hk73 j h0 e
                              · rw [if_neg e]
                                have := hkd (j - μ 71 1) (by omega) (by omega)
                                rw [show μ 71 1 + (j - μ 71 1) = j by omega, show x50 - 1 - (j - μ 71 1) = μ 71 1 + x50 - 1 - j by omega] at this
                                exact this
                            have q71 : ∀ b : Int, m3 71 b = μ 71 b := fun b => hkf 71 b (by omega) (by omega) (by omega)
                            refine gf_aload_n C dd_Mo_duel_145 2 rfl ?_
                            refine gf_getA (r := 80) C gf_cl7 fl_Mo_57 dd_Mo_duel_146 rfl (show gf_is 81 65 0 7 26 by decide) (by decide) (by decide) ?_
                            refine gf_iload C dd_Mo_duel_149 8 rfl ?_
                            refine gf_aload_n C dd_Mo_duel_151 2 rfl ?_
                            refine gf_iload_n C dd_Mo_duel_152 3 rfl ?_
                            refine gf_aload_n C dd_Mo_duel_153 2 rfl ?_
                            refine gf_getA (r := 73) C gf_cl7 fl_Mo_36 dd_Mo_duel_154 rfl (show gf_is 81 65 0 7 26 by decide) (by decide) (by decide) ?_
                            refine gf_aload_n C dd_Mo_duel_157 2 rfl ?_
                            refine gf_getI (z := 15) C gf_cl7 fl_Mo_146 dd_Mo_duel_158 rfl rfl (show gf_is 81 65 0 7 26 by decide) (fun hv158 => ?_)
                            refine gf_iload C dd_Mo_duel_161 6 rfl ?_
                            refine gf_iadd C dd_Mo_duel_163 ?_
                            refine gf_callVi (st := [.int (gf_i row), .ref (gf_ad E 80)]) (As := [.int (gf_i i), .ref (gf_ad E 73), .int (gf_i ((m3 65 15) + x50))]) C wk_Mo_152 gf_cl7 (show gf_is 81 65 0 7 26 by decide) (ct_Mo_byGuard (gf_xl X) E i 73 (m3 65 15 + x50) 8 m3 (gm_okg_f hg q71) (show gf_is 81 73 1 0 8 by decide) (by omega) (fun j h0 h1 => by
                              rw [f145 j h0 (by omega)]
                              unfold gm_ext
                              split
                              · exact hx j h0 (by omega)
                              · omega)) rfl ⟨rfl, rfl, rfl, rfl⟩ (Nat.le_of_ble_eq_true rfl) rfl dd_Mo_duel_164 (fun r164 m164 hR164 hp164 => ?_)
                            have hr164 := hp164.1
                            refine gf_pm hp164.2 ?_
                            refine gf_iast C dd_Mo_duel_167 (show gf_is 81 80 1 0 10000 by decide) (by omega) (by omega) ?_
                            refine gf_nmM (fun m167 hm167 => ?_)
                            obtain ⟨x168, hx168⟩ : ∃ y : Int, y = row + 1 := ⟨_, rfl⟩
                            refine gf_iinc (q := 8) (v := x168) (lv' := [(6, .int (gf_i x168)), (7, .int (gf_i left)), (8, .int (gf_i k)), (0, .ref (gf_ad E 65)), (1, .int (gf_i i)), (2, .int (gf_i n)), (3, .int (gf_i r24)), (4, .int (gf_i x50)), (5, .int (gf_i w))]) C dd_Mo_duel_168 rfl hx168 (by decide) rfl ?_
                            refine gf_goto 88 C dd_Mo_duel_171 (by decide) ?_
                            refine gf_lsub [0, 3, 4, 5, 6, 7, 8] rfl ?_
                            exact ih88_2 x168 m167 (by
                                    refine ⟨by omega, by omega, fun r h0 h1 => ?_, fun h => by omega, by rw [hm167, gf_up_k (by decide)]; exact hk15, fun j h0 h1 => by rw [hm167, gf_up_k (by decide)]; exact hk73 j h0 h1, fun a b h1 h2 h3 => by rw [hm167, gf_up_k h3]; exact hkf a b h1 h2 h3⟩
                                    rw [hm167]
                                    by_cases e : r = row
                                    · rw [e, gf_up_s, hr164.1, gm_rk_f q71, hk15, hlf]
                                      exact gm_rk_congr f145
                                    · rw [gf_up_j e, hk80]; exact hrv r h0 (by omega)) (by omega)
                          · skip
                            have hlr := pf_div_R (a := row) (x50 - 1 - k).toNat hr0
                            rw [← hl] at hlr
                            refine gf_aload_n C dd_Mo_duel_115 2 rfl ?_
                            refine gf_getA (r := 73) C gf_cl7 fl_Mo_36 dd_Mo_duel_116 rfl (show gf_is 81 65 0 7 26 by decide) (by decide) (by decide) ?_
                            refine gf_aload_n C dd_Mo_duel_119 2 rfl ?_
                            refine gf_getI (z := 15) C gf_cl7 fl_Mo_146 dd_Mo_duel_120 rfl rfl (show gf_is 81 65 0 7 26 by decide) (fun hv120 => ?_)
                            refine gf_iload C dd_Mo_duel_123 1 rfl ?_
                            refine gf_iadd C dd_Mo_duel_125 ?_
                            refine gf_iload C dd_Mo_duel_126 0 rfl ?_
                            refine gf_bipush C dd_Mo_duel_128 (by decide +kernel) ?_
                            refine gf_irem C dd_Mo_duel_130 (by omega) ?_
                            refine gf_iast C dd_Mo_duel_131 (show gf_is 81 73 1 0 8 by decide) (by omega) (by omega) ?_
                            refine gf_nmM (fun m131 hm131 => ?_)
                            refine gf_iload C dd_Mo_duel_132 0 rfl ?_
                            refine gf_bipush C dd_Mo_duel_134 (by decide +kernel) ?_
                            refine gf_idiv C dd_Mo_duel_136 (by omega) ?_
                            refine gf_nm (fun x137 hx137 => ?_)
                            refine gf_istore (lv' := [(7, .int (gf_i x137)), (8, .int (gf_i k)), (0, .ref (gf_ad E 65)), (1, .int (gf_i i)), (2, .int (gf_i n)), (3, .int (gf_i r24)), (4, .int (gf_i x50)), (5, .int (gf_i w)), (6, .int (gf_i row))]) C dd_Mo_duel_137 (by decide) rfl ?_
                            obtain ⟨x139, hx139⟩ : ∃ y : Int, y = k + (-1) := ⟨_, rfl⟩
                            refine gf_iinc (q := 1) (v := x139) (lv' := [(8, .int (gf_i x139)), (7, .int (gf_i x137)), (0, .ref (gf_ad E 65)), (1, .int (gf_i i)), (2, .int (gf_i n)), (3, .int (gf_i r24)), (4, .int (gf_i x50)), (5, .int (gf_i w)), (6, .int (gf_i row))]) C dd_Mo_duel_139 rfl hx139 (by decide) rfl ?_
                            refine gf_goto 110 C dd_Mo_duel_142 (by decide) ?_
                            refine gf_lsub [1, 0, 2, 3, 4, 5, 6, 7, 8] rfl ?_
                            exact ih110_9 x137 x139 m131 (by
                                    refine ⟨by omega, by omega, ?_, fun j h0 h1 => ?_, by rw [hm131, gf_up_k (by decide)]; exact hk15, fun j h0 h1 => by rw [hm131, gf_up_j (by omega)]; exact hk73 j h0 h1, fun b => by rw [hm131, gf_up_k (by decide)]; exact hk80 b, fun a b h1 h2 h3 => by rw [hm131, gf_up_k h2]; exact hkf a b h1 h2 h3⟩
                                    · rw [hx137, hl, pf_div10, show (x50 - 1 - k).toNat + 1 = (x50 - 1 - x139).toNat by omega]
                                    · rw [hm131, hk15]
                                      by_cases e : j = k
                                      · rw [e, gf_up_s, hl]
                                      · rw [gf_up_j (by omega)]; exact hkd j (by omega) h1) (by omega)
                      refine gf_lsub [1, 0, 3, 4, 5, 6, 7, 8, 2] rfl ?_
                      exact L110_9 _ row x108 m (⟨by omega, by omega, by rw [show (x50 - 1 - x108).toNat = 0 by omega, Int.pow_zero, Int.ediv_one], fun j h0 h1 => by omega, hr15, hr73, fun b => rfl, hrf⟩) (Nat.lt_succ_self _)
              refine gf_lsub [0, 2, 3, 4, 5, 6, 1] rfl ?_
              exact L88_2 _ 0 m84 (⟨by omega, by omega, fun r h0 h1 => by omega, fun _ => w84, by rw [hm84, gf_up_k (by decide)]; exact hw15, fun j h0 h1 => by rw [hm84, gf_up_k (by decide)]; exact hw73 j h0 (by omega), fun a b h1 h2 h3 => by rw [hm84, gf_up_k h3]; exact hwf a b h1 h2⟩) (Nat.lt_succ_self _)
            · skip
              refine gf_iload C dd_Mo_duel_65 0 rfl ?_
              refine gf_bipush C dd_Mo_duel_67 (by decide +kernel) ?_
              refine gf_imul C dd_Mo_duel_69 ?_
              refine gf_nm (fun x70 hx70 => ?_)
              refine gf_istore (lv' := [(5, .int (gf_i x70)), (6, .int (gf_i k)), (0, .ref (gf_ad E 65)), (1, .int (gf_i i)), (2, .int (gf_i n)), (3, .int (gf_i r24)), (4, .int (gf_i x50))]) C dd_Mo_duel_70 (by decide) rfl ?_
              obtain ⟨x72, hx72⟩ : ∃ y : Int, y = k + 1 := ⟨_, rfl⟩
              refine gf_iinc (q := 1) (v := x72) (lv' := [(6, .int (gf_i x72)), (5, .int (gf_i x70)), (0, .ref (gf_ad E 65)), (1, .int (gf_i i)), (2, .int (gf_i n)), (3, .int (gf_i r24)), (4, .int (gf_i x50))]) C dd_Mo_duel_72 rfl hx72 (by decide) rfl ?_
              refine gf_goto 58 C dd_Mo_duel_75 (by decide) ?_
              refine gf_lsub [1, 0, 2, 3, 4, 5, 6] rfl ?_
              exact ih58_1 x70 x72 (by
                      refine ⟨by omega, by omega, ?_⟩
                      rw [show x72.toNat = k.toNat + 1 by omega, Int.pow_succ, ← hwk]
                      exact hx70) (by omega)
        refine gf_lsub [1, 0, 4, 5, 6, 3, 2] rfl ?_
        exact L58_1 _ 1 0 (⟨by omega, by omega, rfl⟩) (Nat.lt_succ_self _)
      · skip
        refine gf_iload_n C dd_Mo_duel_39 3 rfl ?_
        refine gf_goto 50 C dd_Mo_duel_40 (by decide) ?_
        refine gf_nm (fun x50 hx50 => ?_)
        refine gf_istore (lv' := [(4, .int (gf_i x50)), (3, .int (gf_i r24)), (0, .ref (gf_ad E 65)), (1, .int (gf_i i)), (2, .int (gf_i n))]) C dd_Mo_duel_50 (by decide) rfl ?_
        have hu : x50 = gf_min n (8 - μ 71 1) := by
          unfold gf_min
          split <;> omega
        have huR : 0 ≤ x50 ∧ x50 ≤ 4 ∧ x50 ≤ 8 - μ 71 1 := by omega
        clear hx50
        rw [← hu] at hQ
        obtain ⟨lf, hlf⟩ : ∃ lf : Int → Int, lf = gm_leaf μ i x50 := ⟨_, rfl⟩
        have hlfR : ∀ r : Int, 0 ≤ lf r ∧ lf r ≤ 10 := fun r => by rw [hlf]; exact pf_reck_R _ _ _ _ _
        have hfR := gm_fld_R hlfR x50
        have hu4 := pf_10_4 (n := x50.toNat) (by omega)
        rw [← hlf] at hQ
        refine gf_iconst C dd_Mo_duel_52 ?_
        refine gf_istore (lv' := [(5, .int (gf_i 1)), (4, .int (gf_i x50)), (3, .int (gf_i r24)), (0, .ref (gf_ad E 65)), (1, .int (gf_i i)), (2, .int (gf_i n))]) C dd_Mo_duel_53 (by decide) rfl ?_
        refine gf_iconst C dd_Mo_duel_55 ?_
        refine gf_istore (lv' := [(6, .int (gf_i 0)), (5, .int (gf_i 1)), (4, .int (gf_i x50)), (3, .int (gf_i r24)), (0, .ref (gf_ad E 65)), (1, .int (gf_i i)), (2, .int (gf_i n))]) C dd_Mo_duel_56 (by decide) rfl ?_
        have L58_10 : ∀ (N : Nat) (w k : Int) , (0 ≤ k ∧ k ≤ x50 ∧ w = 10 ^ k.toNat) → (4 - k).toNat < N → gf_G X E Q 11 gf_φ m24 58 [(5, .int (gf_i w)), (6, .int (gf_i k)), (0, .ref (gf_ad E 65)), (1, .int (gf_i i)), (2, .int (gf_i n)), (3, .int (gf_i r24)), (4, .int (gf_i x50))] [] := by
          intro N
          induction N with
          | zero => intro w k hinv hN; exact absurd hN (Nat.not_lt_zero _)
          | succ N ih58_10 =>
            intro w k hinv hN
            have hinv0 := hinv
            obtain ⟨hk0, hk1, hwk⟩ := hinv
            have h104 := pf_10_4 (n := k.toNat) (by omega)
            refine gf_iload C dd_Mo_duel_58 1 rfl ?_
            refine gf_iload C dd_Mo_duel_60 6 rfl ?_
            refine gf_icmp_ge 78 C dd_Mo_duel_62 (by decide) (by omega) (by omega) (fun h62 => ?_) (fun h62 => ?_)
            · skip
              have hw : w = 10 ^ x50.toNat := by rw [hwk, show k = x50 by omega]
              refine gf_aload_n C dd_Mo_duel_78 2 rfl ?_
              refine gf_getA (r := 80) C gf_cl7 fl_Mo_57 dd_Mo_duel_79 rfl (show gf_is 81 65 0 7 26 by decide) (by decide) (by decide) ?_
              refine gf_iconst C dd_Mo_duel_82 ?_
              refine gf_iload_n C dd_Mo_duel_83 5 rfl ?_
              refine gf_iast C dd_Mo_duel_84 (show gf_is 81 80 1 0 10000 by decide) (by omega) (by omega) ?_
              refine gf_nmM (fun m84 hm84 => ?_)
              have w84 : m84 80 0 = lf 0 ∨ 0 < x50 := by
                rcases (show x50 = 0 ∨ 0 < x50 by omega) with h | h
                · left
                  rw [hm84, gf_up_s, hwa, hlf, h]
                  unfold gm_leaf
                  rw [Int.add_zero]
                  refine gm_rk_congr (fun j h0 h1 => ?_)
                  unfold gm_ext
                  rw [if_pos h1]
                · right; exact h
              refine gf_iconst C dd_Mo_duel_85 ?_
              refine gf_istore (lv' := [(6, .int (gf_i 0)), (5, .int (gf_i w)), (0, .ref (gf_ad E 65)), (1, .int (gf_i i)), (2, .int (gf_i n)), (3, .int (gf_i r24)), (4, .int (gf_i x50))]) C dd_Mo_duel_86 (by decide) rfl ?_
              have L88_11 : ∀ (N : Nat) (row : Int) (m : gf_M) , (0 ≤ row ∧ row ≤ 10 ^ x50.toNat ∧ (∀ r : Int, 0 ≤ r → r < row → m 80 r = lf r) ∧ (row = 0 → m 80 0 = lf 0 ∨ 0 < x50) ∧ m 65 15 = μ 71 1 ∧ (∀ j : Int, 0 ≤ j → j < μ 71 1 → m 73 j = μ 71 (24 + j)) ∧ ∀ a b : Int, ¬ (a = 65 ∧ b = 15) → a ≠ 73 → a ≠ 80 → m a b = μ a b) → (10000 - row).toNat < N → gf_G X E Q 11 gf_φ m 88 [(6, .int (gf_i row)), (0, .ref (gf_ad E 65)), (1, .int (gf_i i)), (2, .int (gf_i n)), (3, .int (gf_i r24)), (4, .int (gf_i x50)), (5, .int (gf_i w))] [] := by
                intro N
                induction N with
                | zero => intro row m hinv hN; exact absurd hN (Nat.not_lt_zero _)
                | succ N ih88_11 =>
                  intro row m hinv hN
                  have hinv0 := hinv
                  obtain ⟨hr0, hr1, hrv, hrz, hr15, hr73, hrf⟩ := hinv
                  refine gf_iload C dd_Mo_duel_88 0 rfl ?_
                  refine gf_iload C dd_Mo_duel_90 6 rfl ?_
                  refine gf_icmp_ge 174 C dd_Mo_duel_92 (by decide) (by omega) (by omega) (fun h92 => ?_) (fun h92 => ?_)
                  · skip
                    have hall : ∀ r : Int, 0 ≤ r → r < 10 ^ x50.toNat → m 80 r = lf r := fun r h0 h1 => by
                      rcases (show x50 = 0 ∨ 0 < x50 by omega) with h | h
                      · have hp0 : (10 : Int) ^ x50.toNat = 1 := by rw [h]; decide
                        have er : r = 0 := by omega
                        rcases (show row = 0 ∨ 0 < row by omega) with h2 | h2
                        · rcases hrz h2 with h3 | h3
                          · rw [er]; exact h3
                          · omega
                        · rw [er]; exact hrv 0 (by omega) h2
                      · exact hrv r h0 (by omega)
                    clear hrz hrv
                    refine gf_iload C dd_Mo_duel_174 5 rfl ?_
                    refine gf_iconst C dd_Mo_duel_176 ?_
                    refine gf_isub C dd_Mo_duel_177 ?_
                    refine gf_nm (fun x178 hx178 => ?_)
                    refine gf_istore (lv' := [(6, .int (gf_i x178)), (0, .ref (gf_ad E 65)), (1, .int (gf_i i)), (2, .int (gf_i n)), (3, .int (gf_i r24)), (4, .int (gf_i x50)), (5, .int (gf_i w))]) C dd_Mo_duel_178 (by decide) rfl ?_
                    have L180_12 : ∀ (N : Nat) (w k : Int) (m : gf_M) , (-1 ≤ k ∧ k ≤ x50 - 1 ∧ w = 10 ^ (k + 1).toNat ∧ (∀ r : Int, 0 ≤ r → r < 10 ^ (k + 1).toNat → m 80 r = gm_fld lf x50 (x50 - 1 - k).toNat r) ∧ ∀ a b : Int, ¬ (a = 65 ∧ b = 15) → a ≠ 73 → a ≠ 80 → m a b = μ a b) → (k + 1).toNat < N → gf_G X E Q 11 gf_φ m 180 [(5, .int (gf_i w)), (6, .int (gf_i k)), (0, .ref (gf_ad E 65)), (4, .int (gf_i x50))] [] := by
                      intro N
                      induction N with
                      | zero => intro w k m hinv hN; exact absurd hN (Nat.not_lt_zero _)
                      | succ N ih180_12 =>
                        intro w k m hinv hN
                        have hinv0 := hinv
                        obtain ⟨hk0, hk1, hwv, hfv, hff⟩ := hinv
                        have h104 := pf_10_4 (n := (k + 1).toNat) (by omega)
                        refine gf_iload C dd_Mo_duel_180 1 rfl ?_
                        refine gf_if_lt 302 C dd_Mo_duel_182 (by decide) (by omega) (fun h182 => ?_) (fun h182 => ?_)
                        · skip
                          refine gf_aload_n C dd_Mo_duel_302 2 rfl ?_
                          refine gf_getA (r := 80) C gf_cl7 fl_Mo_57 dd_Mo_duel_303 rfl (show gf_is 81 65 0 7 26 by decide) (by decide) (by decide) ?_
                          refine gf_iconst C dd_Mo_duel_306 ?_
                          refine gf_iald C dd_Mo_duel_307 (show gf_is 81 80 1 0 10000 by decide) (by omega) (fun hv307 => ?_)
                          refine gf_iret C hQ dd_Mo_duel_308 (by omega) ?_
                          refine ⟨fun h => absurd h (by omega), fun _ => ⟨?_, fun a b hab => by unfold gm_scr at hab; exact hff a b (by omega) (by omega) (by omega)⟩⟩
                          have ek : k = -1 := by omega
                          have := hfv 0 (by omega) (by omega)
                          rw [this, ek, show (x50 - 1 - -1).toNat = x50.toNat by omega]
                        · skip
                          have hkk : (10 : Int) ^ (k + 1).toNat = 10 ^ k.toNat * 10 := by rw [show (k + 1).toNat = k.toNat + 1 by omega, Int.pow_succ]
                          have h10k := pf_10_4 (n := k.toNat) (by omega)
                          refine gf_iload C dd_Mo_duel_185 0 rfl ?_
                          refine gf_bipush C dd_Mo_duel_187 (by decide +kernel) ?_
                          refine gf_idiv C dd_Mo_duel_189 (by omega) ?_
                          refine gf_nm (fun x190 hx190 => ?_)
                          refine gf_istore (lv' := [(5, .int (gf_i x190)), (6, .int (gf_i k)), (0, .ref (gf_ad E 65)), (4, .int (gf_i x50))]) C dd_Mo_duel_190 (by decide) rfl ?_
                          have hw2 : x190 = 10 ^ k.toNat := by rw [hx190, hwv, hkk]; omega
                          refine gf_iconst C dd_Mo_duel_192 ?_
                          refine gf_istore (lv' := [(7, .int (gf_i 0)), (5, .int (gf_i x190)), (6, .int (gf_i k)), (0, .ref (gf_ad E 65)), (4, .int (gf_i x50))]) C dd_Mo_duel_193 (by decide) rfl ?_
                          have L195_13 : ∀ (N : Nat) (r : Int) (m3 : gf_M) , (0 ≤ r ∧ r ≤ 10 ^ k.toNat ∧ (∀ s : Int, 0 ≤ s → s < r → m3 80 s = gm_fld lf x50 (x50 - 1 - (k - 1)).toNat s) ∧ (∀ s : Int, r ≤ s → s < 10 ^ (k + 1).toNat → m3 80 s = gm_fld lf x50 (x50 - 1 - k).toNat s) ∧ ∀ a b : Int, ¬ (a = 65 ∧ b = 15) → a ≠ 73 → a ≠ 80 → m3 a b = μ a b) → (10000 - r).toNat < N → gf_G X E Q 11 gf_φ m3 195 [(7, .int (gf_i r)), (0, .ref (gf_ad E 65)), (4, .int (gf_i x50)), (5, .int (gf_i x190)), (6, .int (gf_i k))] [] := by
                            intro N
                            induction N with
                            | zero => intro r m3 hinv hN; exact absurd hN (Nat.not_lt_zero _)
                            | succ N ih195_13 =>
                              intro r m3 hinv hN
                              have hinv0 := hinv
                              obtain ⟨hq0, hq1, hf1, hf2, hf3⟩ := hinv
                              refine gf_iload C dd_Mo_duel_195 0 rfl ?_
                              refine gf_iload C dd_Mo_duel_197 3 rfl ?_
                              refine gf_icmp_ge 296 C dd_Mo_duel_199 (by decide) (by omega) (by omega) (fun h199 => ?_) (fun h199 => ?_)
                              · skip
                                obtain ⟨x296, hx296⟩ : ∃ y : Int, y = k + (-1) := ⟨_, rfl⟩
                                refine gf_iinc (q := 4) (v := x296) (lv' := [(6, .int (gf_i x296)), (7, .int (gf_i r)), (0, .ref (gf_ad E 65)), (4, .int (gf_i x50)), (5, .int (gf_i x190))]) C dd_Mo_duel_296 rfl hx296 (by decide) rfl ?_
                                refine gf_goto 180 C dd_Mo_duel_299 (by decide) ?_
                                refine gf_lsub [4, 0, 2, 3] rfl ?_
                                exact ih180_12 x190 x296 m3 (by
                                        refine ⟨by omega, by omega, by rw [hw2, show x296 + 1 = k by omega], fun r2 h0 h1 => ?_, hf3⟩
                                        rw [show x296 + 1 = k by omega] at h1
                                        rw [show x296 = k - 1 by omega]
                                        exact hf1 r2 h0 (by omega)) (by omega)
                              · skip
                                have hrb : 10 * r + 9 < 10 ^ (k + 1).toNat := by rw [hkk]; omega
                                have hd9 : (x50 - 1 - (k - 1)).toNat = (x50 - 1 - k).toNat + 1 := by omega
                                have hv0 := hf2 (10 * r) (by omega) (by omega)
                                have hv0R := hfR (x50 - 1 - k).toNat (10 * r)
                                refine gf_aload_n C dd_Mo_duel_202 1 rfl ?_
                                refine gf_getA (r := 80) C gf_cl7 fl_Mo_57 dd_Mo_duel_203 rfl (show gf_is 81 65 0 7 26 by decide) (by decide) (by decide) ?_
                                refine gf_bipush C dd_Mo_duel_206 (by decide +kernel) ?_
                                refine gf_iload C dd_Mo_duel_208 0 rfl ?_
                                refine gf_imul C dd_Mo_duel_210 ?_
                                refine gf_iald C dd_Mo_duel_211 (show gf_is 81 80 1 0 10000 by decide) (by omega) (fun hv211 => ?_)
                                refine gf_nm (fun x212 hx212 => ?_)
                                refine gf_istore (lv' := [(8, .int (gf_i x212)), (7, .int (gf_i r)), (0, .ref (gf_ad E 65)), (4, .int (gf_i x50)), (5, .int (gf_i x190)), (6, .int (gf_i k))]) C dd_Mo_duel_212 (by decide) rfl ?_
                                refine gf_iconst C dd_Mo_duel_214 ?_
                                refine gf_istore (lv' := [(9, .int (gf_i 1)), (8, .int (gf_i x212)), (7, .int (gf_i r)), (0, .ref (gf_ad E 65)), (4, .int (gf_i x50)), (5, .int (gf_i x190)), (6, .int (gf_i k))]) C dd_Mo_duel_215 (by decide) rfl ?_
                                have L217_14 : ∀ (N : Nat) (v f : Int) , (1 ≤ f ∧ f ≤ 10 ∧ v = pf_bst (if k % 2 = 0 then 1 else 0) (fun f => gm_fld lf x50 (x50 - 1 - k).toNat (10 * r + f)) (f - 1).toNat ∧ 0 ≤ v ∧ v ≤ 10) → (10 - f).toNat < N → gf_G X E Q 11 gf_φ m3 217 [(8, .int (gf_i v)), (9, .int (gf_i f)), (0, .ref (gf_ad E 65)), (4, .int (gf_i x50)), (5, .int (gf_i x190)), (6, .int (gf_i k)), (7, .int (gf_i r))] [] := by
                                  intro N
                                  induction N with
                                  | zero => intro v f hinv hN; exact absurd hN (Nat.not_lt_zero _)
                                  | succ N ih217_14 =>
                                    intro v f hinv hN
                                    have hinv0 := hinv
                                    obtain ⟨hf0, hf10, hv, hvR⟩ := hinv
                                    refine gf_iload C dd_Mo_duel_217 1 rfl ?_
                                    refine gf_bipush C dd_Mo_duel_219 (by decide +kernel) ?_
                                    refine gf_icmp_ge 281 C dd_Mo_duel_221 (by decide) (by omega) (by omega) (fun h221 => ?_) (fun h221 => ?_)
                                    · skip
                                      refine gf_aload_n C dd_Mo_duel_281 2 rfl ?_
                                      refine gf_getA (r := 80) C gf_cl7 fl_Mo_57 dd_Mo_duel_282 rfl (show gf_is 81 65 0 7 26 by decide) (by decide) (by decide) ?_
                                      refine gf_iload C dd_Mo_duel_285 6 rfl ?_
                                      refine gf_iload C dd_Mo_duel_287 0 rfl ?_
                                      refine gf_iast C dd_Mo_duel_289 (show gf_is 81 80 1 0 10000 by decide) (by omega) (by omega) ?_
                                      refine gf_nmM (fun m289 hm289 => ?_)
                                      obtain ⟨x290, hx290⟩ : ∃ y : Int, y = r + 1 := ⟨_, rfl⟩
                                      refine gf_iinc (q := 6) (v := x290) (lv' := [(7, .int (gf_i x290)), (8, .int (gf_i v)), (9, .int (gf_i f)), (0, .ref (gf_ad E 65)), (4, .int (gf_i x50)), (5, .int (gf_i x190)), (6, .int (gf_i k))]) C dd_Mo_duel_290 rfl hx290 (by decide) rfl ?_
                                      refine gf_goto 195 C dd_Mo_duel_293 (by decide) ?_
                                      refine gf_lsub [0, 3, 4, 5, 6] rfl ?_
                                      exact ih195_13 x290 m289 (by
                                              refine ⟨by omega, by omega, fun s h0 h1 => ?_, fun s h0 h1 => by rw [hm289, gf_up_j (by omega)]; exact hf2 s (by omega) h1, fun a b h1 h2 h3 => by rw [hm289, gf_up_k h3]; exact hf3 a b h1 h2 h3⟩
                                              rw [hm289]
                                              by_cases e : s = r
                                              · rw [e, gf_up_s, hv, show (f - 1).toNat = 9 by omega, hd9]
                                                show _ = pf_bst (if (x50 - 1 - (((x50 - 1 - k).toNat : Nat) : Int)) % 2 = 0 then 1 else 0) (fun f => gm_fld lf x50 (x50 - 1 - k).toNat (10 * r + f)) 9
                                                rw [show x50 - 1 - (((x50 - 1 - k).toNat : Nat) : Int) = k by omega]
                                              · rw [gf_up_j e]; exact hf1 s h0 (by omega)) (by omega)
                                    · skip
                                      have hvf := hf2 (10 * r + f) (by omega) (by omega)
                                      have hvfR := hfR (x50 - 1 - k).toNat (10 * r + f)
                                      refine gf_aload_n C dd_Mo_duel_224 2 rfl ?_
                                      refine gf_getA (r := 80) C gf_cl7 fl_Mo_57 dd_Mo_duel_225 rfl (show gf_is 81 65 0 7 26 by decide) (by decide) (by decide) ?_
                                      refine gf_bipush C dd_Mo_duel_228 (by decide +kernel) ?_
                                      refine gf_iload C dd_Mo_duel_230 6 rfl ?_
                                      refine gf_imul C dd_Mo_duel_232 ?_
                                      refine gf_iload C dd_Mo_duel_233 1 rfl ?_
                                      refine gf_iadd C dd_Mo_duel_235 ?_
                                      refine gf_iald C dd_Mo_duel_236 (show gf_is 81 80 1 0 10000 by decide) (by omega) (fun hv236 => ?_)
                                      refine gf_nm (fun x237 hx237 => ?_)
                                      refine gf_istore (lv' := [(10, .int (gf_i x237)), (8, .int (gf_i v)), (9, .int (gf_i f)), (0, .ref (gf_ad E 65)), (4, .int (gf_i x50)), (5, .int (gf_i x190)), (6, .int (gf_i k)), (7, .int (gf_i r))]) C dd_Mo_duel_237 (by decide) rfl ?_
                                      refine gf_iload C dd_Mo_duel_239 0 rfl ?_
                                      refine gf_iload C dd_Mo_duel_241 1 rfl ?_
                                      refine gf_icmp_le 250 C dd_Mo_duel_243 (by decide) (by omega) (by omega) (fun h243 => ?_) (fun h243 => ?_)
                                      · skip
                                        refine gf_iconst C dd_Mo_duel_250 ?_
                                        refine gf_iload C dd_Mo_duel_251 6 rfl ?_
                                        refine gf_iconst C dd_Mo_duel_253 ?_
                                        refine gf_irem C dd_Mo_duel_254 (by omega) ?_
                                        refine gf_if_ne 262 C dd_Mo_duel_255 (by decide) (by omega) (fun h255 => ?_) (fun h255 => ?_)
                                        · skip
                                          refine gf_iconst C dd_Mo_duel_262 ?_
                                          refine gf_icmp_ne 271 C dd_Mo_duel_263 (by decide) (by omega) (by omega) (fun h263 => ?_) (fun h263 => ?_)
                                          · skip
                                            refine gf_iload C dd_Mo_duel_271 1 rfl ?_
                                            refine gf_istore (lv' := [(8, .int (gf_i v)), (10, .int (gf_i x237)), (9, .int (gf_i f)), (0, .ref (gf_ad E 65)), (4, .int (gf_i x50)), (5, .int (gf_i x190)), (6, .int (gf_i k)), (7, .int (gf_i r))]) C dd_Mo_duel_273 (by decide) rfl ?_
                                            obtain ⟨x275, hx275⟩ : ∃ y : Int, y = f + 1 := ⟨_, rfl⟩
                                            refine gf_iinc (q := 2) (v := x275) (lv' := [(9, .int (gf_i x275)), (8, .int (gf_i v)), (10, .int (gf_i x237)), (0, .ref (gf_ad E 65)), (4, .int (gf_i x50)), (5, .int (gf_i x190)), (6, .int (gf_i k)), (7, .int (gf_i r))]) C dd_Mo_duel_275 rfl hx275 (by decide) rfl ?_
                                            refine gf_goto 217 C dd_Mo_duel_278 (by decide) ?_
                                            refine gf_lsub [1, 0, 3, 4, 5, 6, 7] rfl ?_
                                            exact ih217_14 v x275 (by
                                                    refine ⟨by omega, by omega, ?_, by omega, by omega⟩
                                                    rw [show (x275 - 1).toNat = (f - 1).toNat + 1 by omega]
                                                    show _ = if (if k % 2 = 0 then (1 : Int) else 0) = 0 then gf_min (pf_bst _ _ (f - 1).toNat) (gm_fld lf x50 (x50 - 1 - k).toNat (10 * r + ((((f - 1).toNat : Nat) : Int) + 1))) else gf_max (pf_bst _ _ (f - 1).toNat) (gm_fld lf x50 (x50 - 1 - k).toNat (10 * r + ((((f - 1).toNat : Nat) : Int) + 1)))
                                                    rw [show (((f - 1).toNat : Nat) : Int) + 1 = f by omega, ← hv, ← hvf, ← hx237]
                                                    unfold gf_min gf_max
                                                    by_cases hpar : k % 2 = 0
                                                    · rw [if_pos hpar, if_neg (by decide)]
                                                      split <;> omega
                                                    · rw [if_neg hpar, if_pos rfl]
                                                      split <;> omega) (by omega)
                                          · skip
                                            refine gf_iload C dd_Mo_duel_266 0 rfl ?_
                                            refine gf_goto 273 C dd_Mo_duel_268 (by decide) ?_
                                            refine gf_istore (lv' := [(8, .int (gf_i x237)), (10, .int (gf_i x237)), (9, .int (gf_i f)), (0, .ref (gf_ad E 65)), (4, .int (gf_i x50)), (5, .int (gf_i x190)), (6, .int (gf_i k)), (7, .int (gf_i r))]) C dd_Mo_duel_273 (by decide) rfl ?_
                                            obtain ⟨x275, hx275⟩ : ∃ y : Int, y = f + 1 := ⟨_, rfl⟩
                                            refine gf_iinc (q := 2) (v := x275) (lv' := [(9, .int (gf_i x275)), (8, .int (gf_i x237)), (10, .int (gf_i x237)), (0, .ref (gf_ad E 65)), (4, .int (gf_i x50)), (5, .int (gf_i x190)), (6, .int (gf_i k)), (7, .int (gf_i r))]) C dd_Mo_duel_275 rfl hx275 (by decide) rfl ?_
                                            refine gf_goto 217 C dd_Mo_duel_278 (by decide) ?_
                                            refine gf_lsub [1, 0, 3, 4, 5, 6, 7] rfl ?_
                                            exact ih217_14 x237 x275 (by
                                                    refine ⟨by omega, by omega, ?_, by omega, by omega⟩
                                                    rw [show (x275 - 1).toNat = (f - 1).toNat + 1 by omega]
                                                    show _ = if (if k % 2 = 0 then (1 : Int) else 0) = 0 then gf_min (pf_bst _ _ (f - 1).toNat) (gm_fld lf x50 (x50 - 1 - k).toNat (10 * r + ((((f - 1).toNat : Nat) : Int) + 1))) else gf_max (pf_bst _ _ (f - 1).toNat) (gm_fld lf x50 (x50 - 1 - k).toNat (10 * r + ((((f - 1).toNat : Nat) : Int) + 1)))
                                                    rw [show (((f - 1).toNat : Nat) : Int) + 1 = f by omega, ← hv, ← hvf, ← hx237]
                                                    unfold gf_min gf_max
                                                    by_cases hpar : k % 2 = 0
                                                    · rw [if_pos hpar, if_neg (by decide)]
                                                      split <;> omega
                                                    · rw [if_neg hpar, if_pos rfl]
                                                      split <;> omega) (by omega)
                                        · skip
                                          refine gf_iconst C dd_Mo_duel_258 ?_
                                          refine gf_goto 263 C dd_Mo_duel_259 (by decide) ?_
                                          refine gf_icmp_ne 271 C dd_Mo_duel_263 (by decide) (by omega) (by omega) (fun h263 => ?_) (fun h263 => ?_)
                                          · skip
                                            refine gf_iload C dd_Mo_duel_271 1 rfl ?_
                                            refine gf_istore (lv' := [(8, .int (gf_i v)), (10, .int (gf_i x237)), (9, .int (gf_i f)), (0, .ref (gf_ad E 65)), (4, .int (gf_i x50)), (5, .int (gf_i x190)), (6, .int (gf_i k)), (7, .int (gf_i r))]) C dd_Mo_duel_273 (by decide) rfl ?_
                                            obtain ⟨x275, hx275⟩ : ∃ y : Int, y = f + 1 := ⟨_, rfl⟩
                                            refine gf_iinc (q := 2) (v := x275) (lv' := [(9, .int (gf_i x275)), (8, .int (gf_i v)), (10, .int (gf_i x237)), (0, .ref (gf_ad E 65)), (4, .int (gf_i x50)), (5, .int (gf_i x190)), (6, .int (gf_i k)), (7, .int (gf_i r))]) C dd_Mo_duel_275 rfl hx275 (by decide) rfl ?_
                                            refine gf_goto 217 C dd_Mo_duel_278 (by decide) ?_
                                            refine gf_lsub [1, 0, 3, 4, 5, 6, 7] rfl ?_
                                            exact ih217_14 v x275 (by
                                                    refine ⟨by omega, by omega, ?_, by omega, by omega⟩
                                                    rw [show (x275 - 1).toNat = (f - 1).toNat + 1 by omega]
                                                    show _ = if (if k % 2 = 0 then (1 : Int) else 0) = 0 then gf_min (pf_bst _ _ (f - 1).toNat) (gm_fld lf x50 (x50 - 1 - k).toNat (10 * r + ((((f - 1).toNat : Nat) : Int) + 1))) else gf_max (pf_bst _ _ (f - 1).toNat) (gm_fld lf x50 (x50 - 1 - k).toNat (10 * r + ((((f - 1).toNat : Nat) : Int) + 1)))
                                                    rw [show (((f - 1).toNat : Nat) : Int) + 1 = f by omega, ← hv, ← hvf, ← hx237]
                                                    unfold gf_min gf_max
                                                    by_cases hpar : k % 2 = 0
                                                    · rw [if_pos hpar, if_neg (by decide)]
                                                      split <;> omega
                                                    · rw [if_neg hpar, if_pos rfl]
                                                      split <;> omega) (by omega)
                                          · skip
                                            refine gf_iload C dd_Mo_duel_266 0 rfl ?_
                                            refine gf_goto 273 C dd_Mo_duel_268 (by decide) ?_
                                            refine gf_istore (lv' := [(8, .int (gf_i x237)), (10, .int (gf_i x237)), (9, .int (gf_i f)), (0, .ref (gf_ad E 65)), (4, .int (gf_i x50)), (5, .int (gf_i x190)), (6, .int (gf_i k)), (7, .int (gf_i r))]) C dd_Mo_duel_273 (by decide) rfl ?_
                                            obtain ⟨x275, hx275⟩ : ∃ y : Int, y = f + 1 := ⟨_, rfl⟩
                                            refine gf_iinc (q := 2) (v := x275) (lv' := [(9, .int (gf_i x275)), (8, .int (gf_i x237)), (10, .int (gf_i x237)), (0, .ref (gf_ad E 65)), (4, .int (gf_i x50)), (5, .int (gf_i x190)), (6, .int (gf_i k)), (7, .int (gf_i r))]) C dd_Mo_duel_275 rfl hx275 (by decide) rfl ?_
                                            refine gf_goto 217 C dd_Mo_duel_278 (by decide) ?_
                                            refine gf_lsub [1, 0, 3, 4, 5, 6, 7] rfl ?_
                                            exact ih217_14 x237 x275 (by
                                                    refine ⟨by omega, by omega, ?_, by omega, by omega⟩
                                                    rw [show (x275 - 1).toNat = (f - 1).toNat + 1 by omega]
                                                    show _ = if (if k % 2 = 0 then (1 : Int) else 0) = 0 then gf_min (pf_bst _ _ (f - 1).toNat) (gm_fld lf x50 (x50 - 1 - k).toNat (10 * r + ((((f - 1).toNat : Nat) : Int) + 1))) else gf_max (pf_bst _ _ (f - 1).toNat) (gm_fld lf x50 (x50 - 1 - k).toNat (10 * r + ((((f - 1).toNat : Nat) : Int) + 1)))
                                                    rw [show (((f - 1).toNat : Nat) : Int) + 1 = f by omega, ← hv, ← hvf, ← hx237]
                                                    unfold gf_min gf_max
                                                    by_cases hpar : k % 2 = 0
                                                    · rw [if_pos hpar, if_neg (by decide)]
                                                      split <;> omega
                                                    · rw [if_neg hpar, if_pos rfl]
                                                      split <;> omega) (by omega)
                                      · skip
                                        refine gf_iconst C dd_Mo_duel_246 ?_
                                        refine gf_goto 251 C dd_Mo_duel_247 (by decide) ?_
                                        refine gf_iload C dd_Mo_duel_251 6 rfl ?_
                                        refine gf_iconst C dd_Mo_duel_253 ?_
                                        refine gf_irem C dd_Mo_duel_254 (by omega) ?_
                                        refine gf_if_ne 262 C dd_Mo_duel_255 (by decide) (by omega) (fun h255 => ?_) (fun h255 => ?_)
                                        · skip
                                          refine gf_iconst C dd_Mo_duel_262 ?_
                                          refine gf_icmp_ne 271 C dd_Mo_duel_263 (by decide) (by omega) (by omega) (fun h263 => ?_) (fun h263 => ?_)
                                          · skip
                                            refine gf_iload C dd_Mo_duel_271 1 rfl ?_
                                            refine gf_istore (lv' := [(8, .int (gf_i v)), (10, .int (gf_i x237)), (9, .int (gf_i f)), (0, .ref (gf_ad E 65)), (4, .int (gf_i x50)), (5, .int (gf_i x190)), (6, .int (gf_i k)), (7, .int (gf_i r))]) C dd_Mo_duel_273 (by decide) rfl ?_
                                            obtain ⟨x275, hx275⟩ : ∃ y : Int, y = f + 1 := ⟨_, rfl⟩
                                            refine gf_iinc (q := 2) (v := x275) (lv' := [(9, .int (gf_i x275)), (8, .int (gf_i v)), (10, .int (gf_i x237)), (0, .ref (gf_ad E 65)), (4, .int (gf_i x50)), (5, .int (gf_i x190)), (6, .int (gf_i k)), (7, .int (gf_i r))]) C dd_Mo_duel_275 rfl hx275 (by decide) rfl ?_
                                            refine gf_goto 217 C dd_Mo_duel_278 (by decide) ?_
                                            refine gf_lsub [1, 0, 3, 4, 5, 6, 7] rfl ?_
                                            exact ih217_14 v x275 (by
                                                    refine ⟨by omega, by omega, ?_, by omega, by omega⟩
                                                    rw [show (x275 - 1).toNat = (f - 1).toNat + 1 by omega]
                                                    show _ = if (if k % 2 = 0 then (1 : Int) else 0) = 0 then gf_min (pf_bst _ _ (f - 1).toNat) (gm_fld lf x50 (x50 - 1 - k).toNat (10 * r + ((((f - 1).toNat : Nat) : Int) + 1))) else gf_max (pf_bst _ _ (f - 1).toNat) (gm_fld lf x50 (x50 - 1 - k).toNat (10 * r + ((((f - 1).toNat : Nat) : Int) + 1)))
                                                    rw [show (((f - 1).toNat : Nat) : Int) + 1 = f by omega, ← hv, ← hvf, ← hx237]
                                                    unfold gf_min gf_max
                                                    by_cases hpar : k % 2 = 0
                                                    · rw [if_pos hpar, if_neg (by decide)]
                                                      split <;> omega
                                                    · rw [if_neg hpar, if_pos rfl]
                                                      split <;> omega) (by omega)
                                          · skip
                                            refine gf_iload C dd_Mo_duel_266 0 rfl ?_
                                            refine gf_goto 273 C dd_Mo_duel_268 (by decide) ?_
                                            refine gf_istore (lv' := [(8, .int (gf_i x237)), (10, .int (gf_i x237)), (9, .int (gf_i f)), (0, .ref (gf_ad E 65)), (4, .int (gf_i x50)), (5, .int (gf_i x190)), (6, .int (gf_i k)), (7, .int (gf_i r))]) C dd_Mo_duel_273 (by decide) rfl ?_
                                            obtain ⟨x275, hx275⟩ : ∃ y : Int, y = f + 1 := ⟨_, rfl⟩
                                            refine gf_iinc (q := 2) (v := x275) (lv' := [(9, .int (gf_i x275)), (8, .int (gf_i x237)), (10, .int (gf_i x237)), (0, .ref (gf_ad E 65)), (4, .int (gf_i x50)), (5, .int (gf_i x190)), (6, .int (gf_i k)), (7, .int (gf_i r))]) C dd_Mo_duel_275 rfl hx275 (by decide) rfl ?_
                                            refine gf_goto 217 C dd_Mo_duel_278 (by decide) ?_
                                            refine gf_lsub [1, 0, 3, 4, 5, 6, 7] rfl ?_
                                            exact ih217_14 x237 x275 (by
                                                    refine ⟨by omega, by omega, ?_, by omega, by omega⟩
                                                    rw [show (x275 - 1).toNat = (f - 1).toNat + 1 by omega]
                                                    show _ = if (if k % 2 = 0 then (1 : Int) else 0) = 0 then gf_min (pf_bst _ _ (f - 1).toNat) (gm_fld lf x50 (x50 - 1 - k).toNat (10 * r + ((((f - 1).toNat : Nat) : Int) + 1))) else gf_max (pf_bst _ _ (f - 1).toNat) (gm_fld lf x50 (x50 - 1 - k).toNat (10 * r + ((((f - 1).toNat : Nat) : Int) + 1)))
                                                    rw [show (((f - 1).toNat : Nat) : Int) + 1 = f by omega, ← hv, ← hvf, ← hx237]
                                                    unfold gf_min gf_max
                                                    by_cases hpar : k % 2 = 0
                                                    · rw [if_pos hpar, if_neg (by decide)]
                                                      split <;> omega
                                                    · rw [if_neg hpar, if_pos rfl]
                                                      split <;> omega) (by omega)
                                        · skip
                                          refine gf_iconst C dd_Mo_duel_258 ?_
                                          refine gf_goto 263 C dd_Mo_duel_259 (by decide) ?_
                                          refine gf_icmp_ne 271 C dd_Mo_duel_263 (by decide) (by omega) (by omega) (fun h263 => ?_) (fun h263 => ?_)
                                          · skip
                                            refine gf_iload C dd_Mo_duel_271 1 rfl ?_
                                            refine gf_istore (lv' := [(8, .int (gf_i v)), (10, .int (gf_i x237)), (9, .int (gf_i f)), (0, .ref (gf_ad E 65)), (4, .int (gf_i x50)), (5, .int (gf_i x190)), (6, .int (gf_i k)), (7, .int (gf_i r))]) C dd_Mo_duel_273 (by decide) rfl ?_
                                            obtain ⟨x275, hx275⟩ : ∃ y : Int, y = f + 1 := ⟨_, rfl⟩
                                            refine gf_iinc (q := 2) (v := x275) (lv' := [(9, .int (gf_i x275)), (8, .int (gf_i v)), (10, .int (gf_i x237)), (0, .ref (gf_ad E 65)), (4, .int (gf_i x50)), (5, .int (gf_i x190)), (6, .int (gf_i k)), (7, .int (gf_i r))]) C dd_Mo_duel_275 rfl hx275 (by decide) rfl ?_
                                            refine gf_goto 217 C dd_Mo_duel_278 (by decide) ?_
                                            refine gf_lsub [1, 0, 3, 4, 5, 6, 7] rfl ?_
                                            exact ih217_14 v x275 (by
                                                    refine ⟨by omega, by omega, ?_, by omega, by omega⟩
                                                    rw [show (x275 - 1).toNat = (f - 1).toNat + 1 by omega]
                                                    show _ = if (if k % 2 = 0 then (1 : Int) else 0) = 0 then gf_min (pf_bst _ _ (f - 1).toNat) (gm_fld lf x50 (x50 - 1 - k).toNat (10 * r + ((((f - 1).toNat : Nat) : Int) + 1))) else gf_max (pf_bst _ _ (f - 1).toNat) (gm_fld lf x50 (x50 - 1 - k).toNat (10 * r + ((((f - 1).toNat : Nat) : Int) + 1)))
                                                    rw [show (((f - 1).toNat : Nat) : Int) + 1 = f by omega, ← hv, ← hvf, ← hx237]
                                                    unfold gf_min gf_max
                                                    by_cases hpar : k % 2 = 0
                                                    · rw [if_pos hpar, if_neg (by decide)]
                                                      split <;> omega
                                                    · rw [if_neg hpar, if_pos rfl]
                                                      split <;> omega) (by omega)
                                          · skip
                                            refine gf_iload C dd_Mo_duel_266 0 rfl ?_
                                            refine gf_goto 273 C dd_Mo_duel_268 (by decide) ?_
                                            refine gf_istore (lv' := [(8, .int (gf_i x237)), (10, .int (gf_i x237)), (9, .int (gf_i f)), (0, .ref (gf_ad E 65)), (4, .int (gf_i x50)), (5, .int (gf_i x190)), (6, .int (gf_i k)), (7, .int (gf_i r))]) C dd_Mo_duel_273 (by decide) rfl ?_
                                            obtain ⟨x275, hx275⟩ : ∃ y : Int, y = f + 1 := ⟨_, rfl⟩
                                            refine gf_iinc (q := 2) (v := x275) (lv' := [(9, .int (gf_i x275)), (8, .int (gf_i x237)), (10, .int (gf_i x237)), (0, .ref (gf_ad E 65)), (4, .int (gf_i x50)), (5, .int (gf_i x190)), (6, .int (gf_i k)), (7, .int (gf_i r))]) C dd_Mo_duel_275 rfl hx275 (by decide) rfl ?_
                                            refine gf_goto 217 C dd_Mo_duel_278 (by decide) ?_
                                            refine gf_lsub [1, 0, 3, 4, 5, 6, 7] rfl ?_
                                            exact ih217_14 x237 x275 (by
                                                    refine ⟨by omega, by omega, ?_, by omega, by omega⟩
                                                    rw [show (x275 - 1).toNat = (f - 1).toNat + 1 by omega]
                                                    show _ = if (if k % 2 = 0 then (1 : Int) else 0) = 0 then gf_min (pf_bst _ _ (f - 1).toNat) (gm_fld lf x50 (x50 - 1 - k).toNat (10 * r + ((((f - 1).toNat : Nat) : Int) + 1))) else gf_max (pf_bst _ _ (f - 1).toNat) (gm_fld lf x50 (x50 - 1 - k).toNat (10 * r + ((((f - 1).toNat : Nat) : Int) + 1)))
                                                    rw [show (((f - 1).toNat : Nat) : Int) + 1 = f by omega, ← hv, ← hvf, ← hx237]
                                                    unfold gf_min gf_max
                                                    by_cases hpar : k % 2 = 0
                                                    · rw [if_pos hpar, if_neg (by decide)]
                                                      split <;> omega
                                                    · rw [if_neg hpar, if_pos rfl]
                                                      split <;> omega) (by omega)
                                refine gf_lsub [1, 0, 3, 4, 5, 6, 2] rfl ?_
                                exact L217_14 _ x212 1 (⟨by omega, by omega, by rw [hx212, hv0]; show _ = gm_fld lf x50 (x50 - 1 - k).toNat (10 * r + 0); rw [Int.add_zero], by omega, by omega⟩) (Nat.lt_succ_self _)
                          refine gf_lsub [0, 3, 4, 1, 2] rfl ?_
                          exact L195_13 _ 0 m (⟨by omega, by omega, fun s h0 h1 => by omega, fun s h0 h1 => hfv s (by omega) h1, hff⟩) (Nat.lt_succ_self _)
                    refine gf_lsub [6, 0, 1, 5] rfl ?_
                    exact L180_12 _ w x178 m (⟨by omega, by omega, by rw [hw, show x178 + 1 = x50 by omega], fun r h0 h1 => by rw [show (x50 - 1 - x178).toNat = 0 by omega]; exact hall r h0 (by rw [show x178 + 1 = x50 by omega] at h1; exact h1), hrf⟩) (Nat.lt_succ_self _)
                  · skip
                    refine gf_iload C dd_Mo_duel_95 5 rfl ?_
                    refine gf_if_le 174 C dd_Mo_duel_97 (by decide) (by omega) (fun h97 => ?_) (fun h97 => ?_)
                    · skip
                      have hall : ∀ r : Int, 0 ≤ r → r < 10 ^ x50.toNat → m 80 r = lf r := fun r h0 h1 => by
                        rcases (show x50 = 0 ∨ 0 < x50 by omega) with h | h
                        · have hp0 : (10 : Int) ^ x50.toNat = 1 := by rw [h]; decide
                          have er : r = 0 := by omega
                          rcases (show row = 0 ∨ 0 < row by omega) with h2 | h2
                          · rcases hrz h2 with h3 | h3
                            · rw [er]; exact h3
                            · omega
                          · rw [er]; exact hrv 0 (by omega) h2
                        · exact hrv r h0 (by omega)
                      clear hrz hrv
                      refine gf_iload C dd_Mo_duel_174 5 rfl ?_
                      refine gf_iconst C dd_Mo_duel_176 ?_
                      refine gf_isub C dd_Mo_duel_177 ?_
                      refine gf_nm (fun x178 hx178 => ?_)
                      refine gf_istore (lv' := [(6, .int (gf_i x178)), (0, .ref (gf_ad E 65)), (1, .int (gf_i i)), (2, .int (gf_i n)), (3, .int (gf_i r24)), (4, .int (gf_i x50)), (5, .int (gf_i w))]) C dd_Mo_duel_178 (by decide) rfl ?_
                      have L180_15 : ∀ (N : Nat) (w k : Int) (m : gf_M) , (-1 ≤ k ∧ k ≤ x50 - 1 ∧ w = 10 ^ (k + 1).toNat ∧ (∀ r : Int, 0 ≤ r → r < 10 ^ (k + 1).toNat → m 80 r = gm_fld lf x50 (x50 - 1 - k).toNat r) ∧ ∀ a b : Int, ¬ (a = 65 ∧ b = 15) → a ≠ 73 → a ≠ 80 → m a b = μ a b) → (k + 1).toNat < N → gf_G X E Q 11 gf_φ m 180 [(5, .int (gf_i w)), (6, .int (gf_i k)), (0, .ref (gf_ad E 65)), (4, .int (gf_i x50))] [] := by
                        intro N
                        induction N with
                        | zero => intro w k m hinv hN; exact absurd hN (Nat.not_lt_zero _)
                        | succ N ih180_15 =>
                          intro w k m hinv hN
                          have hinv0 := hinv
                          obtain ⟨hk0, hk1, hwv, hfv, hff⟩ := hinv
                          have h104 := pf_10_4 (n := (k + 1).toNat) (by omega)
                          refine gf_iload C dd_Mo_duel_180 1 rfl ?_
                          refine gf_if_lt 302 C dd_Mo_duel_182 (by decide) (by omega) (fun h182 => ?_) (fun h182 => ?_)
                          · skip
                            refine gf_aload_n C dd_Mo_duel_302 2 rfl ?_
                            refine gf_getA (r := 80) C gf_cl7 fl_Mo_57 dd_Mo_duel_303 rfl (show gf_is 81 65 0 7 26 by decide) (by decide) (by decide) ?_
                            refine gf_iconst C dd_Mo_duel_306 ?_
                            refine gf_iald C dd_Mo_duel_307 (show gf_is 81 80 1 0 10000 by decide) (by omega) (fun hv307 => ?_)
                            refine gf_iret C hQ dd_Mo_duel_308 (by omega) ?_
                            refine ⟨fun h => absurd h (by omega), fun _ => ⟨?_, fun a b hab => by unfold gm_scr at hab; exact hff a b (by omega) (by omega) (by omega)⟩⟩
                            have ek : k = -1 := by omega
                            have := hfv 0 (by omega) (by omega)
                            rw [this, ek, show (x50 - 1 - -1).toNat = x50.toNat by omega]
                          · skip
                            have hkk : (10 : Int) ^ (k + 1).toNat = 10 ^ k.toNat * 10 := by rw [show (k + 1).toNat = k.toNat + 1 by omega, Int.pow_succ]
                            have h10k := pf_10_4 (n := k.toNat) (by omega)
                            refine gf_iload C dd_Mo_duel_185 0 rfl ?_
                            refine gf_bipush C dd_Mo_duel_187 (by decide +kernel) ?_
                            refine gf_idiv C dd_Mo_duel_189 (by omega) ?_
                            refine gf_nm (fun x190 hx190 => ?_)
                            refine gf_istore (lv' := [(5, .int (gf_i x190)), (6, .int (gf_i k)), (0, .ref (gf_ad E 65)), (4, .int (gf_i x50))]) C dd_Mo_duel_190 (by decide) rfl ?_
                            have hw2 : x190 = 10 ^ k.toNat := by rw [hx190, hwv, hkk]; omega
                            refine gf_iconst C dd_Mo_duel_192 ?_
                            refine gf_istore (lv' := [(7, .int (gf_i 0)), (5, .int (gf_i x190)), (6, .int (gf_i k)), (0, .ref (gf_ad E 65)), (4, .int (gf_i x50))]) C dd_Mo_duel_193 (by decide) rfl ?_
                            have L195_16 : ∀ (N : Nat) (r : Int) (m3 : gf_M) , (0 ≤ r ∧ r ≤ 10 ^ k.toNat ∧ (∀ s : Int, 0 ≤ s → s < r → m3 80 s = gm_fld lf x50 (x50 - 1 - (k - 1)).toNat s) ∧ (∀ s : Int, r ≤ s → s < 10 ^ (k + 1).toNat → m3 80 s = gm_fld lf x50 (x50 - 1 - k).toNat s) ∧ ∀ a b : Int, ¬ (a = 65 ∧ b = 15) → a ≠ 73 → a ≠ 80 → m3 a b = μ a b) → (10000 - r).toNat < N → gf_G X E Q 11 gf_φ m3 195 [(7, .int (gf_i r)), (0, .ref (gf_ad E 65)), (4, .int (gf_i x50)), (5, .int (gf_i x190)), (6, .int (gf_i k))] [] := by
                              intro N
                              induction N with
                              | zero => intro r m3 hinv hN; exact absurd hN (Nat.not_lt_zero _)
                              | succ N ih195_16 =>
                                intro r m3 hinv hN
                                have hinv0 := hinv
                                obtain ⟨hq0, hq1, hf1, hf2, hf3⟩ := hinv
                                refine gf_iload C dd_Mo_duel_195 0 rfl ?_
                                refine gf_iload C dd_Mo_duel_197 3 rfl ?_
                                refine gf_icmp_ge 296 C dd_Mo_duel_199 (by decide) (by omega) (by omega) (fun h199 => ?_) (fun h199 => ?_)
                                · skip
                                  obtain ⟨x296, hx296⟩ : ∃ y : Int, y = k + (-1) := ⟨_, rfl⟩
                                  refine gf_iinc (q := 4) (v := x296) (lv' := [(6, .int (gf_i x296)), (7, .int (gf_i r)), (0, .ref (gf_ad E 65)), (4, .int (gf_i x50)), (5, .int (gf_i x190))]) C dd_Mo_duel_296 rfl hx296 (by decide) rfl ?_
                                  refine gf_goto 180 C dd_Mo_duel_299 (by decide) ?_
                                  refine gf_lsub [4, 0, 2, 3] rfl ?_
                                  exact ih180_15 x190 x296 m3 (by
                                          refine ⟨by omega, by omega, by rw [hw2, show x296 + 1 = k by omega], fun r2 h0 h1 => ?_, hf3⟩
                                          rw [show x296 + 1 = k by omega] at h1
                                          rw [show x296 = k - 1 by omega]
                                          exact hf1 r2 h0 (by omega)) (by omega)
                                · skip
                                  have hrb : 10 * r + 9 < 10 ^ (k + 1).toNat := by rw [hkk]; omega
                                  have hd9 : (x50 - 1 - (k - 1)).toNat = (x50 - 1 - k).toNat + 1 := by omega
                                  have hv0 := hf2 (10 * r) (by omega) (by omega)
                                  have hv0R := hfR (x50 - 1 - k).toNat (10 * r)
                                  refine gf_aload_n C dd_Mo_duel_202 1 rfl ?_
                                  refine gf_getA (r := 80) C gf_cl7 fl_Mo_57 dd_Mo_duel_203 rfl (show gf_is 81 65 0 7 26 by decide) (by decide) (by decide) ?_
                                  refine gf_bipush C dd_Mo_duel_206 (by decide +kernel) ?_
                                  refine gf_iload C dd_Mo_duel_208 0 rfl ?_
                                  refine gf_imul C dd_Mo_duel_210 ?_
                                  refine gf_iald C dd_Mo_duel_211 (show gf_is 81 80 1 0 10000 by decide) (by omega) (fun hv211 => ?_)
                                  refine gf_nm (fun x212 hx212 => ?_)
                                  refine gf_istore (lv' := [(8, .int (gf_i x212)), (7, .int (gf_i r)), (0, .ref (gf_ad E 65)), (4, .int (gf_i x50)), (5, .int (gf_i x190)), (6, .int (gf_i k))]) C dd_Mo_duel_212 (by decide) rfl ?_
                                  refine gf_iconst C dd_Mo_duel_214 ?_
                                  refine gf_istore (lv' := [(9, .int (gf_i 1)), (8, .int (gf_i x212)), (7, .int (gf_i r)), (0, .ref (gf_ad E 65)), (4, .int (gf_i x50)), (5, .int (gf_i x190)), (6, .int (gf_i k))]) C dd_Mo_duel_215 (by decide) rfl ?_
                                  have L217_17 : ∀ (N : Nat) (v f : Int) , (1 ≤ f ∧ f ≤ 10 ∧ v = pf_bst (if k % 2 = 0 then 1 else 0) (fun f => gm_fld lf x50 (x50 - 1 - k).toNat (10 * r + f)) (f - 1).toNat ∧ 0 ≤ v ∧ v ≤ 10) → (10 - f).toNat < N → gf_G X E Q 11 gf_φ m3 217 [(8, .int (gf_i v)), (9, .int (gf_i f)), (0, .ref (gf_ad E 65)), (4, .int (gf_i x50)), (5, .int (gf_i x190)), (6, .int (gf_i k)), (7, .int (gf_i r))] [] := by
                                    intro N
                                    induction N with
                                    | zero => intro v f hinv hN; exact absurd hN (Nat.not_lt_zero _)
                                    | succ N ih217_17 =>
                                      intro v f hinv hN
                                      have hinv0 := hinv
                                      obtain ⟨hf0, hf10, hv, hvR⟩ := hinv
                                      refine gf_iload C dd_Mo_duel_217 1 rfl ?_
                                      refine gf_bipush C dd_Mo_duel_219 (by decide +kernel) ?_
                                      refine gf_icmp_ge 281 C dd_Mo_duel_221 (by decide) (by omega) (by omega) (fun h221 => ?_) (fun h221 => ?_)
                                      · skip
                                        refine gf_aload_n C dd_Mo_duel_281 2 rfl ?_
                                        refine gf_getA (r := 80) C gf_cl7 fl_Mo_57 dd_Mo_duel_282 rfl (show gf_is 81 65 0 7 26 by decide) (by decide) (by decide) ?_
                                        refine gf_iload C dd_Mo_duel_285 6 rfl ?_
                                        refine gf_iload C dd_Mo_duel_287 0 rfl ?_
                                        refine gf_iast C dd_Mo_duel_289 (show gf_is 81 80 1 0 10000 by decide) (by omega) (by omega) ?_
                                        refine gf_nmM (fun m289 hm289 => ?_)
                                        obtain ⟨x290, hx290⟩ : ∃ y : Int, y = r + 1 := ⟨_, rfl⟩
                                        refine gf_iinc (q := 6) (v := x290) (lv' := [(7, .int (gf_i x290)), (8, .int (gf_i v)), (9, .int (gf_i f)), (0, .ref (gf_ad E 65)), (4, .int (gf_i x50)), (5, .int (gf_i x190)), (6, .int (gf_i k))]) C dd_Mo_duel_290 rfl hx290 (by decide) rfl ?_
                                        refine gf_goto 195 C dd_Mo_duel_293 (by decide) ?_
                                        refine gf_lsub [0, 3, 4, 5, 6] rfl ?_
                                        exact ih195_16 x290 m289 (by
                                                refine ⟨by omega, by omega, fun s h0 h1 => ?_, fun s h0 h1 => by rw [hm289, gf_up_j (by omega)]; exact hf2 s (by omega) h1, fun a b h1 h2 h3 => by rw [hm289, gf_up_k h3]; exact hf3 a b h1 h2 h3⟩
                                                rw [hm289]
                                                by_cases e : s = r
                                                · rw [e, gf_up_s, hv, show (f - 1).toNat = 9 by omega, hd9]
                                                  show _ = pf_bst (if (x50 - 1 - (((x50 - 1 - k).toNat : Nat) : Int)) % 2 = 0 then 1 else 0) (fun f => gm_fld lf x50 (x50 - 1 - k).toNat (10 * r + f)) 9
                                                  rw [show x50 - 1 - (((x50 - 1 - k).toNat : Nat) : Int) = k by omega]
                                                · rw [gf_up_j e]; exact hf1 s h0 (by omega)) (by omega)
                                      · skip
                                        have hvf := hf2 (10 * r + f) (by omega) (by omega)
                                        have hvfR := hfR (x50 - 1 - k).toNat (10 * r + f)
                                        refine gf_aload_n C dd_Mo_duel_224 2 rfl ?_
                                        refine gf_getA (r := 80) C gf_cl7 fl_Mo_57 dd_Mo_duel_225 rfl (show gf_is 81 65 0 7 26 by decide) (by decide) (by decide) ?_
                                        refine gf_bipush C dd_Mo_duel_228 (by decide +kernel) ?_
                                        refine gf_iload C dd_Mo_duel_230 6 rfl ?_
                                        refine gf_imul C dd_Mo_duel_232 ?_
                                        refine gf_iload C dd_Mo_duel_233 1 rfl ?_
                                        refine gf_iadd C dd_Mo_duel_235 ?_
                                        refine gf_iald C dd_Mo_duel_236 (show gf_is 81 80 1 0 10000 by decide) (by omega) (fun hv236 => ?_)
                                        refine gf_nm (fun x237 hx237 => ?_)
                                        refine gf_istore (lv' := [(10, .int (gf_i x237)), (8, .int (gf_i v)), (9, .int (gf_i f)), (0, .ref (gf_ad E 65)), (4, .int (gf_i x50)), (5, .int (gf_i x190)), (6, .int (gf_i k)), (7, .int (gf_i r))]) C dd_Mo_duel_237 (by decide) rfl ?_
                                        refine gf_iload C dd_Mo_duel_239 0 rfl ?_
                                        refine gf_iload C dd_Mo_duel_241 1 rfl ?_
                                        refine gf_icmp_le 250 C dd_Mo_duel_243 (by decide) (by omega) (by omega) (fun h243 => ?_) (fun h243 => ?_)
                                        · skip
                                          refine gf_iconst C dd_Mo_duel_250 ?_
                                          refine gf_iload C dd_Mo_duel_251 6 rfl ?_
                                          refine gf_iconst C dd_Mo_duel_253 ?_
                                          refine gf_irem C dd_Mo_duel_254 (by omega) ?_
                                          refine gf_if_ne 262 C dd_Mo_duel_255 (by decide) (by omega) (fun h255 => ?_) (fun h255 => ?_)
                                          · skip
                                            refine gf_iconst C dd_Mo_duel_262 ?_
                                            refine gf_icmp_ne 271 C dd_Mo_duel_263 (by decide) (by omega) (by omega) (fun h263 => ?_) (fun h263 => ?_)
                                            · skip
                                              refine gf_iload C dd_Mo_duel_271 1 rfl ?_
                                              refine gf_istore (lv' := [(8, .int (gf_i v)), (10, .int (gf_i x237)), (9, .int (gf_i f)), (0, .ref (gf_ad E 65)), (4, .int (gf_i x50)), (5, .int (gf_i x190)), (6, .int (gf_i k)), (7, .int (gf_i r))]) C dd_Mo_duel_273 (by decide) rfl ?_
                                              obtain ⟨x275, hx275⟩ : ∃ y : Int, y = f + 1 := ⟨_, rfl⟩
                                              refine gf_iinc (q := 2) (v := x275) (lv' := [(9, .int (gf_i x275)), (8, .int (gf_i v)), (10, .int (gf_i x237)), (0, .ref (gf_ad E 65)), (4, .int (gf_i x50)), (5, .int (gf_i x190)), (6, .int (gf_i k)), (7, .int (gf_i r))]) C dd_Mo_duel_275 rfl hx275 (by decide) rfl ?_
                                              refine gf_goto 217 C dd_Mo_duel_278 (by decide) ?_
                                              refine gf_lsub [1, 0, 3, 4, 5, 6, 7] rfl ?_
                                              exact ih217_17 v x275 (by
                                                      refine ⟨by omega, by omega, ?_, by omega, by omega⟩
                                                      rw [show (x275 - 1).toNat = (f - 1).toNat + 1 by omega]
                                                      show _ = if (if k % 2 = 0 then (1 : Int) else 0) = 0 then gf_min (pf_bst _ _ (f - 1).toNat) (gm_fld lf x50 (x50 - 1 - k).toNat (10 * r + ((((f - 1).toNat : Nat) : Int) + 1))) else gf_max (pf_bst _ _ (f - 1).toNat) (gm_fld lf x50 (x50 - 1 - k).toNat (10 * r + ((((f - 1).toNat : Nat) : Int) + 1)))
                                                      rw [show (((f - 1).toNat : Nat) : Int) + 1 = f by omega, ← hv, ← hvf, ← hx237]
                                                      unfold gf_min gf_max
                                                      by_cases hpar : k % 2 = 0
                                                      · rw [if_pos hpar, if_neg (by decide)]
                                                        split <;> omega
                                                      · rw [if_neg hpar, if_pos rfl]
                                                        split <;> omega) (by omega)
                                            · skip
                                              refine gf_iload C dd_Mo_duel_266 0 rfl ?_
                                              refine gf_goto 273 C dd_Mo_duel_268 (by decide) ?_
                                              refine gf_istore (lv' := [(8, .int (gf_i x237)), (10, .int (gf_i x237)), (9, .int (gf_i f)), (0, .ref (gf_ad E 65)), (4, .int (gf_i x50)), (5, .int (gf_i x190)), (6, .int (gf_i k)), (7, .int (gf_i r))]) C dd_Mo_duel_273 (by decide) rfl ?_
                                              obtain ⟨x275, hx275⟩ : ∃ y : Int, y = f + 1 := ⟨_, rfl⟩
                                              refine gf_iinc (q := 2) (v := x275) (lv' := [(9, .int (gf_i x275)), (8, .int (gf_i x237)), (10, .int (gf_i x237)), (0, .ref (gf_ad E 65)), (4, .int (gf_i x50)), (5, .int (gf_i x190)), (6, .int (gf_i k)), (7, .int (gf_i r))]) C dd_Mo_duel_275 rfl hx275 (by decide) rfl ?_
                                              refine gf_goto 217 C dd_Mo_duel_278 (by decide) ?_
                                              refine gf_lsub [1, 0, 3, 4, 5, 6, 7] rfl ?_
                                              exact ih217_17 x237 x275 (by
                                                      refine ⟨by omega, by omega, ?_, by omega, by omega⟩
                                                      rw [show (x275 - 1).toNat = (f - 1).toNat + 1 by omega]
                                                      show _ = if (if k % 2 = 0 then (1 : Int) else 0) = 0 then gf_min (pf_bst _ _ (f - 1).toNat) (gm_fld lf x50 (x50 - 1 - k).toNat (10 * r + ((((f - 1).toNat : Nat) : Int) + 1))) else gf_max (pf_bst _ _ (f - 1).toNat) (gm_fld lf x50 (x50 - 1 - k).toNat (10 * r + ((((f - 1).toNat : Nat) : Int) + 1)))
                                                      rw [show (((f - 1).toNat : Nat) : Int) + 1 = f by omega, ← hv, ← hvf, ← hx237]
                                                      unfold gf_min gf_max
                                                      by_cases hpar : k % 2 = 0
                                                      · rw [if_pos hpar, if_neg (by decide)]
                                                        split <;> omega
                                                      · rw [if_neg hpar, if_pos rfl]
                                                        split <;> omega) (by omega)
                                          · skip
                                            refine gf_iconst C dd_Mo_duel_258 ?_
                                            refine gf_goto 263 C dd_Mo_duel_259 (by decide) ?_
                                            refine gf_icmp_ne 271 C dd_Mo_duel_263 (by decide) (by omega) (by omega) (fun h263 => ?_) (fun h263 => ?_)
                                            · skip
                                              refine gf_iload C dd_Mo_duel_271 1 rfl ?_
                                              refine gf_istore (lv' := [(8, .int (gf_i v)), (10, .int (gf_i x237)), (9, .int (gf_i f)), (0, .ref (gf_ad E 65)), (4, .int (gf_i x50)), (5, .int (gf_i x190)), (6, .int (gf_i k)), (7, .int (gf_i r))]) C dd_Mo_duel_273 (by decide) rfl ?_
                                              obtain ⟨x275, hx275⟩ : ∃ y : Int, y = f + 1 := ⟨_, rfl⟩
                                              refine gf_iinc (q := 2) (v := x275) (lv' := [(9, .int (gf_i x275)), (8, .int (gf_i v)), (10, .int (gf_i x237)), (0, .ref (gf_ad E 65)), (4, .int (gf_i x50)), (5, .int (gf_i x190)), (6, .int (gf_i k)), (7, .int (gf_i r))]) C dd_Mo_duel_275 rfl hx275 (by decide) rfl ?_
                                              refine gf_goto 217 C dd_Mo_duel_278 (by decide) ?_
                                              refine gf_lsub [1, 0, 3, 4, 5, 6, 7] rfl ?_
                                              exact ih217_17 v x275 (by
                                                      refine ⟨by omega, by omega, ?_, by omega, by omega⟩
                                                      rw [show (x275 - 1).toNat = (f - 1).toNat + 1 by omega]
                                                      show _ = if (if k % 2 = 0 then (1 : Int) else 0) = 0 then gf_min (pf_bst _ _ (f - 1).toNat) (gm_fld lf x50 (x50 - 1 - k).toNat (10 * r + ((((f - 1).toNat : Nat) : Int) + 1))) else gf_max (pf_bst _ _ (f - 1).toNat) (gm_fld lf x50 (x50 - 1 - k).toNat (10 * r + ((((f - 1).toNat : Nat) : Int) + 1)))
                                                      rw [show (((f - 1).toNat : Nat) : Int) + 1 = f by omega, ← hv, ← hvf, ← hx237]
                                                      unfold gf_min gf_max
                                                      by_cases hpar : k % 2 = 0
                                                      · rw [if_pos hpar, if_neg (by decide)]
                                                        split <;> omega
                                                      · rw [if_neg hpar, if_pos rfl]
                                                        split <;> omega) (by omega)
                                            · skip
                                              refine gf_iload C dd_Mo_duel_266 0 rfl ?_
                                              refine gf_goto 273 C dd_Mo_duel_268 (by decide) ?_
                                              refine gf_istore (lv' := [(8, .int (gf_i x237)), (10, .int (gf_i x237)), (9, .int (gf_i f)), (0, .ref (gf_ad E 65)), (4, .int (gf_i x50)), (5, .int (gf_i x190)), (6, .int (gf_i k)), (7, .int (gf_i r))]) C dd_Mo_duel_273 (by decide) rfl ?_
                                              obtain ⟨x275, hx275⟩ : ∃ y : Int, y = f + 1 := ⟨_, rfl⟩
                                              refine gf_iinc (q := 2) (v := x275) (lv' := [(9, .int (gf_i x275)), (8, .int (gf_i x237)), (10, .int (gf_i x237)), (0, .ref (gf_ad E 65)), (4, .int (gf_i x50)), (5, .int (gf_i x190)), (6, .int (gf_i k)), (7, .int (gf_i r))]) C dd_Mo_duel_275 rfl hx275 (by decide) rfl ?_
                                              refine gf_goto 217 C dd_Mo_duel_278 (by decide) ?_
                                              refine gf_lsub [1, 0, 3, 4, 5, 6, 7] rfl ?_
                                              exact ih217_17 x237 x275 (by
                                                      refine ⟨by omega, by omega, ?_, by omega, by omega⟩
                                                      rw [show (x275 - 1).toNat = (f - 1).toNat + 1 by omega]
                                                      show _ = if (if k % 2 = 0 then (1 : Int) else 0) = 0 then gf_min (pf_bst _ _ (f - 1).toNat) (gm_fld lf x50 (x50 - 1 - k).toNat (10 * r + ((((f - 1).toNat : Nat) : Int) + 1))) else gf_max (pf_bst _ _ (f - 1).toNat) (gm_fld lf x50 (x50 - 1 - k).toNat (10 * r + ((((f - 1).toNat : Nat) : Int) + 1)))
                                                      rw [show (((f - 1).toNat : Nat) : Int) + 1 = f by omega, ← hv, ← hvf, ← hx237]
                                                      unfold gf_min gf_max
                                                      by_cases hpar : k % 2 = 0
                                                      · rw [if_pos hpar, if_neg (by decide)]
                                                        split <;> omega
                                                      · rw [if_neg hpar, if_pos rfl]
                                                        split <;> omega) (by omega)
                                        · skip
                                          refine gf_iconst C dd_Mo_duel_246 ?_
                                          refine gf_goto 251 C dd_Mo_duel_247 (by decide) ?_
                                          refine gf_iload C dd_Mo_duel_251 6 rfl ?_
                                          refine gf_iconst C dd_Mo_duel_253 ?_
                                          refine gf_irem C dd_Mo_duel_254 (by omega) ?_
                                          refine gf_if_ne 262 C dd_Mo_duel_255 (by decide) (by omega) (fun h255 => ?_) (fun h255 => ?_)
                                          · skip
                                            refine gf_iconst C dd_Mo_duel_262 ?_
                                            refine gf_icmp_ne 271 C dd_Mo_duel_263 (by decide) (by omega) (by omega) (fun h263 => ?_) (fun h263 => ?_)
                                            · skip
                                              refine gf_iload C dd_Mo_duel_271 1 rfl ?_
                                              refine gf_istore (lv' := [(8, .int (gf_i v)), (10, .int (gf_i x237)), (9, .int (gf_i f)), (0, .ref (gf_ad E 65)), (4, .int (gf_i x50)), (5, .int (gf_i x190)), (6, .int (gf_i k)), (7, .int (gf_i r))]) C dd_Mo_duel_273 (by decide) rfl ?_
                                              obtain ⟨x275, hx275⟩ : ∃ y : Int, y = f + 1 := ⟨_, rfl⟩
                                              refine gf_iinc (q := 2) (v := x275) (lv' := [(9, .int (gf_i x275)), (8, .int (gf_i v)), (10, .int (gf_i x237)), (0, .ref (gf_ad E 65)), (4, .int (gf_i x50)), (5, .int (gf_i x190)), (6, .int (gf_i k)), (7, .int (gf_i r))]) C dd_Mo_duel_275 rfl hx275 (by decide) rfl ?_
                                              refine gf_goto 217 C dd_Mo_duel_278 (by decide) ?_
                                              refine gf_lsub [1, 0, 3, 4, 5, 6, 7] rfl ?_
                                              exact ih217_17 v x275 (by
                                                      refine ⟨by omega, by omega, ?_, by omega, by omega⟩
                                                      rw [show (x275 - 1).toNat = (f - 1).toNat + 1 by omega]
                                                      show _ = if (if k % 2 = 0 then (1 : Int) else 0) = 0 then gf_min (pf_bst _ _ (f - 1).toNat) (gm_fld lf x50 (x50 - 1 - k).toNat (10 * r + ((((f - 1).toNat : Nat) : Int) + 1))) else gf_max (pf_bst _ _ (f - 1).toNat) (gm_fld lf x50 (x50 - 1 - k).toNat (10 * r + ((((f - 1).toNat : Nat) : Int) + 1)))
                                                      rw [show (((f - 1).toNat : Nat) : Int) + 1 = f by omega, ← hv, ← hvf, ← hx237]
                                                      unfold gf_min gf_max
                                                      by_cases hpar : k % 2 = 0
                                                      · rw [if_pos hpar, if_neg (by decide)]
                                                        split <;> omega
                                                      · rw [if_neg hpar, if_pos rfl]
                                                        split <;> omega) (by omega)
                                            · skip
                                              refine gf_iload C dd_Mo_duel_266 0 rfl ?_
                                              refine gf_goto 273 C dd_Mo_duel_268 (by decide) ?_
                                              refine gf_istore (lv' := [(8, .int (gf_i x237)), (10, .int (gf_i x237)), (9, .int (gf_i f)), (0, .ref (gf_ad E 65)), (4, .int (gf_i x50)), (5, .int (gf_i x190)), (6, .int (gf_i k)), (7, .int (gf_i r))]) C dd_Mo_duel_273 (by decide) rfl ?_
                                              obtain ⟨x275, hx275⟩ : ∃ y : Int, y = f + 1 := ⟨_, rfl⟩
                                              refine gf_iinc (q := 2) (v := x275) (lv' := [(9, .int (gf_i x275)), (8, .int (gf_i x237)), (10, .int (gf_i x237)), (0, .ref (gf_ad E 65)), (4, .int (gf_i x50)), (5, .int (gf_i x190)), (6, .int (gf_i k)), (7, .int (gf_i r))]) C dd_Mo_duel_275 rfl hx275 (by decide) rfl ?_
                                              refine gf_goto 217 C dd_Mo_duel_278 (by decide) ?_
                                              refine gf_lsub [1, 0, 3, 4, 5, 6, 7] rfl ?_
                                              exact ih217_17 x237 x275 (by
                                                      refine ⟨by omega, by omega, ?_, by omega, by omega⟩
                                                      rw [show (x275 - 1).toNat = (f - 1).toNat + 1 by omega]
                                                      show _ = if (if k % 2 = 0 then (1 : Int) else 0) = 0 then gf_min (pf_bst _ _ (f - 1).toNat) (gm_fld lf x50 (x50 - 1 - k).toNat (10 * r + ((((f - 1).toNat : Nat) : Int) + 1))) else gf_max (pf_bst _ _ (f - 1).toNat) (gm_fld lf x50 (x50 - 1 - k).toNat (10 * r + ((((f - 1).toNat : Nat) : Int) + 1)))
                                                      rw [show (((f - 1).toNat : Nat) : Int) + 1 = f by omega, ← hv, ← hvf, ← hx237]
                                                      unfold gf_min gf_max
                                                      by_cases hpar : k % 2 = 0
                                                      · rw [if_pos hpar, if_neg (by decide)]
                                                        split <;> omega
                                                      · rw [if_neg hpar, if_pos rfl]
                                                        split <;> omega) (by omega)
                                          · skip
                                            refine gf_iconst C dd_Mo_duel_258 ?_
                                            refine gf_goto 263 C dd_Mo_duel_259 (by decide) ?_
                                            refine gf_icmp_ne 271 C dd_Mo_duel_263 (by decide) (by omega) (by omega) (fun h263 => ?_) (fun h263 => ?_)
                                            · skip
                                              refine gf_iload C dd_Mo_duel_271 1 rfl ?_
                                              refine gf_istore (lv' := [(8, .int (gf_i v)), (10, .int (gf_i x237)), (9, .int (gf_i f)), (0, .ref (gf_ad E 65)), (4, .int (gf_i x50)), (5, .int (gf_i x190)), (6, .int (gf_i k)), (7, .int (gf_i r))]) C dd_Mo_duel_273 (by decide) rfl ?_
                                              obtain ⟨x275, hx275⟩ : ∃ y : Int, y = f + 1 := ⟨_, rfl⟩
                                              refine gf_iinc (q := 2) (v := x275) (lv' := [(9, .int (gf_i x275)), (8, .int (gf_i v)), (10, .int (gf_i x237)), (0, .ref (gf_ad E 65)), (4, .int (gf_i x50)), (5, .int (gf_i x190)), (6, .int (gf_i k)), (7, .int (gf_i r))]) C dd_Mo_duel_275 rfl hx275 (by decide) rfl ?_
                                              refine gf_goto 217 C dd_Mo_duel_278 (by decide) ?_
                                              refine gf_lsub [1, 0, 3, 4, 5, 6, 7] rfl ?_
                                              exact ih217_17 v x275 (by
                                                      refine ⟨by omega, by omega, ?_, by omega, by omega⟩
                                                      rw [show (x275 - 1).toNat = (f - 1).toNat + 1 by omega]
                                                      show _ = if (if k % 2 = 0 then (1 : Int) else 0) = 0 then gf_min (pf_bst _ _ (f - 1).toNat) (gm_fld lf x50 (x50 - 1 - k).toNat (10 * r + ((((f - 1).toNat : Nat) : Int) + 1))) else gf_max (pf_bst _ _ (f - 1).toNat) (gm_fld lf x50 (x50 - 1 - k).toNat (10 * r + ((((f - 1).toNat : Nat) : Int) + 1)))
                                                      rw [show (((f - 1).toNat : Nat) : Int) + 1 = f by omega, ← hv, ← hvf, ← hx237]
                                                      unfold gf_min gf_max
                                                      by_cases hpar : k % 2 = 0
                                                      · rw [if_pos hpar, if_neg (by decide)]
                                                        split <;> omega
                                                      · rw [if_neg hpar, if_pos rfl]
                                                        split <;> omega) (by omega)
                                            · skip
                                              refine gf_iload C dd_Mo_duel_266 0 rfl ?_
                                              refine gf_goto 273 C dd_Mo_duel_268 (by decide) ?_
                                              refine gf_istore (lv' := [(8, .int (gf_i x237)), (10, .int (gf_i x237)), (9, .int (gf_i f)), (0, .ref (gf_ad E 65)), (4, .int (gf_i x50)), (5, .int (gf_i x190)), (6, .int (gf_i k)), (7, .int (gf_i r))]) C dd_Mo_duel_273 (by decide) rfl ?_
                                              obtain ⟨x275, hx275⟩ : ∃ y : Int, y = f + 1 := ⟨_, rfl⟩
                                              refine gf_iinc (q := 2) (v := x275) (lv' := [(9, .int (gf_i x275)), (8, .int (gf_i x237)), (10, .int (gf_i x237)), (0, .ref (gf_ad E 65)), (4, .int (gf_i x50)), (5, .int (gf_i x190)), (6, .int (gf_i k)), (7, .int (gf_i r))]) C dd_Mo_duel_275 rfl hx275 (by decide) rfl ?_
                                              refine gf_goto 217 C dd_Mo_duel_278 (by decide) ?_
                                              refine gf_lsub [1, 0, 3, 4, 5, 6, 7] rfl ?_
                                              exact ih217_17 x237 x275 (by
                                                      refine ⟨by omega, by omega, ?_, by omega, by omega⟩
                                                      rw [show (x275 - 1).toNat = (f - 1).toNat + 1 by omega]
                                                      show _ = if (if k % 2 = 0 then (1 : Int) else 0) = 0 then gf_min (pf_bst _ _ (f - 1).toNat) (gm_fld lf x50 (x50 - 1 - k).toNat (10 * r + ((((f - 1).toNat : Nat) : Int) + 1))) else gf_max (pf_bst _ _ (f - 1).toNat) (gm_fld lf x50 (x50 - 1 - k).toNat (10 * r + ((((f - 1).toNat : Nat) : Int) + 1)))
                                                      rw [show (((f - 1).toNat : Nat) : Int) + 1 = f by omega, ← hv, ← hvf, ← hx237]
                                                      unfold gf_min gf_max
                                                      by_cases hpar : k % 2 = 0
                                                      · rw [if_pos hpar, if_neg (by decide)]
                                                        split <;> omega
                                                      · rw [if_neg hpar, if_pos rfl]
                                                        split <;> omega) (by omega)
                                  refine gf_lsub [1, 0, 3, 4, 5, 6, 2] rfl ?_
                                  exact L217_17 _ x212 1 (⟨by omega, by omega, by rw [hx212, hv0]; show _ = gm_fld lf x50 (x50 - 1 - k).toNat (10 * r + 0); rw [Int.add_zero], by omega, by omega⟩) (Nat.lt_succ_self _)
                            refine gf_lsub [0, 3, 4, 1, 2] rfl ?_
                            exact L195_16 _ 0 m (⟨by omega, by omega, fun s h0 h1 => by omega, fun s h0 h1 => hfv s (by omega) h1, hff⟩) (Nat.lt_succ_self _)
                      refine gf_lsub [6, 0, 1, 5] rfl ?_
                      exact L180_15 _ w x178 m (⟨by omega, by omega, by rw [hw, show x178 + 1 = x50 by omega], fun r h0 h1 => by rw [show (x50 - 1 - x178).toNat = 0 by omega]; exact hall r h0 (by rw [show x178 + 1 = x50 by omega] at h1; exact h1), hrf⟩) (Nat.lt_succ_self _)
                    · skip
                      refine gf_iload C dd_Mo_duel_100 0 rfl ?_
                      refine gf_istore (lv' := [(7, .int (gf_i row)), (6, .int (gf_i row)), (0, .ref (gf_ad E 65)), (1, .int (gf_i i)), (2, .int (gf_i n)), (3, .int (gf_i r24)), (4, .int (gf_i x50)), (5, .int (gf_i w))]) C dd_Mo_duel_102 (by decide) rfl ?_
                      refine gf_iload C dd_Mo_duel_104 6 rfl ?_
                      refine gf_iconst C dd_Mo_duel_106 ?_
                      refine gf_isub C dd_Mo_duel_107 ?_
                      refine gf_nm (fun x108 hx108 => ?_)
                      refine gf_istore (lv' := [(8, .int (gf_i x108)), (7, .int (gf_i row)), (6, .int (gf_i row)), (0, .ref (gf_ad E 65)), (1, .int (gf_i i)), (2, .int (gf_i n)), (3, .int (gf_i r24)), (4, .int (gf_i x50)), (5, .int (gf_i w))]) C dd_Mo_duel_108 (by decide) rfl ?_
                      have L110_18 : ∀ (N : Nat) (left k : Int) (m3 : gf_M) , (-1 ≤ k ∧ k ≤ x50 - 1 ∧ left = row / 10 ^ (x50 - 1 - k).toNat ∧ (∀ j : Int, k < j → j ≤ x50 - 1 → m3 73 (μ 71 1 + j) = row / 10 ^ (x50 - 1 - j).toNat % 10) ∧ m3 65 15 = μ 71 1 ∧ (∀ j : Int, 0 ≤ j → j < μ 71 1 → m3 73 j = μ 71 (24 + j)) ∧ (∀ b : Int, m3 80 b = m 80 b) ∧ ∀ a b : Int, ¬ (a = 65 ∧ b = 15) → a ≠ 73 → a ≠ 80 → m3 a b = μ a b) → (k + 1).toNat < N → gf_G X E Q 11 gf_φ m3 110 [(7, .int (gf_i left)), (8, .int (gf_i k)), (0, .ref (gf_ad E 65)), (1, .int (gf_i i)), (2, .int (gf_i n)), (3, .int (gf_i r24)), (4, .int (gf_i x50)), (5, .int (gf_i w)), (6, .int (gf_i row))] [] := by
                        intro N
                        induction N with
                        | zero => intro left k m3 hinv hN; exact absurd hN (Nat.not_lt_zero _)
                        | succ N ih110_18 =>
                          intro left k m3 hinv hN
                          have hinv0 := hinv
                          obtain ⟨hk0, hk1, hl, hkd, hk15, hk73, hk80, hkf⟩ := hinv
                          refine gf_iload C dd_Mo_duel_110 1 rfl ?_
                          refine gf_if_lt 145 C dd_Mo_duel_112 (by decide) (by omega) (fun h112 => ?_) (fun h112 => ?_)
                          · skip
                            have f145 : ∀ j : Int, 0 ≤ j → j < μ 71 1 + x50 → m3 73 j = gm_ext (gm_x μ) (μ 71 1) x50 row j := fun j h0 h1 => by
                              unfold gm_ext
                              by_cases e : j < μ 71 1
                              · rw [if_pos e]; exact hk73 j h0 e
                              · rw [if_neg e]
                                have := hkd (j - μ 71 1) (by omega) (by omega)
                                rw [show μ 71 1 + (j - μ 71 1) = j by omega, show x50 - 1 - (j - μ 71 1) = μ 71 1 + x50 - 1 - j by omega] at this
                                exact this
                            have q71 : ∀ b : Int, m3 71 b = μ 71 b := fun b => hkf 71 b (by omega) (by omega) (by omega)
                            refine gf_aload_n C dd_Mo_duel_145 2 rfl ?_
                            refine gf_getA (r := 80) C gf_cl7 fl_Mo_57 dd_Mo_duel_146 rfl (show gf_is 81 65 0 7 26 by decide) (by decide) (by decide) ?_
                            refine gf_iload C dd_Mo_duel_149 8 rfl ?_
                            refine gf_aload_n C dd_Mo_duel_151 2 rfl ?_
                            refine gf_iload_n C dd_Mo_duel_152 3 rfl ?_
                            refine gf_aload_n C dd_Mo_duel_153 2 rfl ?_
                            refine gf_getA (r := 73) C gf_cl7 fl_Mo_36 dd_Mo_duel_154 rfl (show gf_is 81 65 0 7 26 by decide) (by decide) (by decide) ?_
                            refine gf_aload_n C dd_Mo_duel_157 2 rfl ?_
                            refine gf_getI (z := 15) C gf_cl7 fl_Mo_146 dd_Mo_duel_158 rfl rfl (show gf_is 81 65 0 7 26 by decide) (fun hv158 => ?_)
                            refine gf_iload C dd_Mo_duel_161 6 rfl ?_
                            refine gf_iadd C dd_Mo_duel_163 ?_
                            refine gf_callVi (st := [.int (gf_i row), .ref (gf_ad E 80)]) (As := [.int (gf_i i), .ref (gf_ad E 73), .int (gf_i ((m3 65 15) + x50))]) C wk_Mo_152 gf_cl7 (show gf_is 81 65 0 7 26 by decide) (ct_Mo_byGuard (gf_xl X) E i 73 (m3 65 15 + x50) 8 m3 (gm_okg_f hg q71) (show gf_is 81 73 1 0 8 by decide) (by omega) (fun j h0 h1 => by
                              rw [f145 j h0 (by omega)]
                              unfold gm_ext
                              split
                              · exact hx j h0 (by omega)
                              · omega)) rfl ⟨rfl, rfl, rfl, rfl⟩ (Nat.le_of_ble_eq_true rfl) rfl dd_Mo_duel_164 (fun r164 m164 hR164 hp164 => ?_)
                            have hr164 := hp164.1
                            refine gf_pm hp164.2 ?_
                            refine gf_iast C dd_Mo_duel_167 (show gf_is 81 80 1 0 10000 by decide) (by omega) (by omega) ?_
                            refine gf_nmM (fun m167 hm167 => ?_)
                            obtain ⟨x168, hx168⟩ : ∃ y : Int, y = row + 1 := ⟨_, rfl⟩
                            refine gf_iinc (q := 8) (v := x168) (lv' := [(6, .int (gf_i x168)), (7, .int (gf_i left)), (8, .int (gf_i k)), (0, .ref (gf_ad E 65)), (1, .int (gf_i i)), (2, .int (gf_i n)), (3, .int (gf_i r24)), (4, .int (gf_i x50)), (5, .int (gf_i w))]) C dd_Mo_duel_168 rfl hx168 (by decide) rfl ?_
                            refine gf_goto 88 C dd_Mo_duel_171 (by decide) ?_
                            refine gf_lsub [0, 3, 4, 5, 6, 7, 8] rfl ?_
                            exact ih88_11 x168 m167 (by
                                    refine ⟨by omega, by omega, fun r h0 h1 => ?_, fun h => by omega, by rw [hm167, gf_up_k (by decide)]; exact hk15, fun j h0 h1 => by rw [hm167, gf_up_k (by decide)]; exact hk73 j h0 h1, fun a b h1 h2 h3 => by rw [hm167, gf_up_k h3]; exact hkf a b h1 h2 h3⟩
                                    rw [hm167]
                                    by_cases e : r = row
                                    · rw [e, gf_up_s, hr164.1, gm_rk_f q71, hk15, hlf]
                                      exact gm_rk_congr f145
                                    · rw [gf_up_j e, hk80]; exact hrv r h0 (by omega)) (by omega)
                          · skip
                            have hlr := pf_div_R (a := row) (x50 - 1 - k).toNat hr0
                            rw [← hl] at hlr
                            refine gf_aload_n C dd_Mo_duel_115 2 rfl ?_
                            refine gf_getA (r := 73) C gf_cl7 fl_Mo_36 dd_Mo_duel_116 rfl (show gf_is 81 65 0 7 26 by decide) (by decide) (by decide) ?_
                            refine gf_aload_n C dd_Mo_duel_119 2 rfl ?_
                            refine gf_getI (z := 15) C gf_cl7 fl_Mo_146 dd_Mo_duel_120 rfl rfl (show gf_is 81 65 0 7 26 by decide) (fun hv120 => ?_)
                            refine gf_iload C dd_Mo_duel_123 1 rfl ?_
                            refine gf_iadd C dd_Mo_duel_125 ?_
                            refine gf_iload C dd_Mo_duel_126 0 rfl ?_
                            refine gf_bipush C dd_Mo_duel_128 (by decide +kernel) ?_
                            refine gf_irem C dd_Mo_duel_130 (by omega) ?_
                            refine gf_iast C dd_Mo_duel_131 (show gf_is 81 73 1 0 8 by decide) (by omega) (by omega) ?_
                            refine gf_nmM (fun m131 hm131 => ?_)
                            refine gf_iload C dd_Mo_duel_132 0 rfl ?_
                            refine gf_bipush C dd_Mo_duel_134 (by decide +kernel) ?_
                            refine gf_idiv C dd_Mo_duel_136 (by omega) ?_
                            refine gf_nm (fun x137 hx137 => ?_)
                            refine gf_istore (lv' := [(7, .int (gf_i x137)), (8, .int (gf_i k)), (0, .ref (gf_ad E 65)), (1, .int (gf_i i)), (2, .int (gf_i n)), (3, .int (gf_i r24)), (4, .int (gf_i x50)), (5, .int (gf_i w)), (6, .int (gf_i row))]) C dd_Mo_duel_137 (by decide) rfl ?_
                            obtain ⟨x139, hx139⟩ : ∃ y : Int, y = k + (-1) := ⟨_, rfl⟩
                            refine gf_iinc (q := 1) (v := x139) (lv' := [(8, .int (gf_i x139)), (7, .int (gf_i x137)), (0, .ref (gf_ad E 65)), (1, .int (gf_i i)), (2, .int (gf_i n)), (3, .int (gf_i r24)), (4, .int (gf_i x50)), (5, .int (gf_i w)), (6, .int (gf_i row))]) C dd_Mo_duel_139 rfl hx139 (by decide) rfl ?_
                            refine gf_goto 110 C dd_Mo_duel_142 (by decide) ?_
                            refine gf_lsub [1, 0, 2, 3, 4, 5, 6, 7, 8] rfl ?_
                            exact ih110_18 x137 x139 m131 (by
                                    refine ⟨by omega, by omega, ?_, fun j h0 h1 => ?_, by rw [hm131, gf_up_k (by decide)]; exact hk15, fun j h0 h1 => by rw [hm131, gf_up_j (by omega)]; exact hk73 j h0 h1, fun b => by rw [hm131, gf_up_k (by decide)]; exact hk80 b, fun a b h1 h2 h3 => by rw [hm131, gf_up_k h2]; exact hkf a b h1 h2 h3⟩
                                    · rw [hx137, hl, pf_div10, show (x50 - 1 - k).toNat + 1 = (x50 - 1 - x139).toNat by omega]
                                    · rw [hm131, hk15]
                                      by_cases e : j = k
                                      · rw [e, gf_up_s, hl]
                                      · rw [gf_up_j (by omega)]; exact hkd j (by omega) h1) (by omega)
                      refine gf_lsub [1, 0, 3, 4, 5, 6, 7, 8, 2] rfl ?_
                      exact L110_18 _ row x108 m (⟨by omega, by omega, by rw [show (x50 - 1 - x108).toNat = 0 by omega, Int.pow_zero, Int.ediv_one], fun j h0 h1 => by omega, hr15, hr73, fun b => rfl, hrf⟩) (Nat.lt_succ_self _)
              refine gf_lsub [0, 2, 3, 4, 5, 6, 1] rfl ?_
              exact L88_11 _ 0 m84 (⟨by omega, by omega, fun r h0 h1 => by omega, fun _ => w84, by rw [hm84, gf_up_k (by decide)]; exact hw15, fun j h0 h1 => by rw [hm84, gf_up_k (by decide)]; exact hw73 j h0 (by omega), fun a b h1 h2 h3 => by rw [hm84, gf_up_k h3]; exact hwf a b h1 h2⟩) (Nat.lt_succ_self _)
            · skip
              refine gf_iload C dd_Mo_duel_65 0 rfl ?_
              refine gf_bipush C dd_Mo_duel_67 (by decide +kernel) ?_
              refine gf_imul C dd_Mo_duel_69 ?_
              refine gf_nm (fun x70 hx70 => ?_)
              refine gf_istore (lv' := [(5, .int (gf_i x70)), (6, .int (gf_i k)), (0, .ref (gf_ad E 65)), (1, .int (gf_i i)), (2, .int (gf_i n)), (3, .int (gf_i r24)), (4, .int (gf_i x50))]) C dd_Mo_duel_70 (by decide) rfl ?_
              obtain ⟨x72, hx72⟩ : ∃ y : Int, y = k + 1 := ⟨_, rfl⟩
              refine gf_iinc (q := 1) (v := x72) (lv' := [(6, .int (gf_i x72)), (5, .int (gf_i x70)), (0, .ref (gf_ad E 65)), (1, .int (gf_i i)), (2, .int (gf_i n)), (3, .int (gf_i r24)), (4, .int (gf_i x50))]) C dd_Mo_duel_72 rfl hx72 (by decide) rfl ?_
              refine gf_goto 58 C dd_Mo_duel_75 (by decide) ?_
              refine gf_lsub [1, 0, 2, 3, 4, 5, 6] rfl ?_
              exact ih58_10 x70 x72 (by
                      refine ⟨by omega, by omega, ?_⟩
                      rw [show x72.toNat = k.toNat + 1 by omega, Int.pow_succ, ← hwk]
                      exact hx70) (by omega)
        refine gf_lsub [1, 0, 4, 5, 6, 3, 2] rfl ?_
        exact L58_10 _ 1 0 (⟨by omega, by omega, rfl⟩) (Nat.lt_succ_self _)
    · skip
      refine gf_iconst C dd_Mo_duel_20 ?_
      refine gf_iret C hQ dd_Mo_duel_21 (by omega) ?_
      exact ⟨fun _ => ⟨rfl, rfl⟩, fun h => absurd h (by omega)⟩
