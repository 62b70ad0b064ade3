/-! the reference: smeared figures filled in -/
def gm_hc (y : Int → Int) (j : Int) : Int := pf_cnt (fun q => decide (y q = -1)) j.toNat
theorem gm_hc_s {y : Int → Int} {j : Int} (h : 0 ≤ j) : gm_hc y (j + 1) = gm_hc y j + (if y j = -1 then 1 else 0) := by
  unfold gm_hc
  rw [show (j + 1).toNat = j.toNat + 1 by omega]
  show _ + (if decide (y ((j.toNat : Nat) : Int) = -1) = true then 1 else 0) = _
  rw [show ((j.toNat : Nat) : Int) = j by omega]
  by_cases e : y j = -1
  · rw [if_pos (by simpa using e), if_pos e]
  · rw [if_neg (by simpa using e), if_neg e]
theorem gm_hc_R (y : Int → Int) (j : Int) : 0 ≤ gm_hc y j := (pf_cnt_R _ _).1
theorem gm_hc_mono {y : Int → Int} {j : Int} (hj : 0 ≤ j) : ∀ d : Nat, gm_hc y j ≤ gm_hc y (j + d)
  | 0 => by rw [show j + ((0 : Nat) : Int) = j by omega]; exact Int.le_refl _
  | d + 1 => by
    have h := gm_hc_mono (y := y) hj d
    have h2 := gm_hc_s (y := y) (j := j + d) (by omega)
    rw [show j + ((d + 1 : Nat) : Int) = j + d + 1 by omega, h2]
    split <;> omega
theorem gm_hc_le {y : Int → Int} {j k : Int} (hj : 0 ≤ j) (h : j ≤ k) : gm_hc y j ≤ gm_hc y k := by
  have := gm_hc_mono (y := y) hj (k - j).toNat
  rw [show j + (((k - j).toNat : Nat) : Int) = k by omega] at this
  exact this
theorem gm_hc_lt {y : Int → Int} {j k : Int} (hj : 0 ≤ j) (h : j < k) (hy : y j = -1) : gm_hc y j < gm_hc y k := by
  have h1 := gm_hc_le (y := y) (show 0 ≤ j + 1 by omega) (show j + 1 ≤ k by omega)
  rw [gm_hc_s hj, if_pos hy] at h1
  omega
/-- the smeared places, as the reference notes them -/
def gm_sm (y : Int → Int) (m : gf_M) (k : Int) : Prop := (∀ t : Int, 0 ≤ t → t < gm_hc y k → (0 ≤ m 79 t ∧ m 79 t < k) ∧ y (m 79 t) = -1 ∧ gm_hc y (m 79 t) = t) ∧ ∀ j : Int, 0 ≤ j → j < k → y j = -1 → m 79 (gm_hc y j) = j
theorem gm_sm_f {y : Int → Int} {m m' : gf_M} {k : Int} (h : gm_sm y m k) (e : ∀ b : Int, m' 79 b = m 79 b) : gm_sm y m' k := by
  unfold gm_sm at h ⊢
  simp only [e]
  exact h
def gm_fil (y : Int → Int) (h v : Int) : Int → Int := fun j => if y j = -1 then v / 10 ^ (h - 1 - gm_hc y j).toNat % 10 else y j
def gm_fw (μ : gf_M) (i c : Int) (y : Int → Int) (n h : Int) (v : Int) : Bool := decide (gm_rk μ i (gm_fil y h v) n = c)
def gm_ff (μ : gf_M) (i c : Int) (y : Int → Int) (n h : Int) : Nat → Int
  | 0 => 0
  | v + 1 => if gm_fw μ i c y n h v = true ∧ pf_cnt (gm_fw μ i c y n h) v = 0 then pf_num (gm_fil y h v) n.toNat else gm_ff μ i c y n h v
theorem gm_fil_R {y : Int → Int} {h v n : Int} (hy : ∀ j : Int, 0 ≤ j → j < n → -1 ≤ y j ∧ y j ≤ 9) : ∀ j : Int, 0 ≤ j → j < n → 0 ≤ gm_fil y h v j ∧ gm_fil y h v j ≤ 9 := fun j h0 h1 => by
  have := hy j h0 h1
  unfold gm_fil
  split <;> omega
theorem pf_10_3 {n : Nat} (h : n < 4) : (1 : Int) ≤ 10 ^ n ∧ (10 : Int) ^ n ≤ 1000 := (show ∀ n : Nat, n < 4 → (1 : Int) ≤ 10 ^ n ∧ (10 : Int) ^ n ≤ 1000 by decide) n h
theorem dd_Mo_fills_0 : decode cc_Mo_fills 0 = .ok (.aload_n 0, 1) := by decide +kernel
theorem dd_Mo_fills_1 : decode cc_Mo_fills 1 = .ok (.iload_n 1, 1) := by decide +kernel
theorem dd_Mo_fills_2 : decode cc_Mo_fills 2 = .ok (.invokevirtual 183, 3) := by decide +kernel
theorem dd_Mo_fills_5 : decode cc_Mo_fills 5 = .ok (.ifCond .eq 22, 3) := by decide +kernel
theorem dd_Mo_fills_8 : decode cc_Mo_fills 8 = .ok (.iload_n 2, 1) := by decide +kernel
theorem dd_Mo_fills_9 : decode cc_Mo_fills 9 = .ok (.i2l, 1) := by decide +kernel
theorem dd_Mo_fills_10 : decode cc_Mo_fills 10 = .ok (.lconst 0, 1) := by decide +kernel
theorem dd_Mo_fills_11 : decode cc_Mo_fills 11 = .ok (.ldc2_w 230, 3) := by decide +kernel
theorem dd_Mo_fills_14 : decode cc_Mo_fills 14 = .ok (.invokestatic 69, 3) := by decide +kernel
theorem dd_Mo_fills_17 : decode cc_Mo_fills 17 = .ok (.ifCond .eq 10, 3) := by decide +kernel
theorem dd_Mo_fills_20 : decode cc_Mo_fills 20 = .ok (.iload_n 3, 1) := by decide +kernel
theorem dd_Mo_fills_21 : decode cc_Mo_fills 21 = .ok (.invokestatic 73, 3) := by decide +kernel
theorem dd_Mo_fills_24 : decode cc_Mo_fills 24 = .ok (.ifCond .ne 5, 3) := by decide +kernel
theorem dd_Mo_fills_27 : decode cc_Mo_fills 27 = .ok (.iconst (-1), 1) := by decide +kernel
theorem dd_Mo_fills_28 : decode cc_Mo_fills 28 = .ok (.ireturn, 1) := by decide +kernel
theorem dd_Mo_fills_29 : decode cc_Mo_fills 29 = .ok (.aload_n 0, 1) := by decide +kernel
theorem dd_Mo_fills_30 : decode cc_Mo_fills 30 = .ok (.getfield 7, 3) := by decide +kernel
theorem dd_Mo_fills_33 : decode cc_Mo_fills 33 = .ok (.iload_n 3, 1) := by decide +kernel
theorem dd_Mo_fills_34 : decode cc_Mo_fills 34 = .ok (.iaload, 1) := by decide +kernel
theorem dd_Mo_fills_35 : decode cc_Mo_fills 35 = .ok (.istore 4, 2) := by decide +kernel
theorem dd_Mo_fills_37 : decode cc_Mo_fills 37 = .ok (.iload 4, 2) := by decide +kernel
theorem dd_Mo_fills_39 : decode cc_Mo_fills 39 = .ok (.i2l, 1) := by decide +kernel
theorem dd_Mo_fills_40 : decode cc_Mo_fills 40 = .ok (.lconst 1, 1) := by decide +kernel
theorem dd_Mo_fills_41 : decode cc_Mo_fills 41 = .ok (.ldc2_w 240, 3) := by decide +kernel
theorem dd_Mo_fills_44 : decode cc_Mo_fills 44 = .ok (.invokestatic 69, 3) := by decide +kernel
theorem dd_Mo_fills_47 : decode cc_Mo_fills 47 = .ok (.ifCond .ne 18, 3) := by decide +kernel
theorem dd_Mo_fills_50 : decode cc_Mo_fills 50 = .ok (.aload_n 0, 1) := by decide +kernel
theorem dd_Mo_fills_51 : decode cc_Mo_fills 51 = .ok (.iload 4, 2) := by decide +kernel
theorem dd_Mo_fills_53 : decode cc_Mo_fills 53 = .ok (.ifCond .ge 7, 3) := by decide +kernel
theorem dd_Mo_fills_56 : decode cc_Mo_fills 56 = .ok (.iconst 1, 1) := by decide +kernel
theorem dd_Mo_fills_57 : decode cc_Mo_fills 57 = .ok (.goto 4, 3) := by decide +kernel
theorem dd_Mo_fills_60 : decode cc_Mo_fills 60 = .ok (.iconst 5, 1) := by decide +kernel
theorem dd_Mo_fills_61 : decode cc_Mo_fills 61 = .ok (.invokevirtual 77, 3) := by decide +kernel
theorem dd_Mo_fills_64 : decode cc_Mo_fills 64 = .ok (.ireturn, 1) := by decide +kernel
theorem dd_Mo_fills_65 : decode cc_Mo_fills 65 = .ok (.iconst 0, 1) := by decide +kernel
theorem dd_Mo_fills_66 : decode cc_Mo_fills 66 = .ok (.istore 5, 2) := by decide +kernel
theorem dd_Mo_fills_68 : decode cc_Mo_fills 68 = .ok (.iconst 0, 1) := by decide +kernel
theorem dd_Mo_fills_69 : decode cc_Mo_fills 69 = .ok (.istore 6, 2) := by decide +kernel
theorem dd_Mo_fills_71 : decode cc_Mo_fills 71 = .ok (.iload 6, 2) := by decide +kernel
theorem dd_Mo_fills_73 : decode cc_Mo_fills 73 = .ok (.iload 4, 2) := by decide +kernel
theorem dd_Mo_fills_75 : decode cc_Mo_fills 75 = .ok (.if_icmp .ge 94, 3) := by decide +kernel
theorem dd_Mo_fills_78 : decode cc_Mo_fills 78 = .ok (.aload_n 0, 1) := by decide +kernel
theorem dd_Mo_fills_79 : decode cc_Mo_fills 79 = .ok (.getfield 51, 3) := by decide +kernel
theorem dd_Mo_fills_82 : decode cc_Mo_fills 82 = .ok (.iload 6, 2) := by decide +kernel
theorem dd_Mo_fills_84 : decode cc_Mo_fills 84 = .ok (.aload_n 0, 1) := by decide +kernel
theorem dd_Mo_fills_85 : decode cc_Mo_fills 85 = .ok (.getfield 13, 3) := by decide +kernel
theorem dd_Mo_fills_88 : decode cc_Mo_fills 88 = .ok (.bipush 40, 2) := by decide +kernel
theorem dd_Mo_fills_90 : decode cc_Mo_fills 90 = .ok (.iload_n 3, 1) := by decide +kernel
theorem dd_Mo_fills_91 : decode cc_Mo_fills 91 = .ok (.imul, 1) := by decide +kernel
theorem dd_Mo_fills_92 : decode cc_Mo_fills 92 = .ok (.iload 6, 2) := by decide +kernel
theorem dd_Mo_fills_94 : decode cc_Mo_fills 94 = .ok (.iadd, 1) := by decide +kernel
theorem dd_Mo_fills_95 : decode cc_Mo_fills 95 = .ok (.iaload, 1) := by decide +kernel
theorem dd_Mo_fills_96 : decode cc_Mo_fills 96 = .ok (.iastore, 1) := by decide +kernel
theorem dd_Mo_fills_97 : decode cc_Mo_fills 97 = .ok (.aload_n 0, 1) := by decide +kernel
theorem dd_Mo_fills_98 : decode cc_Mo_fills 98 = .ok (.getfield 51, 3) := by decide +kernel
theorem dd_Mo_fills_101 : decode cc_Mo_fills 101 = .ok (.iload 6, 2) := by decide +kernel
theorem dd_Mo_fills_103 : decode cc_Mo_fills 103 = .ok (.iaload, 1) := by decide +kernel
theorem dd_Mo_fills_104 : decode cc_Mo_fills 104 = .ok (.i2l, 1) := by decide +kernel
theorem dd_Mo_fills_105 : decode cc_Mo_fills 105 = .ok (.ldc2_w 242, 3) := by decide +kernel
theorem dd_Mo_fills_108 : decode cc_Mo_fills 108 = .ok (.ldc2_w 129, 3) := by decide +kernel
theorem dd_Mo_fills_111 : decode cc_Mo_fills 111 = .ok (.invokestatic 69, 3) := by decide +kernel
theorem dd_Mo_fills_114 : decode cc_Mo_fills 114 = .ok (.ifCond .eq 20, 3) := by decide +kernel
theorem dd_Mo_fills_117 : decode cc_Mo_fills 117 = .ok (.aload_n 0, 1) := by decide +kernel
theorem dd_Mo_fills_118 : decode cc_Mo_fills 118 = .ok (.getfield 51, 3) := by decide +kernel
theorem dd_Mo_fills_121 : decode cc_Mo_fills 121 = .ok (.iload 6, 2) := by decide +kernel
theorem dd_Mo_fills_123 : decode cc_Mo_fills 123 = .ok (.iaload, 1) := by decide +kernel
theorem dd_Mo_fills_124 : decode cc_Mo_fills 124 = .ok (.iconst (-1), 1) := by decide +kernel
theorem dd_Mo_fills_125 : decode cc_Mo_fills 125 = .ok (.if_icmp .ne 15, 3) := by decide +kernel
theorem dd_Mo_fills_128 : decode cc_Mo_fills 128 = .ok (.iload 5, 2) := by decide +kernel
theorem dd_Mo_fills_130 : decode cc_Mo_fills 130 = .ok (.iconst 3, 1) := by decide +kernel
theorem dd_Mo_fills_131 : decode cc_Mo_fills 131 = .ok (.if_icmp .ne 9, 3) := by decide +kernel
theorem dd_Mo_fills_134 : decode cc_Mo_fills 134 = .ok (.aload_n 0, 1) := by decide +kernel
theorem dd_Mo_fills_135 : decode cc_Mo_fills 135 = .ok (.iconst 3, 1) := by decide +kernel
theorem dd_Mo_fills_136 : decode cc_Mo_fills 136 = .ok (.invokevirtual 77, 3) := by decide +kernel
theorem dd_Mo_fills_139 : decode cc_Mo_fills 139 = .ok (.ireturn, 1) := by decide +kernel
theorem dd_Mo_fills_140 : decode cc_Mo_fills 140 = .ok (.aload_n 0, 1) := by decide +kernel
theorem dd_Mo_fills_141 : decode cc_Mo_fills 141 = .ok (.getfield 51, 3) := by decide +kernel
theorem dd_Mo_fills_144 : decode cc_Mo_fills 144 = .ok (.iload 6, 2) := by decide +kernel
theorem dd_Mo_fills_146 : decode cc_Mo_fills 146 = .ok (.iaload, 1) := by decide +kernel
theorem dd_Mo_fills_147 : decode cc_Mo_fills 147 = .ok (.iconst (-1), 1) := by decide +kernel
theorem dd_Mo_fills_148 : decode cc_Mo_fills 148 = .ok (.if_icmp .ne 15, 3) := by decide +kernel
theorem dd_Mo_fills_151 : decode cc_Mo_fills 151 = .ok (.aload_n 0, 1) := by decide +kernel
theorem dd_Mo_fills_152 : decode cc_Mo_fills 152 = .ok (.getfield 54, 3) := by decide +kernel
theorem dd_Mo_fills_155 : decode cc_Mo_fills 155 = .ok (.iload 5, 2) := by decide +kernel
theorem dd_Mo_fills_157 : decode cc_Mo_fills 157 = .ok (.iload 6, 2) := by decide +kernel
theorem dd_Mo_fills_159 : decode cc_Mo_fills 159 = .ok (.iastore, 1) := by decide +kernel
theorem dd_Mo_fills_160 : decode cc_Mo_fills 160 = .ok (.iinc 5 1, 3) := by decide +kernel
theorem dd_Mo_fills_163 : decode cc_Mo_fills 163 = .ok (.iinc 6 1, 3) := by decide +kernel
theorem dd_Mo_fills_166 : decode cc_Mo_fills 166 = .ok (.goto (-95), 3) := by decide +kernel
theorem dd_Mo_fills_169 : decode cc_Mo_fills 169 = .ok (.iload 5, 2) := by decide +kernel
theorem dd_Mo_fills_171 : decode cc_Mo_fills 171 = .ok (.ifCond .ne 7, 3) := by decide +kernel
theorem dd_Mo_fills_174 : decode cc_Mo_fills 174 = .ok (.iconst 1, 1) := by decide +kernel
theorem dd_Mo_fills_175 : decode cc_Mo_fills 175 = .ok (.goto 28, 3) := by decide +kernel
theorem dd_Mo_fills_178 : decode cc_Mo_fills 178 = .ok (.iload 5, 2) := by decide +kernel
theorem dd_Mo_fills_180 : decode cc_Mo_fills 180 = .ok (.iconst 1, 1) := by decide +kernel
theorem dd_Mo_fills_181 : decode cc_Mo_fills 181 = .ok (.if_icmp .ne 8, 3) := by decide +kernel
theorem dd_Mo_fills_184 : decode cc_Mo_fills 184 = .ok (.bipush 10, 2) := by decide +kernel
theorem dd_Mo_fills_186 : decode cc_Mo_fills 186 = .ok (.goto 17, 3) := by decide +kernel
theorem dd_Mo_fills_189 : decode cc_Mo_fills 189 = .ok (.iload 5, 2) := by decide +kernel
theorem dd_Mo_fills_191 : decode cc_Mo_fills 191 = .ok (.iconst 2, 1) := by decide +kernel
theorem dd_Mo_fills_192 : decode cc_Mo_fills 192 = .ok (.if_icmp .ne 8, 3) := by decide +kernel
theorem dd_Mo_fills_195 : decode cc_Mo_fills 195 = .ok (.bipush 100, 2) := by decide +kernel
theorem dd_Mo_fills_197 : decode cc_Mo_fills 197 = .ok (.goto 6, 3) := by decide +kernel
theorem dd_Mo_fills_200 : decode cc_Mo_fills 200 = .ok (.sipush 1000, 3) := by decide +kernel
theorem dd_Mo_fills_203 : decode cc_Mo_fills 203 = .ok (.istore 6, 2) := by decide +kernel
theorem dd_Mo_fills_205 : decode cc_Mo_fills 205 = .ok (.iconst 0, 1) := by decide +kernel
theorem dd_Mo_fills_206 : decode cc_Mo_fills 206 = .ok (.istore 7, 2) := by decide +kernel
theorem dd_Mo_fills_208 : decode cc_Mo_fills 208 = .ok (.iconst 0, 1) := by decide +kernel
theorem dd_Mo_fills_209 : decode cc_Mo_fills 209 = .ok (.istore 8, 2) := by decide +kernel
theorem dd_Mo_fills_211 : decode cc_Mo_fills 211 = .ok (.iconst 0, 1) := by decide +kernel
theorem dd_Mo_fills_212 : decode cc_Mo_fills 212 = .ok (.istore 9, 2) := by decide +kernel
theorem dd_Mo_fills_214 : decode cc_Mo_fills 214 = .ok (.iload 9, 2) := by decide +kernel
theorem dd_Mo_fills_216 : decode cc_Mo_fills 216 = .ok (.iload 6, 2) := by decide +kernel
theorem dd_Mo_fills_218 : decode cc_Mo_fills 218 = .ok (.if_icmp .ge 93, 3) := by decide +kernel
theorem dd_Mo_fills_221 : decode cc_Mo_fills 221 = .ok (.iload 9, 2) := by decide +kernel
theorem dd_Mo_fills_223 : decode cc_Mo_fills 223 = .ok (.istore 10, 2) := by decide +kernel
theorem dd_Mo_fills_225 : decode cc_Mo_fills 225 = .ok (.iload 5, 2) := by decide +kernel
theorem dd_Mo_fills_227 : decode cc_Mo_fills 227 = .ok (.iconst 1, 1) := by decide +kernel
theorem dd_Mo_fills_228 : decode cc_Mo_fills 228 = .ok (.isub, 1) := by decide +kernel
theorem dd_Mo_fills_229 : decode cc_Mo_fills 229 = .ok (.istore 11, 2) := by decide +kernel
theorem dd_Mo_fills_231 : decode cc_Mo_fills 231 = .ok (.iload 11, 2) := by decide +kernel
theorem dd_Mo_fills_233 : decode cc_Mo_fills 233 = .ok (.ifCond .lt 33, 3) := by decide +kernel
theorem dd_Mo_fills_236 : decode cc_Mo_fills 236 = .ok (.aload_n 0, 1) := by decide +kernel
theorem dd_Mo_fills_237 : decode cc_Mo_fills 237 = .ok (.getfield 51, 3) := by decide +kernel
theorem dd_Mo_fills_240 : decode cc_Mo_fills 240 = .ok (.aload_n 0, 1) := by decide +kernel
theorem dd_Mo_fills_241 : decode cc_Mo_fills 241 = .ok (.getfield 54, 3) := by decide +kernel
theorem dd_Mo_fills_244 : decode cc_Mo_fills 244 = .ok (.iload 11, 2) := by decide +kernel
theorem dd_Mo_fills_246 : decode cc_Mo_fills 246 = .ok (.iaload, 1) := by decide +kernel
theorem dd_Mo_fills_247 : decode cc_Mo_fills 247 = .ok (.iload 10, 2) := by decide +kernel
theorem dd_Mo_fills_249 : decode cc_Mo_fills 249 = .ok (.bipush 10, 2) := by decide +kernel
theorem dd_Mo_fills_251 : decode cc_Mo_fills 251 = .ok (.irem, 1) := by decide +kernel
theorem dd_Mo_fills_252 : decode cc_Mo_fills 252 = .ok (.iastore, 1) := by decide +kernel
theorem dd_Mo_fills_253 : decode cc_Mo_fills 253 = .ok (.iload 10, 2) := by decide +kernel
theorem dd_Mo_fills_255 : decode cc_Mo_fills 255 = .ok (.bipush 10, 2) := by decide +kernel
theorem dd_Mo_fills_257 : decode cc_Mo_fills 257 = .ok (.idiv, 1) := by decide +kernel
theorem dd_Mo_fills_258 : decode cc_Mo_fills 258 = .ok (.istore 10, 2) := by decide +kernel
theorem dd_Mo_fills_260 : decode cc_Mo_fills 260 = .ok (.iinc 11 (-1), 3) := by decide +kernel
theorem dd_Mo_fills_263 : decode cc_Mo_fills 263 = .ok (.goto (-32), 3) := by decide +kernel
theorem dd_Mo_fills_266 : decode cc_Mo_fills 266 = .ok (.aload_n 0, 1) := by decide +kernel
theorem dd_Mo_fills_267 : decode cc_Mo_fills 267 = .ok (.iload_n 1, 1) := by decide +kernel
theorem dd_Mo_fills_268 : decode cc_Mo_fills 268 = .ok (.aload_n 0, 1) := by decide +kernel
theorem dd_Mo_fills_269 : decode cc_Mo_fills 269 = .ok (.getfield 51, 3) := by decide +kernel
theorem dd_Mo_fills_272 : decode cc_Mo_fills 272 = .ok (.iload 4, 2) := by decide +kernel
theorem dd_Mo_fills_274 : decode cc_Mo_fills 274 = .ok (.invokevirtual 152, 3) := by decide +kernel
theorem dd_Mo_fills_277 : decode cc_Mo_fills 277 = .ok (.iload_n 2, 1) := by decide +kernel
theorem dd_Mo_fills_278 : decode cc_Mo_fills 278 = .ok (.if_icmp .ne 27, 3) := by decide +kernel
theorem dd_Mo_fills_281 : decode cc_Mo_fills 281 = .ok (.iload 7, 2) := by decide +kernel
theorem dd_Mo_fills_283 : decode cc_Mo_fills 283 = .ok (.ifCond .ne 15, 3) := by decide +kernel
theorem dd_Mo_fills_286 : decode cc_Mo_fills 286 = .ok (.aload_n 0, 1) := by decide +kernel
theorem dd_Mo_fills_287 : decode cc_Mo_fills 287 = .ok (.getfield 51, 3) := by decide +kernel
theorem dd_Mo_fills_290 : decode cc_Mo_fills 290 = .ok (.iload 4, 2) := by decide +kernel
theorem dd_Mo_fills_292 : decode cc_Mo_fills 292 = .ok (.invokestatic 232, 3) := by decide +kernel
theorem dd_Mo_fills_295 : decode cc_Mo_fills 295 = .ok (.goto 5, 3) := by decide +kernel
theorem dd_Mo_fills_298 : decode cc_Mo_fills 298 = .ok (.iload 8, 2) := by decide +kernel
theorem dd_Mo_fills_300 : decode cc_Mo_fills 300 = .ok (.istore 8, 2) := by decide +kernel
theorem dd_Mo_fills_302 : decode cc_Mo_fills 302 = .ok (.iinc 7 1, 3) := by decide +kernel
theorem dd_Mo_fills_305 : decode cc_Mo_fills 305 = .ok (.iinc 9 1, 3) := by decide +kernel
theorem dd_Mo_fills_308 : decode cc_Mo_fills 308 = .ok (.goto (-94), 3) := by decide +kernel
theorem dd_Mo_fills_311 : decode cc_Mo_fills 311 = .ok (.aload_n 0, 1) := by decide +kernel
theorem dd_Mo_fills_312 : decode cc_Mo_fills 312 = .ok (.iload 7, 2) := by decide +kernel
theorem dd_Mo_fills_314 : decode cc_Mo_fills 314 = .ok (.ifCond .le 8, 3) := by decide +kernel
theorem dd_Mo_fills_317 : decode cc_Mo_fills 317 = .ok (.iload 8, 2) := by decide +kernel
theorem dd_Mo_fills_319 : decode cc_Mo_fills 319 = .ok (.goto 7, 3) := by decide +kernel
theorem dd_Mo_fills_322 : decode cc_Mo_fills 322 = .ok (.aload_n 0, 1) := by decide +kernel
theorem dd_Mo_fills_323 : decode cc_Mo_fills 323 = .ok (.getfield 64, 3) := by decide +kernel
theorem dd_Mo_fills_326 : decode cc_Mo_fills 326 = .ok (.putfield 64, 3) := by decide +kernel
theorem dd_Mo_fills_329 : decode cc_Mo_fills 329 = .ok (.iload 7, 2) := by decide +kernel
theorem dd_Mo_fills_331 : decode cc_Mo_fills 331 = .ok (.ifCond .le 8, 3) := by decide +kernel
theorem dd_Mo_fills_334 : decode cc_Mo_fills 334 = .ok (.iload 7, 2) := by decide +kernel
theorem dd_Mo_fills_336 : decode cc_Mo_fills 336 = .ok (.goto 5, 3) := by decide +kernel
theorem dd_Mo_fills_339 : decode cc_Mo_fills 339 = .ok (.bipush (-9), 2) := by decide +kernel
theorem dd_Mo_fills_341 : decode cc_Mo_fills 341 = .ok (.ireturn, 1) := by decide +kernel
set_option maxRecDepth 100000 in
set_option maxHeartbeats 4000000 in
theorem ct_Mo_fills (l : Launch) (E : gf_E) (i c r : Int) (μ : gf_M) (hi : gf_R i) (hcR : gf_R c) (hr : gf_R r) (hok : gm_ok μ) (hrs : ∀ r : Int, 0 ≤ r → r < 6 → -1 ≤ μ 66 r ∧ μ 66 r ≤ 40)  : gf_Mi l E yy_Mo_fills cc_Mo_fills 12 .int (gf_rm 4 100) 81 gf_ref μ [.ref (gf_ad E 65), .int (gf_i i), .int (gf_i c), .int (gf_i r)] (fun q μ' => (¬ (0 ≤ i ∧ i < μ 71 0 ∧ 0 ≤ c ∧ c ≤ 10 ∧ 0 ≤ r ∧ r < 6) → q = -1 ∧ μ' = μ) ∧ (0 ≤ i ∧ i < μ 71 0 ∧ 0 ≤ c ∧ c ≤ 10 ∧ 0 ≤ r ∧ r < 6 → (μ 66 r = -1 → q = -3 ∧ μ' = gm_fd μ 1) ∧ (μ 66 r ≠ -1 → (¬ (1 ≤ μ 66 r ∧ μ 66 r ≤ 8) → q = -3 ∧ μ' = gm_fd μ 5) ∧ (1 ≤ μ 66 r ∧ μ 66 r ≤ 8 → (¬ ((∀ j : Int, 0 ≤ j → j < μ 66 r → -1 ≤ (gm_row μ r) j ∧ (gm_row μ r) j ≤ 9) ∧ pf_cnt (fun j => decide ((gm_row μ r) j = -1)) (μ 66 r).toNat ≤ 3) → q = -3 ∧ gm_sc μ' (gm_fd μ 3)) ∧ (((∀ j : Int, 0 ≤ j → j < μ 66 r → -1 ≤ (gm_row μ r) j ∧ (gm_row μ r) j ≤ 9) ∧ pf_cnt (fun j => decide ((gm_row μ r) j = -1)) (μ 66 r).toNat ≤ 3) → (pf_cnt (gm_fw μ i c (gm_row μ r) (μ 66 r) (gm_hc (gm_row μ r) (μ 66 r))) (10 ^ (gm_hc (gm_row μ r) (μ 66 r)).toNat) = 0 → q = -9 ∧ gm_sc μ' μ) ∧ (pf_cnt (gm_fw μ i c (gm_row μ r) (μ 66 r) (gm_hc (gm_row μ r) (μ 66 r))) (10 ^ (gm_hc (gm_row μ r) (μ 66 r)).toNat) ≠ 0 → q = pf_cnt (gm_fw μ i c (gm_row μ r) (μ 66 r) (gm_hc (gm_row μ r) (μ 66 r))) (10 ^ (gm_hc (gm_row μ r) (μ 66 r)).toNat) ∧ gm_sc μ' (gm_tl μ (gm_ff μ i c (gm_row μ r) (μ 66 r) (gm_hc (gm_row μ r) (μ 66 r)) (10 ^ (gm_hc (gm_row μ r) (μ 66 r)).toNat))))))))) := by
  refine gf_mi (by decide +kernel) (Nat.le_of_ble_eq_true rfl) (by decide) (fun X Q hlx C hQ => ?_)
  subst hlx
  replace C : gf_C X E cc_Mo_fills 12 "GuardFiguresModel" (gf_rm 4 100) := C
  show gf_G X E Q 12 gf_φ μ 0 [(0, .ref (gf_ad E 65)), (1, .int (gf_i i)), (2, .int (gf_i c)), (3, .int (gf_i r))] []
  obtain ⟨hc, hgs, hn, hx, hd⟩ := id hok
  refine gf_aload_n C dd_Mo_fills_0 0 rfl ?_
  refine gf_iload_n C dd_Mo_fills_1 1 rfl ?_
  refine gf_callVi (st := []) (As := [.int (gf_i i)]) C wk_Mo_183 gf_cl7 (show gf_is 81 65 0 7 26 by decide) (ct_Mo_isGuard (gf_xl X) E i μ (by omega) (by omega)) rfl ⟨rfl, rfl, rfl, rfl⟩ (Nat.le_of_ble_eq_true rfl) rfl dd_Mo_fills_2 (fun r2 m2 hR2 hp2 => ?_)
  have hr2 := hp2.1
  refine gf_pm hp2.2 ?_
  refine gf_if_eq 27 C dd_Mo_fills_5 (by decide) (by omega) (fun h5 => ?_) (fun h5 => ?_)
  · skip
    refine gf_iconst C dd_Mo_fills_27 ?_
    refine gf_iret C hQ dd_Mo_fills_28 (by omega) ?_
    exact ⟨fun _ => ⟨rfl, rfl⟩, fun h => absurd h (by omega)⟩
  · skip
    refine gf_iload_n C dd_Mo_fills_8 2 rfl ?_
    refine gf_gi2l C dd_Mo_fills_9 (by omega) ?_
    refine gf_lconst 0 C dd_Mo_fills_10 (by decide +kernel) ?_
    refine gf_ldc2 10 C dd_Mo_fills_11 ck_Mo_230 (by decide +kernel) ?_
    refine gf_callSi (st := []) (As := [.long (gf_l c), .long (gf_l 0), .long (gf_l 10)]) C wk_Mo_69 (ct_Mo_in (gf_xl X) E c 0 10 μ (by omega) (by omega) (by omega)) rfl ⟨rfl, rfl, rfl, rfl⟩ (Nat.le_of_ble_eq_true rfl) rfl dd_Mo_fills_14 (fun r14 m14 hR14 hp14 => ?_)
    have hr14 := hp14.1
    refine gf_pm hp14.2 ?_
    refine gf_if_eq 27 C dd_Mo_fills_17 (by decide) (by omega) (fun h17 => ?_) (fun h17 => ?_)
    · skip
      refine gf_iconst C dd_Mo_fills_27 ?_
      refine gf_iret C hQ dd_Mo_fills_28 (by omega) ?_
      exact ⟨fun _ => ⟨rfl, rfl⟩, fun h => absurd h (by omega)⟩
    · skip
      refine gf_iload_n C dd_Mo_fills_20 3 rfl ?_
      refine gf_callSi (st := []) (As := [.int (gf_i r)]) C wk_Mo_73 (ct_Mo_isRow (gf_xl X) E r μ (by omega)) rfl ⟨rfl, rfl, rfl, rfl⟩ (Nat.le_of_ble_eq_true rfl) rfl dd_Mo_fills_21 (fun r21 m21 hR21 hp21 => ?_)
      have hr21 := hp21.1
      refine gf_pm hp21.2 ?_
      refine gf_if_ne 29 C dd_Mo_fills_24 (by decide) (by omega) (fun h24 => ?_) (fun h24 => ?_)
      · skip
        have hin : 0 ≤ i ∧ i < μ 71 0 := by omega
        have hin2 : 0 ≤ c ∧ c ≤ 10 := by omega
        have hin3 : 0 ≤ r ∧ r < 6 := by omega
        clear hr2 hr14 hr21 hp2 hp14 hp21
        have hg := gm_ok_g hok hin
        have hg0 := hg.1
        have hrr := hrs r hin3.1 hin3.2
        obtain ⟨y, hy⟩ : ∃ y : Int → Int, y = gm_row μ r := ⟨_, rfl⟩
        rw [← hy] at hQ
        refine gf_aload_n C dd_Mo_fills_29 0 rfl ?_
        refine gf_getA (r := 66) C gf_cl7 fl_Mo_7 dd_Mo_fills_30 rfl (show gf_is 81 65 0 7 26 by decide) (by decide) (by decide) ?_
        refine gf_iload_n C dd_Mo_fills_33 3 rfl ?_
        refine gf_iald C dd_Mo_fills_34 (show gf_is 81 66 1 0 6 by decide) (by omega) (fun hv34 => ?_)
        refine gf_nm (fun x35 hx35 => ?_)
        refine gf_istore (lv' := [(4, .int (gf_i x35)), (0, .ref (gf_ad E 65)), (1, .int (gf_i i)), (2, .int (gf_i c)), (3, .int (gf_i r))]) C dd_Mo_fills_35 (by decide) rfl ?_
        refine gf_iload C dd_Mo_fills_37 0 rfl ?_
        refine gf_gi2l C dd_Mo_fills_39 (by omega) ?_
        refine gf_lconst 1 C dd_Mo_fills_40 (by decide +kernel) ?_
        refine gf_ldc2 8 C dd_Mo_fills_41 ck_Mo_240 (by decide +kernel) ?_
        refine gf_callSi (st := []) (As := [.long (gf_l x35), .long (gf_l 1), .long (gf_l 8)]) C wk_Mo_69 (ct_Mo_in (gf_xl X) E x35 1 8 μ (by omega) (by omega) (by omega)) rfl ⟨rfl, rfl, rfl, rfl⟩ (Nat.le_of_ble_eq_true rfl) rfl dd_Mo_fills_44 (fun r44 m44 hR44 hp44 => ?_)
        have hr44 := hp44.1
        refine gf_pm hp44.2 ?_
        refine gf_if_ne 65 C dd_Mo_fills_47 (by decide) (by omega) (fun h47 => ?_) (fun h47 => ?_)
        · skip
          have hn8 : 1 ≤ μ 66 r ∧ μ 66 r ≤ 8 := by omega
          clear hr44 hp44
          refine gf_iconst C dd_Mo_fills_65 ?_
          refine gf_istore (lv' := [(5, .int (gf_i 0)), (4, .int (gf_i x35)), (0, .ref (gf_ad E 65)), (1, .int (gf_i i)), (2, .int (gf_i c)), (3, .int (gf_i r))]) C dd_Mo_fills_66 (by decide) rfl ?_
          refine gf_iconst C dd_Mo_fills_68 ?_
          refine gf_istore (lv' := [(6, .int (gf_i 0)), (5, .int (gf_i 0)), (4, .int (gf_i x35)), (0, .ref (gf_ad E 65)), (1, .int (gf_i i)), (2, .int (gf_i c)), (3, .int (gf_i r))]) C dd_Mo_fills_69 (by decide) rfl ?_
          have L71_1 : ∀ (N : Nat) (h k : Int) (m : gf_M) , (0 ≤ k ∧ k ≤ μ 66 r ∧ h = gm_hc y k ∧ (0 ≤ h ∧ h ≤ 3) ∧ (∀ j : Int, 0 ≤ j → j < k → m 78 j = y j ∧ -1 ≤ y j ∧ y j ≤ 9) ∧ gm_sm y m k ∧ ∀ a b : Int, a ≠ 78 → a ≠ 79 → m a b = μ a b) → (8 - k).toNat < N → gf_G X E Q 12 gf_φ m 71 [(5, .int (gf_i h)), (6, .int (gf_i k)), (0, .ref (gf_ad E 65)), (1, .int (gf_i i)), (2, .int (gf_i c)), (3, .int (gf_i r)), (4, .int (gf_i x35))] [] := by
            intro N
            induction N with
            | zero => intro h k m hinv hN; exact absurd hN (Nat.not_lt_zero _)
            | succ N ih71_1 =>
              intro h k m hinv hN
              have hinv0 := hinv
              obtain ⟨hk0, hk1, hh, hhR, hkv, hks, hkf⟩ := hinv
              refine gf_iload C dd_Mo_fills_71 1 rfl ?_
              refine gf_iload C dd_Mo_fills_73 6 rfl ?_
              refine gf_icmp_ge 169 C dd_Mo_fills_75 (by decide) (by omega) (by omega) (fun h75 => ?_) (fun h75 => ?_)
              · skip
                refine gf_iload C dd_Mo_fills_169 0 rfl ?_
                refine gf_if_ne 178 C dd_Mo_fills_171 (by decide) (by omega) (fun h171 => ?_) (fun h171 => ?_)
                · skip
                  refine gf_iload C dd_Mo_fills_178 0 rfl ?_
                  refine gf_iconst C dd_Mo_fills_180 ?_
                  refine gf_icmp_ne 189 C dd_Mo_fills_181 (by decide) (by omega) (by omega) (fun h181 => ?_) (fun h181 => ?_)
                  · skip
                    refine gf_iload C dd_Mo_fills_189 0 rfl ?_
                    refine gf_iconst C dd_Mo_fills_191 ?_
                    refine gf_icmp_ne 200 C dd_Mo_fills_192 (by decide) (by omega) (by omega) (fun h192 => ?_) (fun h192 => ?_)
                    · skip
                      refine gf_sipush C dd_Mo_fills_200 (by decide +kernel) ?_
                      refine gf_nm (fun x203 hx203 => ?_)
                      refine gf_istore (lv' := [(6, .int (gf_i x203)), (5, .int (gf_i h)), (0, .ref (gf_ad E 65)), (1, .int (gf_i i)), (2, .int (gf_i c)), (3, .int (gf_i r)), (4, .int (gf_i x35))]) C dd_Mo_fills_203 (by decide) rfl ?_
                      have ek : k = μ 66 r := by omega
                      have hc3 : gm_hc y (μ 66 r) ≤ 3 := by rw [← ek]; omega
                      have hsmr : ((∀ j : Int, 0 ≤ j → j < μ 66 r → -1 ≤ y j ∧ y j ≤ 9) ∧ pf_cnt (fun j => decide (y j = -1)) (μ 66 r).toNat ≤ 3) := ⟨fun j h0 h1 => (hkv j h0 (by omega)).2, hc3⟩
                      have hhn : h = gm_hc y (μ 66 r) := by rw [← ek]; exact hh
                      rw [ek] at hks hkv
                      have hall : x203 = 10 ^ h.toNat := by
                        rw [hx203]
                        first | (rw [show h = 0 by omega]; decide) | (rw [show h = 1 by omega]; decide) | (rw [show h = 2 by omega]; decide) | (rw [show h = 3 by omega]; decide)
                      have h103 := pf_10_3 (n := h.toNat) (by omega)
                      rw [← hhn] at hQ
                      clear hx203
                      refine gf_iconst C dd_Mo_fills_205 ?_
                      refine gf_istore (lv' := [(7, .int (gf_i 0)), (6, .int (gf_i x203)), (5, .int (gf_i h)), (0, .ref (gf_ad E 65)), (1, .int (gf_i i)), (2, .int (gf_i c)), (3, .int (gf_i r)), (4, .int (gf_i x35))]) C dd_Mo_fills_206 (by decide) rfl ?_
                      refine gf_iconst C dd_Mo_fills_208 ?_
                      refine gf_istore (lv' := [(8, .int (gf_i 0)), (7, .int (gf_i 0)), (6, .int (gf_i x203)), (5, .int (gf_i h)), (0, .ref (gf_ad E 65)), (1, .int (gf_i i)), (2, .int (gf_i c)), (3, .int (gf_i r)), (4, .int (gf_i x35))]) C dd_Mo_fills_209 (by decide) rfl ?_
                      refine gf_iconst C dd_Mo_fills_211 ?_
                      refine gf_istore (lv' := [(9, .int (gf_i 0)), (8, .int (gf_i 0)), (7, .int (gf_i 0)), (6, .int (gf_i x203)), (5, .int (gf_i h)), (0, .ref (gf_ad E 65)), (1, .int (gf_i i)), (2, .int (gf_i c)), (3, .int (gf_i r)), (4, .int (gf_i x35))]) C dd_Mo_fills_212 (by decide) rfl ?_
                      have L214_2 : ∀ (N : Nat) (w f v : Int) (m : gf_M) , (0 ≤ v ∧ v ≤ 10 ^ h.toNat ∧ w = pf_cnt (gm_fw μ i c y (μ 66 r) h) v.toNat ∧ f = gm_ff μ i c y (μ 66 r) h v.toNat ∧ (0 ≤ f ∧ f < 100000000) ∧ (∀ j : Int, 0 ≤ j → j < μ 66 r → y j ≠ -1 → m 78 j = y j) ∧ gm_sm y m (μ 66 r) ∧ ∀ a b : Int, a ≠ 78 → a ≠ 79 → m a b = μ a b) → (1000 - v).toNat < N → gf_G X E Q 12 gf_φ m 214 [(7, .int (gf_i w)), (8, .int (gf_i f)), (9, .int (gf_i v)), (0, .ref (gf_ad E 65)), (1, .int (gf_i i)), (2, .int (gf_i c)), (3, .int (gf_i r)), (4, .int (gf_i x35)), (5, .int (gf_i h)), (6, .int (gf_i x203))] [] := by
                        intro N
                        induction N with
                        | zero => intro w f v m hinv hN; exact absurd hN (Nat.not_lt_zero _)
                        | succ N ih214_2 =>
                          intro w f v m hinv hN
                          have hinv0 := hinv
                          obtain ⟨hv0, hv1, hwv, hfv, hfR1, hvv, hvs, hvf⟩ := hinv
                          have hwR := pf_cnt_R (gm_fw μ i c y (μ 66 r) h) v.toNat
                          rw [← hwv] at hwR
                          refine gf_iload C dd_Mo_fills_214 2 rfl ?_
                          refine gf_iload C dd_Mo_fills_216 9 rfl ?_
                          refine gf_icmp_ge 311 C dd_Mo_fills_218 (by decide) (by omega) (by omega) (fun h218 => ?_) (fun h218 => ?_)
                          · skip
                            have ev : v.toNat = 10 ^ h.toNat := by
                              have h1 : ((10 ^ h.toNat : Nat) : Int) = 10 ^ h.toNat := by simp
                              omega
                            rw [ev] at hwv hfv
                            have hwsc : gm_sc m μ := fun a b hab => by unfold gm_scr at hab; exact hvf a b (by omega) (by omega)
                            refine gf_aload_n C dd_Mo_fills_311 3 rfl ?_
                            refine gf_iload C dd_Mo_fills_312 0 rfl ?_
                            refine gf_if_le 322 C dd_Mo_fills_314 (by decide) (by omega) (fun h314 => ?_) (fun h314 => ?_)
                            · skip
                              refine gf_aload_n C dd_Mo_fills_322 3 rfl ?_
                              refine gf_getI (z := 4) C gf_cl7 fl_Mo_64 dd_Mo_fills_323 rfl rfl (show gf_is 81 65 0 7 26 by decide) (fun hv323 => ?_)
                              refine gf_putI (z := 4) C gf_cl7 fl_Mo_64 dd_Mo_fills_326 rfl rfl rfl (by decide +kernel) (show gf_is 81 65 0 7 26 by decide) (by omega) ?_
                              refine gf_nmM (fun m326 hm326 => ?_)
                              refine gf_iload C dd_Mo_fills_329 0 rfl ?_
                              refine gf_if_le 339 C dd_Mo_fills_331 (by decide) (by omega) (fun h331 => ?_) (fun h331 => ?_)
                              · skip
                                refine gf_bipush C dd_Mo_fills_339 (by decide +kernel) ?_
                                refine gf_iret C hQ dd_Mo_fills_341 (by omega) ?_
                                refine ⟨fun h => absurd h (by omega), fun _ => ⟨fun h => absurd h (by omega), fun _ => ⟨fun h => absurd h (by omega), fun _ => ⟨fun h => absurd hsmr h, fun _ => ⟨fun h => ?_, fun h => ?_⟩⟩⟩⟩⟩
                                · first | (exfalso; omega) | exact ⟨rfl, by rw [hm326, gf_up_id]; exact hwsc⟩
                                · first | (exfalso; omega) | (refine ⟨hwv, ?_⟩; rw [← hfv]; exact gm_sc_tl hwsc hm326)
                              · skip
                                refine gf_iload C dd_Mo_fills_334 0 rfl ?_
                                refine gf_goto 341 C dd_Mo_fills_336 (by decide) ?_
                                refine gf_iret C hQ dd_Mo_fills_341 (by omega) ?_
                                refine ⟨fun h => absurd h (by omega), fun _ => ⟨fun h => absurd h (by omega), fun _ => ⟨fun h => absurd h (by omega), fun _ => ⟨fun h => absurd hsmr h, fun _ => ⟨fun h => ?_, fun h => ?_⟩⟩⟩⟩⟩
                                · first | (exfalso; omega) | exact ⟨rfl, by rw [hm326, gf_up_id]; exact hwsc⟩
                                · first | (exfalso; omega) | (refine ⟨hwv, ?_⟩; rw [← hfv]; exact gm_sc_tl hwsc hm326)
                            · skip
                              refine gf_iload C dd_Mo_fills_317 1 rfl ?_
                              refine gf_goto 326 C dd_Mo_fills_319 (by decide) ?_
                              refine gf_putI (z := 4) C gf_cl7 fl_Mo_64 dd_Mo_fills_326 rfl rfl rfl (by decide +kernel) (show gf_is 81 65 0 7 26 by decide) (by omega) ?_
                              refine gf_nmM (fun m326 hm326 => ?_)
                              refine gf_iload C dd_Mo_fills_329 0 rfl ?_
                              refine gf_if_le 339 C dd_Mo_fills_331 (by decide) (by omega) (fun h331 => ?_) (fun h331 => ?_)
                              · skip
                                refine gf_bipush C dd_Mo_fills_339 (by decide +kernel) ?_
                                refine gf_iret C hQ dd_Mo_fills_341 (by omega) ?_
                                refine ⟨fun h => absurd h (by omega), fun _ => ⟨fun h => absurd h (by omega), fun _ => ⟨fun h => absurd h (by omega), fun _ => ⟨fun h => absurd hsmr h, fun _ => ⟨fun h => ?_, fun h => ?_⟩⟩⟩⟩⟩
                                · first | (exfalso; omega) | exact ⟨rfl, by rw [hm326, gf_up_id]; exact hwsc⟩
                                · first | (exfalso; omega) | (refine ⟨hwv, ?_⟩; rw [← hfv]; exact gm_sc_tl hwsc hm326)
                              · skip
                                refine gf_iload C dd_Mo_fills_334 0 rfl ?_
                                refine gf_goto 341 C dd_Mo_fills_336 (by decide) ?_
                                refine gf_iret C hQ dd_Mo_fills_341 (by omega) ?_
                                refine ⟨fun h => absurd h (by omega), fun _ => ⟨fun h => absurd h (by omega), fun _ => ⟨fun h => absurd h (by omega), fun _ => ⟨fun h => absurd hsmr h, fun _ => ⟨fun h => ?_, fun h => ?_⟩⟩⟩⟩⟩
                                · first | (exfalso; omega) | exact ⟨rfl, by rw [hm326, gf_up_id]; exact hwsc⟩
                                · first | (exfalso; omega) | (refine ⟨hwv, ?_⟩; rw [← hfv]; exact gm_sc_tl hwsc hm326)
                          · skip
                            refine gf_iload C dd_Mo_fills_221 2 rfl ?_
                            refine gf_istore (lv' := [(10, .int (gf_i v)), (7, .int (gf_i w)), (8, .int (gf_i f)), (9, .int (gf_i v)), (0, .ref (gf_ad E 65)), (1, .int (gf_i i)), (2, .int (gf_i c)), (3, .int (gf_i r)), (4, .int (gf_i x35)), (5, .int (gf_i h)), (6, .int (gf_i x203))]) C dd_Mo_fills_223 (by decide) rfl ?_
                            refine gf_iload C dd_Mo_fills_225 9 rfl ?_
                            refine gf_iconst C dd_Mo_fills_227 ?_
                            refine gf_isub C dd_Mo_fills_228 ?_
                            refine gf_nm (fun x229 hx229 => ?_)
                            refine gf_istore (lv' := [(11, .int (gf_i x229)), (10, .int (gf_i v)), (7, .int (gf_i w)), (8, .int (gf_i f)), (9, .int (gf_i v)), (0, .ref (gf_ad E 65)), (1, .int (gf_i i)), (2, .int (gf_i c)), (3, .int (gf_i r)), (4, .int (gf_i x35)), (5, .int (gf_i h)), (6, .int (gf_i x203))]) C dd_Mo_fills_229 (by decide) rfl ?_
                            have L231_3 : ∀ (N : Nat) (left t : Int) (m3 : gf_M) , (-1 ≤ t ∧ t ≤ h - 1 ∧ left = v / 10 ^ (h - 1 - t).toNat ∧ (∀ j : Int, 0 ≤ j → j < μ 66 r → y j ≠ -1 → m3 78 j = y j) ∧ (∀ j : Int, 0 ≤ j → j < μ 66 r → y j = -1 → t < gm_hc y j → m3 78 j = v / 10 ^ (h - 1 - gm_hc y j).toNat % 10) ∧ gm_sm y m3 (μ 66 r) ∧ ∀ a b : Int, a ≠ 78 → a ≠ 79 → m3 a b = μ a b) → (t + 1).toNat < N → gf_G X E Q 12 gf_φ m3 231 [(10, .int (gf_i left)), (11, .int (gf_i t)), (0, .ref (gf_ad E 65)), (1, .int (gf_i i)), (2, .int (gf_i c)), (3, .int (gf_i r)), (4, .int (gf_i x35)), (5, .int (gf_i h)), (6, .int (gf_i x203)), (7, .int (gf_i w)), (8, .int (gf_i f)), (9, .int (gf_i v))] [] := by
                              intro N
                              induction N with
                              | zero => intro left t m3 hinv hN; exact absurd hN (Nat.not_lt_zero _)
                              | succ N ih231_3 =>
                                intro left t m3 hinv hN
                                have hinv0 := hinv
                                obtain ⟨ht0, ht1, hl, htv, htd, hts2, htf⟩ := hinv
                                refine gf_iload C dd_Mo_fills_231 1 rfl ?_
                                refine gf_if_lt 266 C dd_Mo_fills_233 (by decide) (by omega) (fun h233 => ?_) (fun h233 => ?_)
                                · skip
                                  have f266 : ∀ j : Int, 0 ≤ j → j < μ 66 r → m3 78 j = gm_fil y h v j := fun j h0 h1 => by
                                    unfold gm_fil
                                    by_cases e : y j = -1
                                    · rw [if_pos e]; exact htd j h0 h1 e (by have := gm_hc_R y j; omega)
                                    · rw [if_neg e]; exact htv j h0 h1 e
                                  have q71 : ∀ b : Int, m3 71 b = μ 71 b := fun b => htf 71 b (by decide) (by decide)
                                  have hfR := gm_fil_R (h := h) (v := v) hsmr.1
                                  have hF3 : ∀ j : Int, 0 ≤ j → j < x35 → 0 ≤ m3 78 j ∧ m3 78 j ≤ 9 := fun j h0 h1 => by
                                    rw [f266 j h0 (by omega)]
                                    exact hfR j h0 (by omega)
                                  refine gf_aload_n C dd_Mo_fills_266 2 rfl ?_
                                  refine gf_iload_n C dd_Mo_fills_267 3 rfl ?_
                                  refine gf_aload_n C dd_Mo_fills_268 2 rfl ?_
                                  refine gf_getA (r := 78) C gf_cl7 fl_Mo_51 dd_Mo_fills_269 rfl (show gf_is 81 65 0 7 26 by decide) (by decide) (by decide) ?_
                                  refine gf_iload C dd_Mo_fills_272 6 rfl ?_
                                  refine gf_callVi (st := []) (As := [.int (gf_i i), .ref (gf_ad E 78), .int (gf_i x35)]) C wk_Mo_152 gf_cl7 (show gf_is 81 65 0 7 26 by decide) (ct_Mo_byGuard (gf_xl X) E i 78 x35 9 m3 (gm_okg_f hg q71) (show gf_is 81 78 1 0 9 by decide) (by omega) hF3) rfl ⟨rfl, rfl, rfl, rfl⟩ (Nat.le_of_ble_eq_true rfl) rfl dd_Mo_fills_274 (fun r274 m274 hR274 hp274 => ?_)
                                  have hr274 := hp274.1
                                  refine gf_pm hp274.2 ?_
                                  have hfw : gm_fw μ i c y (μ 66 r) h v = decide (r274 = c) := by
                                    unfold gm_fw
                                    rw [hr274.1, gm_rk_f q71, hx35, gm_rk_congr (fun j h0 h1 => f266 j h0 h1)]
                                  have hr274b := hr274.2
                                  clear hr274 hp274
                                  refine gf_iload_n C dd_Mo_fills_277 4 rfl ?_
                                  refine gf_icmp_ne 305 C dd_Mo_fills_278 (by decide) (by omega) (by omega) (fun h278 => ?_) (fun h278 => ?_)
                                  · skip
                                    obtain ⟨x305, hx305⟩ : ∃ y : Int, y = v + 1 := ⟨_, rfl⟩
                                    refine gf_iinc (q := 11) (v := x305) (lv' := [(9, .int (gf_i x305)), (10, .int (gf_i left)), (11, .int (gf_i t)), (0, .ref (gf_ad E 65)), (1, .int (gf_i i)), (2, .int (gf_i c)), (3, .int (gf_i r)), (4, .int (gf_i x35)), (5, .int (gf_i h)), (6, .int (gf_i x203)), (7, .int (gf_i w)), (8, .int (gf_i f))]) C dd_Mo_fills_305 rfl hx305 (by decide) rfl ?_
                                    refine gf_goto 214 C dd_Mo_fills_308 (by decide) ?_
                                    refine gf_lsub [10, 11, 0, 3, 4, 5, 6, 7, 8, 9] rfl ?_
                                    exact ih214_2 w f x305 m3 (by
                                            have e1 : x305.toNat = v.toNat + 1 := by omega
                                            have ewc : pf_cnt (gm_fw μ i c y (μ 66 r) h) (v.toNat + 1) = w + (if r274 = c then 1 else 0) := by
                                              show pf_cnt _ v.toNat + (if gm_fw μ i c y (μ 66 r) h ((v.toNat : Nat) : Int) = true then 1 else 0) = _
                                              rw [show ((v.toNat : Nat) : Int) = v by omega, ← hwv, hfw]
                                              by_cases e : r274 = c
                                              · rw [if_pos (by simpa using e), if_pos e]
                                              · rw [if_neg (by simpa using e), if_neg e]
                                            have eff : gm_ff μ i c y (μ 66 r) h (v.toNat + 1) = if r274 = c ∧ w = 0 then pf_num (gm_fil y h v) (μ 66 r).toNat else f := by
                                              show (if gm_fw μ i c y (μ 66 r) h ((v.toNat : Nat) : Int) = true ∧ pf_cnt (gm_fw μ i c y (μ 66 r) h) v.toNat = 0 then pf_num (gm_fil y h ((v.toNat : Nat) : Int)) (μ 66 r).toNat else gm_ff μ i c y (μ 66 r) h v.toNat) = _
                                              rw [show ((v.toNat : Nat) : Int) = v by omega, ← hwv, ← hfv, hfw]
                                              by_cases e : r274 = c ∧ w = 0
                                              · rw [if_pos (by simpa using e), if_pos e]
                                              · rw [if_neg (by simpa using e), if_neg e]
                                            refine ⟨by omega, by omega, ?_, ?_, by omega, htv, hts2, htf⟩
                                            · rw [e1, ewc]
                                              first | (rw [if_pos (by omega)]; omega) | (rw [if_neg (by omega)]; omega)
                                            · rw [e1, eff]
                                              first | (rw [if_pos (by omega)]; omega) | (rw [if_neg (by omega)])) (by omega)
                                  · skip
                                    refine gf_iload C dd_Mo_fills_281 9 rfl ?_
                                    refine gf_if_ne 298 C dd_Mo_fills_283 (by decide) (by omega) (fun h283 => ?_) (fun h283 => ?_)
                                    · skip
                                      refine gf_iload C dd_Mo_fills_298 10 rfl ?_
                                      refine gf_istore (lv' := [(8, .int (gf_i f)), (10, .int (gf_i left)), (11, .int (gf_i t)), (0, .ref (gf_ad E 65)), (1, .int (gf_i i)), (2, .int (gf_i c)), (3, .int (gf_i r)), (4, .int (gf_i x35)), (5, .int (gf_i h)), (6, .int (gf_i x203)), (7, .int (gf_i w)), (9, .int (gf_i v))]) C dd_Mo_fills_300 (by decide) rfl ?_
                                      obtain ⟨x302, hx302⟩ : ∃ y : Int, y = w + 1 := ⟨_, rfl⟩
                                      refine gf_iinc (q := 10) (v := x302) (lv' := [(7, .int (gf_i x302)), (8, .int (gf_i f)), (10, .int (gf_i left)), (11, .int (gf_i t)), (0, .ref (gf_ad E 65)), (1, .int (gf_i i)), (2, .int (gf_i c)), (3, .int (gf_i r)), (4, .int (gf_i x35)), (5, .int (gf_i h)), (6, .int (gf_i x203)), (9, .int (gf_i v))]) C dd_Mo_fills_302 rfl hx302 (by decide) rfl ?_
                                      obtain ⟨x305, hx305⟩ : ∃ y : Int, y = v + 1 := ⟨_, rfl⟩
                                      refine gf_iinc (q := 11) (v := x305) (lv' := [(9, .int (gf_i x305)), (7, .int (gf_i x302)), (8, .int (gf_i f)), (10, .int (gf_i left)), (11, .int (gf_i t)), (0, .ref (gf_ad E 65)), (1, .int (gf_i i)), (2, .int (gf_i c)), (3, .int (gf_i r)), (4, .int (gf_i x35)), (5, .int (gf_i h)), (6, .int (gf_i x203))]) C dd_Mo_fills_305 rfl hx305 (by decide) rfl ?_
                                      refine gf_goto 214 C dd_Mo_fills_308 (by decide) ?_
                                      refine gf_lsub [1, 2, 0, 5, 6, 7, 8, 9, 10, 11] rfl ?_
                                      exact ih214_2 x302 f x305 m3 (by
                                              have e1 : x305.toNat = v.toNat + 1 := by omega
                                              have ewc : pf_cnt (gm_fw μ i c y (μ 66 r) h) (v.toNat + 1) = w + (if r274 = c then 1 else 0) := by
                                                show pf_cnt _ v.toNat + (if gm_fw μ i c y (μ 66 r) h ((v.toNat : Nat) : Int) = true then 1 else 0) = _
                                                rw [show ((v.toNat : Nat) : Int) = v by omega, ← hwv, hfw]
                                                by_cases e : r274 = c
                                                · rw [if_pos (by simpa using e), if_pos e]
                                                · rw [if_neg (by simpa using e), if_neg e]
                                              have eff : gm_ff μ i c y (μ 66 r) h (v.toNat + 1) = if r274 = c ∧ w = 0 then pf_num (gm_fil y h v) (μ 66 r).toNat else f := by
                                                show (if gm_fw μ i c y (μ 66 r) h ((v.toNat : Nat) : Int) = true ∧ pf_cnt (gm_fw μ i c y (μ 66 r) h) v.toNat = 0 then pf_num (gm_fil y h ((v.toNat : Nat) : Int)) (μ 66 r).toNat else gm_ff μ i c y (μ 66 r) h v.toNat) = _
                                                rw [show ((v.toNat : Nat) : Int) = v by omega, ← hwv, ← hfv, hfw]
                                                by_cases e : r274 = c ∧ w = 0
                                                · rw [if_pos (by simpa using e), if_pos e]
                                                · rw [if_neg (by simpa using e), if_neg e]
                                              refine ⟨by omega, by omega, ?_, ?_, by omega, htv, hts2, htf⟩
                                              · rw [e1, ewc]
                                                first | (rw [if_pos (by omega)]; omega) | (rw [if_neg (by omega)]; omega)
                                              · rw [e1, eff]
                                                first | (rw [if_pos (by omega)]; omega) | (rw [if_neg (by omega)])) (by omega)
                                    · skip
                                      refine gf_aload_n C dd_Mo_fills_286 2 rfl ?_
                                      refine gf_getA (r := 78) C gf_cl7 fl_Mo_51 dd_Mo_fills_287 rfl (show gf_is 81 65 0 7 26 by decide) (by decide) (by decide) ?_
                                      refine gf_iload C dd_Mo_fills_290 6 rfl ?_
                                      refine gf_callSi (st := []) (As := [.ref (gf_ad E 78), .int (gf_i x35)]) C wk_Mo_232 (ct_Mo_asNumber (gf_xl X) E 78 x35 9 m3 (show gf_is 81 78 1 0 9 by decide) (by omega) hF3) rfl ⟨rfl, rfl, rfl, rfl⟩ (Nat.le_of_ble_eq_true rfl) rfl dd_Mo_fills_292 (fun r292 m292 hR292 hp292 => ?_)
                                      have hr292 := hp292.1
                                      refine gf_pm hp292.2 ?_
                                      have hnum : r292 = pf_num (gm_fil y h v) (μ 66 r).toNat := by
                                        rw [hr292.1, hx35]
                                        exact pf_num_congr _ (fun j h0 h1 => f266 j h0 (by omega))
                                      have hnR := hr292.2
                                      clear hr292 hp292
                                      refine gf_goto 300 C dd_Mo_fills_295 (by decide) ?_
                                      refine gf_istore (lv' := [(8, .int (gf_i r292)), (10, .int (gf_i left)), (11, .int (gf_i t)), (0, .ref (gf_ad E 65)), (1, .int (gf_i i)), (2, .int (gf_i c)), (3, .int (gf_i r)), (4, .int (gf_i x35)), (5, .int (gf_i h)), (6, .int (gf_i x203)), (7, .int (gf_i w)), (9, .int (gf_i v))]) C dd_Mo_fills_300 (by decide) rfl ?_
                                      obtain ⟨x302, hx302⟩ : ∃ y : Int, y = w + 1 := ⟨_, rfl⟩
                                      refine gf_iinc (q := 10) (v := x302) (lv' := [(7, .int (gf_i x302)), (8, .int (gf_i r292)), (10, .int (gf_i left)), (11, .int (gf_i t)), (0, .ref (gf_ad E 65)), (1, .int (gf_i i)), (2, .int (gf_i c)), (3, .int (gf_i r)), (4, .int (gf_i x35)), (5, .int (gf_i h)), (6, .int (gf_i x203)), (9, .int (gf_i v))]) C dd_Mo_fills_302 rfl hx302 (by decide) rfl ?_
                                      obtain ⟨x305, hx305⟩ : ∃ y : Int, y = v + 1 := ⟨_, rfl⟩
                                      refine gf_iinc (q := 11) (v := x305) (lv' := [(9, .int (gf_i x305)), (7, .int (gf_i x302)), (8, .int (gf_i r292)), (10, .int (gf_i left)), (11, .int (gf_i t)), (0, .ref (gf_ad E 65)), (1, .int (gf_i i)), (2, .int (gf_i c)), (3, .int (gf_i r)), (4, .int (gf_i x35)), (5, .int (gf_i h)), (6, .int (gf_i x203))]) C dd_Mo_fills_305 rfl hx305 (by decide) rfl ?_
                                      refine gf_goto 214 C dd_Mo_fills_308 (by decide) ?_
                                      refine gf_lsub [1, 2, 0, 5, 6, 7, 8, 9, 10, 11] rfl ?_
                                      exact ih214_2 x302 r292 x305 m3 (by
                                              have e1 : x305.toNat = v.toNat + 1 := by omega
                                              have ewc : pf_cnt (gm_fw μ i c y (μ 66 r) h) (v.toNat + 1) = w + (if r274 = c then 1 else 0) := by
                                                show pf_cnt _ v.toNat + (if gm_fw μ i c y (μ 66 r) h ((v.toNat : Nat) : Int) = true then 1 else 0) = _
                                                rw [show ((v.toNat : Nat) : Int) = v by omega, ← hwv, hfw]
                                                by_cases e : r274 = c
                                                · rw [if_pos (by simpa using e), if_pos e]
                                                · rw [if_neg (by simpa using e), if_neg e]
                                              have eff : gm_ff μ i c y (μ 66 r) h (v.toNat + 1) = if r274 = c ∧ w = 0 then pf_num (gm_fil y h v) (μ 66 r).toNat else f := by
                                                show (if gm_fw μ i c y (μ 66 r) h ((v.toNat : Nat) : Int) = true ∧ pf_cnt (gm_fw μ i c y (μ 66 r) h) v.toNat = 0 then pf_num (gm_fil y h ((v.toNat : Nat) : Int)) (μ 66 r).toNat else gm_ff μ i c y (μ 66 r) h v.toNat) = _
                                                rw [show ((v.toNat : Nat) : Int) = v by omega, ← hwv, ← hfv, hfw]
                                                by_cases e : r274 = c ∧ w = 0
                                                · rw [if_pos (by simpa using e), if_pos e]
                                                · rw [if_neg (by simpa using e), if_neg e]
                                              refine ⟨by omega, by omega, ?_, ?_, by omega, htv, hts2, htf⟩
                                              · rw [e1, ewc]
                                                first | (rw [if_pos (by omega)]; omega) | (rw [if_neg (by omega)]; omega)
                                              · rw [e1, eff]
                                                first | (rw [if_pos (by omega)]; omega) | (rw [if_neg (by omega)])) (by omega)
                                · skip
                                  have hlr := pf_div_R (a := v) (h - 1 - t).toNat hv0
                                  rw [← hl] at hlr
                                  have hst := hts2.1 t (by omega) (by rw [← hhn]; omega)
                                  refine gf_aload_n C dd_Mo_fills_236 2 rfl ?_
                                  refine gf_getA (r := 78) C gf_cl7 fl_Mo_51 dd_Mo_fills_237 rfl (show gf_is 81 65 0 7 26 by decide) (by decide) (by decide) ?_
                                  refine gf_aload_n C dd_Mo_fills_240 2 rfl ?_
                                  refine gf_getA (r := 79) C gf_cl7 fl_Mo_54 dd_Mo_fills_241 rfl (show gf_is 81 65 0 7 26 by decide) (by decide) (by decide) ?_
                                  refine gf_iload C dd_Mo_fills_244 1 rfl ?_
                                  refine gf_iald C dd_Mo_fills_246 (show gf_is 81 79 1 0 3 by decide) (by omega) (fun hv246 => ?_)
                                  refine gf_iload C dd_Mo_fills_247 0 rfl ?_
                                  refine gf_bipush C dd_Mo_fills_249 (by decide +kernel) ?_
                                  refine gf_irem C dd_Mo_fills_251 (by omega) ?_
                                  refine gf_iast C dd_Mo_fills_252 (show gf_is 81 78 1 0 9 by decide) (by omega) (by omega) ?_
                                  refine gf_nmM (fun m252 hm252 => ?_)
                                  refine gf_iload C dd_Mo_fills_253 0 rfl ?_
                                  refine gf_bipush C dd_Mo_fills_255 (by decide +kernel) ?_
                                  refine gf_idiv C dd_Mo_fills_257 (by omega) ?_
                                  refine gf_nm (fun x258 hx258 => ?_)
                                  refine gf_istore (lv' := [(10, .int (gf_i x258)), (11, .int (gf_i t)), (0, .ref (gf_ad E 65)), (1, .int (gf_i i)), (2, .int (gf_i c)), (3, .int (gf_i r)), (4, .int (gf_i x35)), (5, .int (gf_i h)), (6, .int (gf_i x203)), (7, .int (gf_i w)), (8, .int (gf_i f)), (9, .int (gf_i v))]) C dd_Mo_fills_258 (by decide) rfl ?_
                                  obtain ⟨x260, hx260⟩ : ∃ y : Int, y = t + (-1) := ⟨_, rfl⟩
                                  refine gf_iinc (q := 1) (v := x260) (lv' := [(11, .int (gf_i x260)), (10, .int (gf_i x258)), (0, .ref (gf_ad E 65)), (1, .int (gf_i i)), (2, .int (gf_i c)), (3, .int (gf_i r)), (4, .int (gf_i x35)), (5, .int (gf_i h)), (6, .int (gf_i x203)), (7, .int (gf_i w)), (8, .int (gf_i f)), (9, .int (gf_i v))]) C dd_Mo_fills_260 rfl hx260 (by decide) rfl ?_
                                  refine gf_goto 231 C dd_Mo_fills_263 (by decide) ?_
                                  refine gf_lsub [1, 0, 2, 3, 4, 5, 6, 7, 8, 9, 10, 11] rfl ?_
                                  exact ih231_3 x258 x260 m252 (by
                                          obtain ⟨g1, g2, g3⟩ := hst
                                          refine ⟨by omega, by omega, ?_, fun j h0 h1 h2 => ?_, fun j h0 h1 h2 h3 => ?_, gm_sm_f hts2 (fun b => by rw [hm252, gf_up_k (by decide)]), fun a b h1 h2 => by rw [hm252, gf_up_k h1]; exact htf a b h1 h2⟩
                                          · rw [hx258, hl, pf_div10, show (h - 1 - t).toNat + 1 = (h - 1 - x260).toNat by omega]
                                          · have hne : j ≠ m3 79 t := fun e => h2 (by rw [e]; exact g2)
                                            rw [hm252, gf_up_j hne]; exact htv j h0 h1 h2
                                          · rw [hm252]
                                            by_cases e : gm_hc y j = t
                                            · have h4 := hts2.2 j h0 h1 h2
                                              rw [e] at h4
                                              rw [h4, gf_up_s, e, hl]
                                            · have hne : j ≠ m3 79 t := fun e2 => e (by rw [e2]; exact g3)
                                              rw [gf_up_j hne]; exact htd j h0 h1 h2 (by omega)) (by omega)
                            refine gf_lsub [1, 0, 5, 6, 7, 8, 9, 10, 11, 2, 3, 4] rfl ?_
                            exact L231_3 _ v x229 m (⟨by omega, by omega, by rw [show (h - 1 - x229).toNat = 0 by omega, Int.pow_zero, Int.ediv_one], hvv, fun j h0 h1 h2 h3 => by have := gm_hc_lt (y := y) (k := μ 66 r) h0 h1 h2; omega, hvs, hvf⟩) (Nat.lt_succ_self _)
                      refine gf_lsub [2, 1, 0, 5, 6, 7, 8, 9, 4, 3] rfl ?_
                      exact L214_2 _ 0 0 0 m (⟨by omega, by omega, rfl, rfl, by omega, fun j h0 h1 _ => (hkv j h0 h1).1, hks, hkf⟩) (Nat.lt_succ_self _)
                    · skip
                      refine gf_bipush C dd_Mo_fills_195 (by decide +kernel) ?_
                      refine gf_goto 203 C dd_Mo_fills_197 (by decide) ?_
                      refine gf_nm (fun x203 hx203 => ?_)
                      refine gf_istore (lv' := [(6, .int (gf_i x203)), (5, .int (gf_i h)), (0, .ref (gf_ad E 65)), (1, .int (gf_i i)), (2, .int (gf_i c)), (3, .int (gf_i r)), (4, .int (gf_i x35))]) C dd_Mo_fills_203 (by decide) rfl ?_
                      have ek : k = μ 66 r := by omega
                      have hc3 : gm_hc y (μ 66 r) ≤ 3 := by rw [← ek]; omega
                      have hsmr : ((∀ j : Int, 0 ≤ j → j < μ 66 r → -1 ≤ y j ∧ y j ≤ 9) ∧ pf_cnt (fun j => decide (y j = -1)) (μ 66 r).toNat ≤ 3) := ⟨fun j h0 h1 => (hkv j h0 (by omega)).2, hc3⟩
                      have hhn : h = gm_hc y (μ 66 r) := by rw [← ek]; exact hh
                      rw [ek] at hks hkv
                      have hall : x203 = 10 ^ h.toNat := by
                        rw [hx203]
                        first | (rw [show h = 0 by omega]; decide) | (rw [show h = 1 by omega]; decide) | (rw [show h = 2 by omega]; decide) | (rw [show h = 3 by omega]; decide)
                      have h103 := pf_10_3 (n := h.toNat) (by omega)
                      rw [← hhn] at hQ
                      clear hx203
                      refine gf_iconst C dd_Mo_fills_205 ?_
                      refine gf_istore (lv' := [(7, .int (gf_i 0)), (6, .int (gf_i x203)), (5, .int (gf_i h)), (0, .ref (gf_ad E 65)), (1, .int (gf_i i)), (2, .int (gf_i c)), (3, .int (gf_i r)), (4, .int (gf_i x35))]) C dd_Mo_fills_206 (by decide) rfl ?_
                      refine gf_iconst C dd_Mo_fills_208 ?_
                      refine gf_istore (lv' := [(8, .int (gf_i 0)), (7, .int (gf_i 0)), (6, .int (gf_i x203)), (5, .int (gf_i h)), (0, .ref (gf_ad E 65)), (1, .int (gf_i i)), (2, .int (gf_i c)), (3, .int (gf_i r)), (4, .int (gf_i x35))]) C dd_Mo_fills_209 (by decide) rfl ?_
                      refine gf_iconst C dd_Mo_fills_211 ?_
                      refine gf_istore (lv' := [(9, .int (gf_i 0)), (8, .int (gf_i 0)), (7, .int (gf_i 0)), (6, .int (gf_i x203)), (5, .int (gf_i h)), (0, .ref (gf_ad E 65)), (1, .int (gf_i i)), (2, .int (gf_i c)), (3, .int (gf_i r)), (4, .int (gf_i x35))]) C dd_Mo_fills_212 (by decide) rfl ?_
                      have L214_4 : ∀ (N : Nat) (w f v : Int) (m : gf_M) , (0 ≤ v ∧ v ≤ 10 ^ h.toNat ∧ w = pf_cnt (gm_fw μ i c y (μ 66 r) h) v.toNat ∧ f = gm_ff μ i c y (μ 66 r) h v.toNat ∧ (0 ≤ f ∧ f < 100000000) ∧ (∀ j : Int, 0 ≤ j → j < μ 66 r → y j ≠ -1 → m 78 j = y j) ∧ gm_sm y m (μ 66 r) ∧ ∀ a b : Int, a ≠ 78 → a ≠ 79 → m a b = μ a b) → (1000 - v).toNat < N → gf_G X E Q 12 gf_φ m 214 [(7, .int (gf_i w)), (8, .int (gf_i f)), (9, .int (gf_i v)), (0, .ref (gf_ad E 65)), (1, .int (gf_i i)), (2, .int (gf_i c)), (3, .int (gf_i r)), (4, .int (gf_i x35)), (5, .int (gf_i h)), (6, .int (gf_i x203))] [] := by
                        intro N
                        induction N with
                        | zero => intro w f v m hinv hN; exact absurd hN (Nat.not_lt_zero _)
                        | succ N ih214_4 =>
                          intro w f v m hinv hN
                          have hinv0 := hinv
                          obtain ⟨hv0, hv1, hwv, hfv, hfR1, hvv, hvs, hvf⟩ := hinv
                          have hwR := pf_cnt_R (gm_fw μ i c y (μ 66 r) h) v.toNat
                          rw [← hwv] at hwR
                          refine gf_iload C dd_Mo_fills_214 2 rfl ?_
                          refine gf_iload C dd_Mo_fills_216 9 rfl ?_
                          refine gf_icmp_ge 311 C dd_Mo_fills_218 (by decide) (by omega) (by omega) (fun h218 => ?_) (fun h218 => ?_)
                          · skip
                            have ev : v.toNat = 10 ^ h.toNat := by
                              have h1 : ((10 ^ h.toNat : Nat) : Int) = 10 ^ h.toNat := by simp
                              omega
                            rw [ev] at hwv hfv
                            have hwsc : gm_sc m μ := fun a b hab => by unfold gm_scr at hab; exact hvf a b (by omega) (by omega)
                            refine gf_aload_n C dd_Mo_fills_311 3 rfl ?_
                            refine gf_iload C dd_Mo_fills_312 0 rfl ?_
                            refine gf_if_le 322 C dd_Mo_fills_314 (by decide) (by omega) (fun h314 => ?_) (fun h314 => ?_)
                            · skip
                              refine gf_aload_n C dd_Mo_fills_322 3 rfl ?_
                              refine gf_getI (z := 4) C gf_cl7 fl_Mo_64 dd_Mo_fills_323 rfl rfl (show gf_is 81 65 0 7 26 by decide) (fun hv323 => ?_)
                              refine gf_putI (z := 4) C gf_cl7 fl_Mo_64 dd_Mo_fills_326 rfl rfl rfl (by decide +kernel) (show gf_is 81 65 0 7 26 by decide) (by omega) ?_
                              refine gf_nmM (fun m326 hm326 => ?_)
                              refine gf_iload C dd_Mo_fills_329 0 rfl ?_
                              refine gf_if_le 339 C dd_Mo_fills_331 (by decide) (by omega) (fun h331 => ?_) (fun h331 => ?_)
                              · skip
                                refine gf_bipush C dd_Mo_fills_339 (by decide +kernel) ?_
                                refine gf_iret C hQ dd_Mo_fills_341 (by omega) ?_
                                refine ⟨fun h => absurd h (by omega), fun _ => ⟨fun h => absurd h (by omega), fun _ => ⟨fun h => absurd h (by omega), fun _ => ⟨fun h => absurd hsmr h, fun _ => ⟨fun h => ?_, fun h => ?_⟩⟩⟩⟩⟩
                                · first | (exfalso; omega) | exact ⟨rfl, by rw [hm326, gf_up_id]; exact hwsc⟩
                                · first | (exfalso; omega) | (refine ⟨hwv, ?_⟩; rw [← hfv]; exact gm_sc_tl hwsc hm326)
                              · skip
                                refine gf_iload C dd_Mo_fills_334 0 rfl ?_
                                refine gf_goto 341 C dd_Mo_fills_336 (by decide) ?_
                                refine gf_iret C hQ dd_Mo_fills_341 (by omega) ?_
                                refine ⟨fun h => absurd h (by omega), fun _ => ⟨fun h => absurd h (by omega), fun _ => ⟨fun h => absurd h (by omega), fun _ => ⟨fun h => absurd hsmr h, fun _ => ⟨fun h => ?_, fun h => ?_⟩⟩⟩⟩⟩
                                · first | (exfalso; omega) | exact ⟨rfl, by rw [hm326, gf_up_id]; exact hwsc⟩
                                · first | (exfalso; omega) | (refine ⟨hwv, ?_⟩; rw [← hfv]; exact gm_sc_tl hwsc hm326)
                            · skip
                              refine gf_iload C dd_Mo_fills_317 1 rfl ?_
                              refine gf_goto 326 C dd_Mo_fills_319 (by decide) ?_
                              refine gf_putI (z := 4) C gf_cl7 fl_Mo_64 dd_Mo_fills_326 rfl rfl rfl (by decide +kernel) (show gf_is 81 65 0 7 26 by decide) (by omega) ?_
                              refine gf_nmM (fun m326 hm326 => ?_)
                              refine gf_iload C dd_Mo_fills_329 0 rfl ?_
                              refine gf_if_le 339 C dd_Mo_fills_331 (by decide) (by omega) (fun h331 => ?_) (fun h331 => ?_)
                              · skip
                                refine gf_bipush C dd_Mo_fills_339 (by decide +kernel) ?_
                                refine gf_iret C hQ dd_Mo_fills_341 (by omega) ?_
                                refine ⟨fun h => absurd h (by omega), fun _ => ⟨fun h => absurd h (by omega), fun _ => ⟨fun h => absurd h (by omega), fun _ => ⟨fun h => absurd hsmr h, fun _ => ⟨fun h => ?_, fun h => ?_⟩⟩⟩⟩⟩
                                · first | (exfalso; omega) | exact ⟨rfl, by rw [hm326, gf_up_id]; exact hwsc⟩
                                · first | (exfalso; omega) | (refine ⟨hwv, ?_⟩; rw [← hfv]; exact gm_sc_tl hwsc hm326)
                              · skip
                                refine gf_iload C dd_Mo_fills_334 0 rfl ?_
                                refine gf_goto 341 C dd_Mo_fills_336 (by decide) ?_
                                refine gf_iret C hQ dd_Mo_fills_341 (by omega) ?_
                                refine ⟨fun h => absurd h (by omega), fun _ => ⟨fun h => absurd h (by omega), fun _ => ⟨fun h => absurd h (by omega), fun _ => ⟨fun h => absurd hsmr h, fun _ => ⟨fun h => ?_, fun h => ?_⟩⟩⟩⟩⟩
                                · first | (exfalso; omega) | exact ⟨rfl, by rw [hm326, gf_up_id]; exact hwsc⟩
                                · first | (exfalso; omega) | (refine ⟨hwv, ?_⟩; rw [← hfv]; exact gm_sc_tl hwsc hm326)
                          · skip
                            refine gf_iload C dd_Mo_fills_221 2 rfl ?_
                            refine gf_istore (lv' := [(10, .int (gf_i v)), (7, .int (gf_i w)), (8, .int (gf_i f)), (9, .int (gf_i v)), (0, .ref (gf_ad E 65)), (1, .int (gf_i i)), (2, .int (gf_i c)), (3, .int (gf_i r)), (4, .int (gf_i x35)), (5, .int (gf_i h)), (6, .int (gf_i x203))]) C dd_Mo_fills_223 (by decide) rfl ?_
                            refine gf_iload C dd_Mo_fills_225 9 rfl ?_
                            refine gf_iconst C dd_Mo_fills_227 ?_
                            refine gf_isub C dd_Mo_fills_228 ?_
                            refine gf_nm (fun x229 hx229 => ?_)
                            refine gf_istore (lv' := [(11, .int (gf_i x229)), (10, .int (gf_i v)), (7, .int (gf_i w)), (8, .int (gf_i f)), (9, .int (gf_i v)), (0, .ref (gf_ad E 65)), (1, .int (gf_i i)), (2, .int (gf_i c)), (3, .int (gf_i r)), (4, .int (gf_i x35)), (5, .int (gf_i h)), (6, .int (gf_i x203))]) C dd_Mo_fills_229 (by decide) rfl ?_
                            have L231_5 : ∀ (N : Nat) (left t : Int) (m3 : gf_M) , (-1 ≤ t ∧ t ≤ h - 1 ∧ left = v / 10 ^ (h - 1 - t).toNat ∧ (∀ j : Int, 0 ≤ j → j < μ 66 r → y j ≠ -1 → m3 78 j = y j) ∧ (∀ j : Int, 0 ≤ j → j < μ 66 r → y j = -1 → t < gm_hc y j → m3 78 j = v / 10 ^ (h - 1 - gm_hc y j).toNat % 10) ∧ gm_sm y m3 (μ 66 r) ∧ ∀ a b : Int, a ≠ 78 → a ≠ 79 → m3 a b = μ a b) → (t + 1).toNat < N → gf_G X E Q 12 gf_φ m3 231 [(10, .int (gf_i left)), (11, .int (gf_i t)), (0, .ref (gf_ad E 65)), (1, .int (gf_i i)), (2, .int (gf_i c)), (3, .int (gf_i r)), (4, .int (gf_i x35)), (5, .int (gf_i h)), (6, .int (gf_i x203)), (7, .int (gf_i w)), (8, .int (gf_i f)), (9, .int (gf_i v))] [] := by
                              intro N
                              induction N with
                              | zero => intro left t m3 hinv hN; exact absurd hN (Nat.not_lt_zero _)
                              | succ N ih231_5 =>
                                intro left t m3 hinv hN
                                have hinv0 := hinv
                                obtain ⟨ht0, ht1, hl, htv, htd, hts2, htf⟩ := hinv
                                refine gf_iload C dd_Mo_fills_231 1 rfl ?_
                                refine gf_if_lt 266 C dd_Mo_fills_233 (by decide) (by omega) (fun h233 => ?_) (fun h233 => ?_)
                                · skip
                                  have f266 : ∀ j : Int, 0 ≤ j → j < μ 66 r → m3 78 j = gm_fil y h v j := fun j h0 h1 => by
                                    unfold gm_fil
                                    by_cases e : y j = -1
                                    · rw [if_pos e]; exact htd j h0 h1 e (by have := gm_hc_R y j; omega)
                                    · rw [if_neg e]; exact htv j h0 h1 e
                                  have q71 : ∀ b : Int, m3 71 b = μ 71 b := fun b => htf 71 b (by decide) (by decide)
                                  have hfR := gm_fil_R (h := h) (v := v) hsmr.1
                                  have hF3 : ∀ j : Int, 0 ≤ j → j < x35 → 0 ≤ m3 78 j ∧ m3 78 j ≤ 9 := fun j h0 h1 => by
                                    rw [f266 j h0 (by omega)]
                                    exact hfR j h0 (by omega)
                                  refine gf_aload_n C dd_Mo_fills_266 2 rfl ?_
                                  refine gf_iload_n C dd_Mo_fills_267 3 rfl ?_
                                  refine gf_aload_n C dd_Mo_fills_268 2 rfl ?_
                                  refine gf_getA (r := 78) C gf_cl7 fl_Mo_51 dd_Mo_fills_269 rfl (show gf_is 81 65 0 7 26 by decide) (by decide) (by decide) ?_
                                  refine gf_iload C dd_Mo_fills_272 6 rfl ?_
                                  refine gf_callVi (st := []) (As := [.int (gf_i i), .ref (gf_ad E 78), .int (gf_i x35)]) C wk_Mo_152 gf_cl7 (show gf_is 81 65 0 7 26 by decide) (ct_Mo_byGuard (gf_xl X) E i 78 x35 9 m3 (gm_okg_f hg q71) (show gf_is 81 78 1 0 9 by decide) (by omega) hF3) rfl ⟨rfl, rfl, rfl, rfl⟩ (Nat.le_of_ble_eq_true rfl) rfl dd_Mo_fills_274 (fun r274 m274 hR274 hp274 => ?_)
                                  have hr274 := hp274.1
                                  refine gf_pm hp274.2 ?_
                                  have hfw : gm_fw μ i c y (μ 66 r) h v = decide (r274 = c) := by
                                    unfold gm_fw
                                    rw [hr274.1, gm_rk_f q71, hx35, gm_rk_congr (fun j h0 h1 => f266 j h0 h1)]
                                  have hr274b := hr274.2
                                  clear hr274 hp274
                                  refine gf_iload_n C dd_Mo_fills_277 4 rfl ?_
                                  refine gf_icmp_ne 305 C dd_Mo_fills_278 (by decide) (by omega) (by omega) (fun h278 => ?_) (fun h278 => ?_)
                                  · skip
                                    obtain ⟨x305, hx305⟩ : ∃ y : Int, y = v + 1 := ⟨_, rfl⟩
                                    refine gf_iinc (q := 11) (v := x305) (lv' := [(9, .int (gf_i x305)), (10, .int (gf_i left)), (11, .int (gf_i t)), (0, .ref (gf_ad E 65)), (1, .int (gf_i i)), (2, .int (gf_i c)), (3, .int (gf_i r)), (4, .int (gf_i x35)), (5, .int (gf_i h)), (6, .int (gf_i x203)), (7, .int (gf_i w)), (8, .int (gf_i f))]) C dd_Mo_fills_305 rfl hx305 (by decide) rfl ?_
                                    refine gf_goto 214 C dd_Mo_fills_308 (by decide) ?_
                                    refine gf_lsub [10, 11, 0, 3, 4, 5, 6, 7, 8, 9] rfl ?_
                                    exact ih214_4 w f x305 m3 (by
                                            have e1 : x305.toNat = v.toNat + 1 := by omega
                                            have ewc : pf_cnt (gm_fw μ i c y (μ 66 r) h) (v.toNat + 1) = w + (if r274 = c then 1 else 0) := by
                                              show pf_cnt _ v.toNat + (if gm_fw μ i c y (μ 66 r) h ((v.toNat : Nat) : Int) = true then 1 else 0) = _
                                              rw [show ((v.toNat : Nat) : Int) = v by omega, ← hwv, hfw]
                                              by_cases e : r274 = c
                                              · rw [if_pos (by simpa using e), if_pos e]
                                              · rw [if_neg (by simpa using e), if_neg e]
                                            have eff : gm_ff μ i c y (μ 66 r) h (v.toNat + 1) = if r274 = c ∧ w = 0 then pf_num (gm_fil y h v) (μ 66 r).toNat else f := by
                                              show (if gm_fw μ i c y (μ 66 r) h ((v.toNat : Nat) : Int) = true ∧ pf_cnt (gm_fw μ i c y (μ 66 r) h) v.toNat = 0 then pf_num (gm_fil y h ((v.toNat : Nat) : Int)) (μ 66 r).toNat else gm_ff μ i c y (μ 66 r) h v.toNat) = _
                                              rw [show ((v.toNat : Nat) : Int) = v by omega, ← hwv, ← hfv, hfw]
                                              by_cases e : r274 = c ∧ w = 0
                                              · rw [if_pos (by simpa using e), if_pos e]
                                              · rw [if_neg (by simpa using e), if_neg e]
                                            refine ⟨by omega, by omega, ?_, ?_, by omega, htv, hts2, htf⟩
                                            · rw [e1, ewc]
                                              first | (rw [if_pos (by omega)]; omega) | (rw [if_neg (by omega)]; omega)
                                            · rw [e1, eff]
                                              first | (rw [if_pos (by omega)]; omega) | (rw [if_neg (by omega)])) (by omega)
                                  · skip
                                    refine gf_iload C dd_Mo_fills_281 9 rfl ?_
                                    refine gf_if_ne 298 C dd_Mo_fills_283 (by decide) (by omega) (fun h283 => ?_) (fun h283 => ?_)
                                    · skip
                                      refine gf_iload C dd_Mo_fills_298 10 rfl ?_
                                      refine gf_istore (lv' := [(8, .int (gf_i f)), (10, .int (gf_i left)), (11, .int (gf_i t)), (0, .ref (gf_ad E 65)), (1, .int (gf_i i)), (2, .int (gf_i c)), (3, .int (gf_i r)), (4, .int (gf_i x35)), (5, .int (gf_i h)), (6, .int (gf_i x203)), (7, .int (gf_i w)), (9, .int (gf_i v))]) C dd_Mo_fills_300 (by decide) rfl ?_
                                      obtain ⟨x302, hx302⟩ : ∃ y : Int, y = w + 1 := ⟨_, rfl⟩
                                      refine gf_iinc (q := 10) (v := x302) (lv' := [(7, .int (gf_i x302)), (8, .int (gf_i f)), (10, .int (gf_i left)), (11, .int (gf_i t)), (0, .ref (gf_ad E 65)), (1, .int (gf_i i)), (2, .int (gf_i c)), (3, .int (gf_i r)), (4, .int (gf_i x35)), (5, .int (gf_i h)), (6, .int (gf_i x203)), (9, .int (gf_i v))]) C dd_Mo_fills_302 rfl hx302 (by decide) rfl ?_
                                      obtain ⟨x305, hx305⟩ : ∃ y : Int, y = v + 1 := ⟨_, rfl⟩
                                      refine gf_iinc (q := 11) (v := x305) (lv' := [(9, .int (gf_i x305)), (7, .int (gf_i x302)), (8, .int (gf_i f)), (10, .int (gf_i left)), (11, .int (gf_i t)), (0, .ref (gf_ad E 65)), (1, .int (gf_i i)), (2, .int (gf_i c)), (3, .int (gf_i r)), (4, .int (gf_i x35)), (5, .int (gf_i h)), (6, .int (gf_i x203))]) C dd_Mo_fills_305 rfl hx305 (by decide) rfl ?_
                                      refine gf_goto 214 C dd_Mo_fills_308 (by decide) ?_
                                      refine gf_lsub [1, 2, 0, 5, 6, 7, 8, 9, 10, 11] rfl ?_
                                      exact ih214_4 x302 f x305 m3 (by
                                              have e1 : x305.toNat = v.toNat + 1 := by omega
                                              have ewc : pf_cnt (gm_fw μ i c y (μ 66 r) h) (v.toNat + 1) = w + (if r274 = c then 1 else 0) := by
                                                show pf_cnt _ v.toNat + (if gm_fw μ i c y (μ 66 r) h ((v.toNat : Nat) : Int) = true then 1 else 0) = _
                                                rw [show ((v.toNat : Nat) : Int) = v by omega, ← hwv, hfw]
                                                by_cases e : r274 = c
                                                · rw [if_pos (by simpa using e), if_pos e]
                                                · rw [if_neg (by simpa using e), if_neg e]
                                              have eff : gm_ff μ i c y (μ 66 r) h (v.toNat + 1) = if r274 = c ∧ w = 0 then pf_num (gm_fil y h v) (μ 66 r).toNat else f := by
                                                show (if gm_fw μ i c y (μ 66 r) h ((v.toNat : Nat) : Int) = true ∧ pf_cnt (gm_fw μ i c y (μ 66 r) h) v.toNat = 0 then pf_num (gm_fil y h ((v.toNat : Nat) : Int)) (μ 66 r).toNat else gm_ff μ i c y (μ 66 r) h v.toNat) = _
                                                rw [show ((v.toNat : Nat) : Int) = v by omega, ← hwv, ← hfv, hfw]
                                                by_cases e : r274 = c ∧ w = 0
                                                · rw [if_pos (by simpa using e), if_pos e]
                                                · rw [if_neg (by simpa using e), if_neg e]
                                              refine ⟨by omega, by omega, ?_, ?_, by omega, htv, hts2, htf⟩
                                              · rw [e1, ewc]
                                                first | (rw [if_pos (by omega)]; omega) | (rw [if_neg (by omega)]; omega)
                                              · rw [e1, eff]
                                                first | (rw [if_pos (by omega)]; omega) | (rw [if_neg (by omega)])) (by omega)
                                    · skip
                                      refine gf_aload_n C dd_Mo_fills_286 2 rfl ?_
                                      refine gf_getA (r := 78) C gf_cl7 fl_Mo_51 dd_Mo_fills_287 rfl (show gf_is 81 65 0 7 26 by decide) (by decide) (by decide) ?_
                                      refine gf_iload C dd_Mo_fills_290 6 rfl ?_
                                      refine gf_callSi (st := []) (As := [.ref (gf_ad E 78), .int (gf_i x35)]) C wk_Mo_232 (ct_Mo_asNumber (gf_xl X) E 78 x35 9 m3 (show gf_is 81 78 1 0 9 by decide) (by omega) hF3) rfl ⟨rfl, rfl, rfl, rfl⟩ (Nat.le_of_ble_eq_true rfl) rfl dd_Mo_fills_292 (fun r292 m292 hR292 hp292 => ?_)
                                      have hr292 := hp292.1
                                      refine gf_pm hp292.2 ?_
                                      have hnum : r292 = pf_num (gm_fil y h v) (μ 66 r).toNat := by
                                        rw [hr292.1, hx35]
                                        exact pf_num_congr _ (fun j h0 h1 => f266 j h0 (by omega))
                                      have hnR := hr292.2
                                      clear hr292 hp292
                                      refine gf_goto 300 C dd_Mo_fills_295 (by decide) ?_
                                      refine gf_istore (lv' := [(8, .int (gf_i r292)), (10, .int (gf_i left)), (11, .int (gf_i t)), (0, .ref (gf_ad E 65)), (1, .int (gf_i i)), (2, .int (gf_i c)), (3, .int (gf_i r)), (4, .int (gf_i x35)), (5, .int (gf_i h)), (6, .int (gf_i x203)), (7, .int (gf_i w)), (9, .int (gf_i v))]) C dd_Mo_fills_300 (by decide) rfl ?_
                                      obtain ⟨x302, hx302⟩ : ∃ y : Int, y = w + 1 := ⟨_, rfl⟩
                                      refine gf_iinc (q := 10) (v := x302) (lv' := [(7, .int (gf_i x302)), (8, .int (gf_i r292)), (10, .int (gf_i left)), (11, .int (gf_i t)), (0, .ref (gf_ad E 65)), (1, .int (gf_i i)), (2, .int (gf_i c)), (3, .int (gf_i r)), (4, .int (gf_i x35)), (5, .int (gf_i h)), (6, .int (gf_i x203)), (9, .int (gf_i v))]) C dd_Mo_fills_302 rfl hx302 (by decide) rfl ?_
                                      obtain ⟨x305, hx305⟩ : ∃ y : Int, y = v + 1 := ⟨_, rfl⟩
                                      refine gf_iinc (q := 11) (v := x305) (lv' := [(9, .int (gf_i x305)), (7, .int (gf_i x302)), (8, .int (gf_i r292)), (10, .int (gf_i left)), (11, .int (gf_i t)), (0, .ref (gf_ad E 65)), (1, .int (gf_i i)), (2, .int (gf_i c)), (3, .int (gf_i r)), (4, .int (gf_i x35)), (5, .int (gf_i h)), (6, .int (gf_i x203))]) C dd_Mo_fills_305 rfl hx305 (by decide) rfl ?_
                                      refine gf_goto 214 C dd_Mo_fills_308 (by decide) ?_
                                      refine gf_lsub [1, 2, 0, 5, 6, 7, 8, 9, 10, 11] rfl ?_
                                      exact ih214_4 x302 r292 x305 m3 (by
                                              have e1 : x305.toNat = v.toNat + 1 := by omega
                                              have ewc : pf_cnt (gm_fw μ i c y (μ 66 r) h) (v.toNat + 1) = w + (if r274 = c then 1 else 0) := by
                                                show pf_cnt _ v.toNat + (if gm_fw μ i c y (μ 66 r) h ((v.toNat : Nat) : Int) = true then 1 else 0) = _
                                                rw [show ((v.toNat : Nat) : Int) = v by omega, ← hwv, hfw]
                                                by_cases e : r274 = c
                                                · rw [if_pos (by simpa using e), if_pos e]
                                                · rw [if_neg (by simpa using e), if_neg e]
                                              have eff : gm_ff μ i c y (μ 66 r) h (v.toNat + 1) = if r274 = c ∧ w = 0 then pf_num (gm_fil y h v) (μ 66 r).toNat else f := by
                                                show (if gm_fw μ i c y (μ 66 r) h ((v.toNat : Nat) : Int) = true ∧ pf_cnt (gm_fw μ i c y (μ 66 r) h) v.toNat = 0 then pf_num (gm_fil y h ((v.toNat : Nat) : Int)) (μ 66 r).toNat else gm_ff μ i c y (μ 66 r) h v.toNat) = _
                                                rw [show ((v.toNat : Nat) : Int) = v by omega, ← hwv, ← hfv, hfw]
                                                by_cases e : r274 = c ∧ w = 0
                                                · rw [if_pos (by simpa using e), if_pos e]
                                                · rw [if_neg (by simpa using e), if_neg e]
                                              refine ⟨by omega, by omega, ?_, ?_, by omega, htv, hts2, htf⟩
                                              · rw [e1, ewc]
                                                first | (rw [if_pos (by omega)]; omega) | (rw [if_neg (by omega)]; omega)
                                              · rw [e1, eff]
                                                first | (rw [if_pos (by omega)]; omega) | (rw [if_neg (by omega)])) (by omega)
                                · skip
                                  have hlr := pf_div_R (a := v) (h - 1 - t).toNat hv0
                                  rw [← hl] at hlr
                                  have hst := hts2.1 t (by omega) (by rw [← hhn]; omega)
                                  refine gf_aload_n C dd_Mo_fills_236 2 rfl ?_
                                  refine gf_getA (r := 78) C gf_cl7 fl_Mo_51 dd_Mo_fills_237 rfl (show gf_is 81 65 0 7 26 by decide) (by decide) (by decide) ?_
                                  refine gf_aload_n C dd_Mo_fills_240 2 rfl ?_
                                  refine gf_getA (r := 79) C gf_cl7 fl_Mo_54 dd_Mo_fills_241 rfl (show gf_is 81 65 0 7 26 by decide) (by decide) (by decide) ?_
                                  refine gf_iload C dd_Mo_fills_244 1 rfl ?_
                                  refine gf_iald C dd_Mo_fills_246 (show gf_is 81 79 1 0 3 by decide) (by omega) (fun hv246 => ?_)
                                  refine gf_iload C dd_Mo_fills_247 0 rfl ?_
                                  refine gf_bipush C dd_Mo_fills_249 (by decide +kernel) ?_
                                  refine gf_irem C dd_Mo_fills_251 (by omega) ?_
                                  refine gf_iast C dd_Mo_fills_252 (show gf_is 81 78 1 0 9 by decide) (by omega) (by omega) ?_
                                  refine gf_nmM (fun m252 hm252 => ?_)
                                  refine gf_iload C dd_Mo_fills_253 0 rfl ?_
                                  refine gf_bipush C dd_Mo_fills_255 (by decide +kernel) ?_
                                  refine gf_idiv C dd_Mo_fills_257 (by omega) ?_
                                  refine gf_nm (fun x258 hx258 => ?_)
                                  refine gf_istore (lv' := [(10, .int (gf_i x258)), (11, .int (gf_i t)), (0, .ref (gf_ad E 65)), (1, .int (gf_i i)), (2, .int (gf_i c)), (3, .int (gf_i r)), (4, .int (gf_i x35)), (5, .int (gf_i h)), (6, .int (gf_i x203)), (7, .int (gf_i w)), (8, .int (gf_i f)), (9, .int (gf_i v))]) C dd_Mo_fills_258 (by decide) rfl ?_
                                  obtain ⟨x260, hx260⟩ : ∃ y : Int, y = t + (-1) := ⟨_, rfl⟩
                                  refine gf_iinc (q := 1) (v := x260) (lv' := [(11, .int (gf_i x260)), (10, .int (gf_i x258)), (0, .ref (gf_ad E 65)), (1, .int (gf_i i)), (2, .int (gf_i c)), (3, .int (gf_i r)), (4, .int (gf_i x35)), (5, .int (gf_i h)), (6, .int (gf_i x203)), (7, .int (gf_i w)), (8, .int (gf_i f)), (9, .int (gf_i v))]) C dd_Mo_fills_260 rfl hx260 (by decide) rfl ?_
                                  refine gf_goto 231 C dd_Mo_fills_263 (by decide) ?_
                                  refine gf_lsub [1, 0, 2, 3, 4, 5, 6, 7, 8, 9, 10, 11] rfl ?_
                                  exact ih231_5 x258 x260 m252 (by
                                          obtain ⟨g1, g2, g3⟩ := hst
                                          refine ⟨by omega, by omega, ?_, fun j h0 h1 h2 => ?_, fun j h0 h1 h2 h3 => ?_, gm_sm_f hts2 (fun b => by rw [hm252, gf_up_k (by decide)]), fun a b h1 h2 => by rw [hm252, gf_up_k h1]; exact htf a b h1 h2⟩
                                          · rw [hx258, hl, pf_div10, show (h - 1 - t).toNat + 1 = (h - 1 - x260).toNat by omega]
                                          · have hne : j ≠ m3 79 t := fun e => h2 (by rw [e]; exact g2)
                                            rw [hm252, gf_up_j hne]; exact htv j h0 h1 h2
                                          · rw [hm252]
                                            by_cases e : gm_hc y j = t
                                            · have h4 := hts2.2 j h0 h1 h2
                                              rw [e] at h4
                                              rw [h4, gf_up_s, e, hl]
                                            · have hne : j ≠ m3 79 t := fun e2 => e (by rw [e2]; exact g3)
                                              rw [gf_up_j hne]; exact htd j h0 h1 h2 (by omega)) (by omega)
                            refine gf_lsub [1, 0, 5, 6, 7, 8, 9, 10, 11, 2, 3, 4] rfl ?_
                            exact L231_5 _ v x229 m (⟨by omega, by omega, by rw [show (h - 1 - x229).toNat = 0 by omega, Int.pow_zero, Int.ediv_one], hvv, fun j h0 h1 h2 h3 => by have := gm_hc_lt (y := y) (k := μ 66 r) h0 h1 h2; omega, hvs, hvf⟩) (Nat.lt_succ_self _)
                      refine gf_lsub [2, 1, 0, 5, 6, 7, 8, 9, 4, 3] rfl ?_
                      exact L214_4 _ 0 0 0 m (⟨by omega, by omega, rfl, rfl, by omega, fun j h0 h1 _ => (hkv j h0 h1).1, hks, hkf⟩) (Nat.lt_succ_self _)
                  · skip
                    refine gf_bipush C dd_Mo_fills_184 (by decide +kernel) ?_
                    refine gf_goto 203 C dd_Mo_fills_186 (by decide) ?_
                    refine gf_nm (fun x203 hx203 => ?_)
                    refine gf_istore (lv' := [(6, .int (gf_i x203)), (5, .int (gf_i h)), (0, .ref (gf_ad E 65)), (1, .int (gf_i i)), (2, .int (gf_i c)), (3, .int (gf_i r)), (4, .int (gf_i x35))]) C dd_Mo_fills_203 (by decide) rfl ?_
                    have ek : k = μ 66 r := by omega
                    have hc3 : gm_hc y (μ 66 r) ≤ 3 := by rw [← ek]; omega
                    have hsmr : ((∀ j : Int, 0 ≤ j → j < μ 66 r → -1 ≤ y j ∧ y j ≤ 9) ∧ pf_cnt (fun j => decide (y j = -1)) (μ 66 r).toNat ≤ 3) := ⟨fun j h0 h1 => (hkv j h0 (by omega)).2, hc3⟩
                    have hhn : h = gm_hc y (μ 66 r) := by rw [← ek]; exact hh
                    rw [ek] at hks hkv
                    have hall : x203 = 10 ^ h.toNat := by
                      rw [hx203]
                      first | (rw [show h = 0 by omega]; decide) | (rw [show h = 1 by omega]; decide) | (rw [show h = 2 by omega]; decide) | (rw [show h = 3 by omega]; decide)
                    have h103 := pf_10_3 (n := h.toNat) (by omega)
                    rw [← hhn] at hQ
                    clear hx203
                    refine gf_iconst C dd_Mo_fills_205 ?_
                    refine gf_istore (lv' := [(7, .int (gf_i 0)), (6, .int (gf_i x203)), (5, .int (gf_i h)), (0, .ref (gf_ad E 65)), (1, .int (gf_i i)), (2, .int (gf_i c)), (3, .int (gf_i r)), (4, .int (gf_i x35))]) C dd_Mo_fills_206 (by decide) rfl ?_
                    refine gf_iconst C dd_Mo_fills_208 ?_
                    refine gf_istore (lv' := [(8, .int (gf_i 0)), (7, .int (gf_i 0)), (6, .int (gf_i x203)), (5, .int (gf_i h)), (0, .ref (gf_ad E 65)), (1, .int (gf_i i)), (2, .int (gf_i c)), (3, .int (gf_i r)), (4, .int (gf_i x35))]) C dd_Mo_fills_209 (by decide) rfl ?_
                    refine gf_iconst C dd_Mo_fills_211 ?_
                    refine gf_istore (lv' := [(9, .int (gf_i 0)), (8, .int (gf_i 0)), (7, .int (gf_i 0)), (6, .int (gf_i x203)), (5, .int (gf_i h)), (0, .ref (gf_ad E 65)), (1, .int (gf_i i)), (2, .int (gf_i c)), (3, .int (gf_i r)), (4, .int (gf_i x35))]) C dd_Mo_fills_212 (by decide) rfl ?_
                    have L214_6 : ∀ (N : Nat) (w f v : Int) (m : gf_M) , (0 ≤ v ∧ v ≤ 10 ^ h.toNat ∧ w = pf_cnt (gm_fw μ i c y (μ 66 r) h) v.toNat ∧ f = gm_ff μ i c y (μ 66 r) h v.toNat ∧ (0 ≤ f ∧ f < 100000000) ∧ (∀ j : Int, 0 ≤ j → j < μ 66 r → y j ≠ -1 → m 78 j = y j) ∧ gm_sm y m (μ 66 r) ∧ ∀ a b : Int, a ≠ 78 → a ≠ 79 → m a b = μ a b) → (1000 - v).toNat < N → gf_G X E Q 12 gf_φ m 214 [(7, .int (gf_i w)), (8, .int (gf_i f)), (9, .int (gf_i v)), (0, .ref (gf_ad E 65)), (1, .int (gf_i i)), (2, .int (gf_i c)), (3, .int (gf_i r)), (4, .int (gf_i x35)), (5, .int (gf_i h)), (6, .int (gf_i x203))] [] := by
                      intro N
                      induction N with
                      | zero => intro w f v m hinv hN; exact absurd hN (Nat.not_lt_zero _)
                      | succ N ih214_6 =>
                        intro w f v m hinv hN
                        have hinv0 := hinv
                        obtain ⟨hv0, hv1, hwv, hfv, hfR1, hvv, hvs, hvf⟩ := hinv
                        have hwR := pf_cnt_R (gm_fw μ i c y (μ 66 r) h) v.toNat
                        rw [← hwv] at hwR
                        refine gf_iload C dd_Mo_fills_214 2 rfl ?_
                        refine gf_iload C dd_Mo_fills_216 9 rfl ?_
                        refine gf_icmp_ge 311 C dd_Mo_fills_218 (by decide) (by omega) (by omega) (fun h218 => ?_) (fun h218 => ?_)
                        · skip
                          have ev : v.toNat = 10 ^ h.toNat := by
                            have h1 : ((10 ^ h.toNat : Nat) : Int) = 10 ^ h.toNat := by simp
                            omega
                          rw [ev] at hwv hfv
                          have hwsc : gm_sc m μ := fun a b hab => by unfold gm_scr at hab; exact hvf a b (by omega) (by omega)
                          refine gf_aload_n C dd_Mo_fills_311 3 rfl ?_
                          refine gf_iload C dd_Mo_fills_312 0 rfl ?_
                          refine gf_if_le 322 C dd_Mo_fills_314 (by decide) (by omega) (fun h314 => ?_) (fun h314 => ?_)
                          · skip
                            refine gf_aload_n C dd_Mo_fills_322 3 rfl ?_
                            refine gf_getI (z := 4) C gf_cl7 fl_Mo_64 dd_Mo_fills_323 rfl rfl (show gf_is 81 65 0 7 26 by decide) (fun hv323 => ?_)
                            refine gf_putI (z := 4) C gf_cl7 fl_Mo_64 dd_Mo_fills_326 rfl rfl rfl (by decide +kernel) (show gf_is 81 65 0 7 26 by decide) (by omega) ?_
                            refine gf_nmM (fun m326 hm326 => ?_)
                            refine gf_iload C dd_Mo_fills_329 0 rfl ?_
                            refine gf_if_le 339 C dd_Mo_fills_331 (by decide) (by omega) (fun h331 => ?_) (fun h331 => ?_)
                            · skip
                              refine gf_bipush C dd_Mo_fills_339 (by decide +kernel) ?_
                              refine gf_iret C hQ dd_Mo_fills_341 (by omega) ?_
                              refine ⟨fun h => absurd h (by omega), fun _ => ⟨fun h => absurd h (by omega), fun _ => ⟨fun h => absurd h (by omega), fun _ => ⟨fun h => absurd hsmr h, fun _ => ⟨fun h => ?_, fun h => ?_⟩⟩⟩⟩⟩
                              · first | (exfalso; omega) | exact ⟨rfl, by rw [hm326, gf_up_id]; exact hwsc⟩
                              · first | (exfalso; omega) | (refine ⟨hwv, ?_⟩; rw [← hfv]; exact gm_sc_tl hwsc hm326)
                            · skip
                              refine gf_iload C dd_Mo_fills_334 0 rfl ?_
                              refine gf_goto 341 C dd_Mo_fills_336 (by decide) ?_
                              refine gf_iret C hQ dd_Mo_fills_341 (by omega) ?_
                              refine ⟨fun h => absurd h (by omega), fun _ => ⟨fun h => absurd h (by omega), fun _ => ⟨fun h => absurd h (by omega), fun _ => ⟨fun h => absurd hsmr h, fun _ => ⟨fun h => ?_, fun h => ?_⟩⟩⟩⟩⟩
                              · first | (exfalso; omega) | exact ⟨rfl, by rw [hm326, gf_up_id]; exact hwsc⟩
                              · first | (exfalso; omega) | (refine ⟨hwv, ?_⟩; rw [← hfv]; exact gm_sc_tl hwsc hm326)
                          · skip
                            refine gf_iload C dd_Mo_fills_317 1 rfl ?_
                            refine gf_goto 326 C dd_Mo_fills_319 (by decide) ?_
                            refine gf_putI (z := 4) C gf_cl7 fl_Mo_64 dd_Mo_fills_326 rfl rfl rfl (by decide +kernel) (show gf_is 81 65 0 7 26 by decide) (by omega) ?_
                            refine gf_nmM (fun m326 hm326 => ?_)
                            refine gf_iload C dd_Mo_fills_329 0 rfl ?_
                            refine gf_if_le 339 C dd_Mo_fills_331 (by decide) (by omega) (fun h331 => ?_) (fun h331 => ?_)
                            · skip
                              refine gf_bipush C dd_Mo_fills_339 (by decide +kernel) ?_
                              refine gf_iret C hQ dd_Mo_fills_341 (by omega) ?_
                              refine ⟨fun h => absurd h (by omega), fun _ => ⟨fun h => absurd h (by omega), fun _ => ⟨fun h => absurd h (by omega), fun _ => ⟨fun h => absurd hsmr h, fun _ => ⟨fun h => ?_, fun h => ?_⟩⟩⟩⟩⟩
                              · first | (exfalso; omega) | exact ⟨rfl, by rw [hm326, gf_up_id]; exact hwsc⟩
                              · first | (exfalso; omega) | (refine ⟨hwv, ?_⟩; rw [← hfv]; exact gm_sc_tl hwsc hm326)
                            · skip
                              refine gf_iload C dd_Mo_fills_334 0 rfl ?_
                              refine gf_goto 341 C dd_Mo_fills_336 (by decide) ?_
                              refine gf_iret C hQ dd_Mo_fills_341 (by omega) ?_
                              refine ⟨fun h => absurd h (by omega), fun _ => ⟨fun h => absurd h (by omega), fun _ => ⟨fun h => absurd h (by omega), fun _ => ⟨fun h => absurd hsmr h, fun _ => ⟨fun h => ?_, fun h => ?_⟩⟩⟩⟩⟩
                              · first | (exfalso; omega) | exact ⟨rfl, by rw [hm326, gf_up_id]; exact hwsc⟩
                              · first | (exfalso; omega) | (refine ⟨hwv, ?_⟩; rw [← hfv]; exact gm_sc_tl hwsc hm326)
                        · skip
                          refine gf_iload C dd_Mo_fills_221 2 rfl ?_
                          refine gf_istore (lv' := [(10, .int (gf_i v)), (7, .int (gf_i w)), (8, .int (gf_i f)), (9, .int (gf_i v)), (0, .ref (gf_ad E 65)), (1, .int (gf_i i)), (2, .int (gf_i c)), (3, .int (gf_i r)), (4, .int (gf_i x35)), (5, .int (gf_i h)), (6, .int (gf_i x203))]) C dd_Mo_fills_223 (by decide) rfl ?_
                          refine gf_iload C dd_Mo_fills_225 9 rfl ?_
                          refine gf_iconst C dd_Mo_fills_227 ?_
                          refine gf_isub C dd_Mo_fills_228 ?_
                          refine gf_nm (fun x229 hx229 => ?_)
                          refine gf_istore (lv' := [(11, .int (gf_i x229)), (10, .int (gf_i v)), (7, .int (gf_i w)), (8, .int (gf_i f)), (9, .int (gf_i v)), (0, .ref (gf_ad E 65)), (1, .int (gf_i i)), (2, .int (gf_i c)), (3, .int (gf_i r)), (4, .int (gf_i x35)), (5, .int (gf_i h)), (6, .int (gf_i x203))]) C dd_Mo_fills_229 (by decide) rfl ?_
                          have L231_7 : ∀ (N : Nat) (left t : Int) (m3 : gf_M) , (-1 ≤ t ∧ t ≤ h - 1 ∧ left = v / 10 ^ (h - 1 - t).toNat ∧ (∀ j : Int, 0 ≤ j → j < μ 66 r → y j ≠ -1 → m3 78 j = y j) ∧ (∀ j : Int, 0 ≤ j → j < μ 66 r → y j = -1 → t < gm_hc y j → m3 78 j = v / 10 ^ (h - 1 - gm_hc y j).toNat % 10) ∧ gm_sm y m3 (μ 66 r) ∧ ∀ a b : Int, a ≠ 78 → a ≠ 79 → m3 a b = μ a b) → (t + 1).toNat < N → gf_G X E Q 12 gf_φ m3 231 [(10, .int (gf_i left)), (11, .int (gf_i t)), (0, .ref (gf_ad E 65)), (1, .int (gf_i i)), (2, .int (gf_i c)), (3, .int (gf_i r)), (4, .int (gf_i x35)), (5, .int (gf_i h)), (6, .int (gf_i x203)), (7, .int (gf_i w)), (8, .int (gf_i f)), (9, .int (gf_i v))] [] := by
                            intro N
                            induction N with
                            | zero => intro left t m3 hinv hN; exact absurd hN (Nat.not_lt_zero _)
                            | succ N ih231_7 =>
                              intro left t m3 hinv hN
                              have hinv0 := hinv
                              obtain ⟨ht0, ht1, hl, htv, htd, hts2, htf⟩ := hinv
                              refine gf_iload C dd_Mo_fills_231 1 rfl ?_
                              refine gf_if_lt 266 C dd_Mo_fills_233 (by decide) (by omega) (fun h233 => ?_) (fun h233 => ?_)
                              · skip
                                have f266 : ∀ j : Int, 0 ≤ j → j < μ 66 r → m3 78 j = gm_fil y h v j := fun j h0 h1 => by
                                  unfold gm_fil
                                  by_cases e : y j = -1
                                  · rw [if_pos e]; exact htd j h0 h1 e (by have := gm_hc_R y j; omega)
                                  · rw [if_neg e]; exact htv j h0 h1 e
                                have q71 : ∀ b : Int, m3 71 b = μ 71 b := fun b => htf 71 b (by decide) (by decide)
                                have hfR := gm_fil_R (h := h) (v := v) hsmr.1
                                have hF3 : ∀ j : Int, 0 ≤ j → j < x35 → 0 ≤ m3 78 j ∧ m3 78 j ≤ 9 := fun j h0 h1 => by
                                  rw [f266 j h0 (by omega)]
                                  exact hfR j h0 (by omega)
                                refine gf_aload_n C dd_Mo_fills_266 2 rfl ?_
                                refine gf_iload_n C dd_Mo_fills_267 3 rfl ?_
                                refine gf_aload_n C dd_Mo_fills_268 2 rfl ?_
                                refine gf_getA (r := 78) C gf_cl7 fl_Mo_51 dd_Mo_fills_269 rfl (show gf_is 81 65 0 7 26 by decide) (by decide) (by decide) ?_
                                refine gf_iload C dd_Mo_fills_272 6 rfl ?_
                                refine gf_callVi (st := []) (As := [.int (gf_i i), .ref (gf_ad E 78), .int (gf_i x35)]) C wk_Mo_152 gf_cl7 (show gf_is 81 65 0 7 26 by decide) (ct_Mo_byGuard (gf_xl X) E i 78 x35 9 m3 (gm_okg_f hg q71) (show gf_is 81 78 1 0 9 by decide) (by omega) hF3) rfl ⟨rfl, rfl, rfl, rfl⟩ (Nat.le_of_ble_eq_true rfl) rfl dd_Mo_fills_274 (fun r274 m274 hR274 hp274 => ?_)
                                have hr274 := hp274.1
                                refine gf_pm hp274.2 ?_
                                have hfw : gm_fw μ i c y (μ 66 r) h v = decide (r274 = c) := by
                                  unfold gm_fw
                                  rw [hr274.1, gm_rk_f q71, hx35, gm_rk_congr (fun j h0 h1 => f266 j h0 h1)]
                                have hr274b := hr274.2
                                clear hr274 hp274
                                refine gf_iload_n C dd_Mo_fills_277 4 rfl ?_
                                refine gf_icmp_ne 305 C dd_Mo_fills_278 (by decide) (by omega) (by omega) (fun h278 => ?_) (fun h278 => ?_)
                                · skip
                                  obtain ⟨x305, hx305⟩ : ∃ y : Int, y = v + 1 := ⟨_, rfl⟩
                                  refine gf_iinc (q := 11) (v := x305) (lv' := [(9, .int (gf_i x305)), (10, .int (gf_i left)), (11, .int (gf_i t)), (0, .ref (gf_ad E 65)), (1, .int (gf_i i)), (2, .int (gf_i c)), (3, .int (gf_i r)), (4, .int (gf_i x35)), (5, .int (gf_i h)), (6, .int (gf_i x203)), (7, .int (gf_i w)), (8, .int (gf_i f))]) C dd_Mo_fills_305 rfl hx305 (by decide) rfl ?_
                                  refine gf_goto 214 C dd_Mo_fills_308 (by decide) ?_
                                  refine gf_lsub [10, 11, 0, 3, 4, 5, 6, 7, 8, 9] rfl ?_
                                  exact ih214_6 w f x305 m3 (by
                                          have e1 : x305.toNat = v.toNat + 1 := by omega
                                          have ewc : pf_cnt (gm_fw μ i c y (μ 66 r) h) (v.toNat + 1) = w + (if r274 = c then 1 else 0) := by
                                            show pf_cnt _ v.toNat + (if gm_fw μ i c y (μ 66 r) h ((v.toNat : Nat) : Int) = true then 1 else 0) = _
                                            rw [show ((v.toNat : Nat) : Int) = v by omega, ← hwv, hfw]
                                            by_cases e : r274 = c
                                            · rw [if_pos (by simpa using e), if_pos e]
                                            · rw [if_neg (by simpa using e), if_neg e]
                                          have eff : gm_ff μ i c y (μ 66 r) h (v.toNat + 1) = if r274 = c ∧ w = 0 then pf_num (gm_fil y h v) (μ 66 r).toNat else f := by
                                            show (if gm_fw μ i c y (μ 66 r) h ((v.toNat : Nat) : Int) = true ∧ pf_cnt (gm_fw μ i c y (μ 66 r) h) v.toNat = 0 then pf_num (gm_fil y h ((v.toNat : Nat) : Int)) (μ 66 r).toNat else gm_ff μ i c y (μ 66 r) h v.toNat) = _
                                            rw [show ((v.toNat : Nat) : Int) = v by omega, ← hwv, ← hfv, hfw]
                                            by_cases e : r274 = c ∧ w = 0
                                            · rw [if_pos (by simpa using e), if_pos e]
                                            · rw [if_neg (by simpa using e), if_neg e]
                                          refine ⟨by omega, by omega, ?_, ?_, by omega, htv, hts2, htf⟩
                                          · rw [e1, ewc]
                                            first | (rw [if_pos (by omega)]; omega) | (rw [if_neg (by omega)]; omega)
                                          · rw [e1, eff]
                                            first | (rw [if_pos (by omega)]; omega) | (rw [if_neg (by omega)])) (by omega)
                                · skip
                                  refine gf_iload C dd_Mo_fills_281 9 rfl ?_
                                  refine gf_if_ne 298 C dd_Mo_fills_283 (by decide) (by omega) (fun h283 => ?_) (fun h283 => ?_)
                                  · skip
                                    refine gf_iload C dd_Mo_fills_298 10 rfl ?_
                                    refine gf_istore (lv' := [(8, .int (gf_i f)), (10, .int (gf_i left)), (11, .int (gf_i t)), (0, .ref (gf_ad E 65)), (1, .int (gf_i i)), (2, .int (gf_i c)), (3, .int (gf_i r)), (4, .int (gf_i x35)), (5, .int (gf_i h)), (6, .int (gf_i x203)), (7, .int (gf_i w)), (9, .int (gf_i v))]) C dd_Mo_fills_300 (by decide) rfl ?_
                                    obtain ⟨x302, hx302⟩ : ∃ y : Int, y = w + 1 := ⟨_, rfl⟩
                                    refine gf_iinc (q := 10) (v := x302) (lv' := [(7, .int (gf_i x302)), (8, .int (gf_i f)), (10, .int (gf_i left)), (11, .int (gf_i t)), (0, .ref (gf_ad E 65)), (1, .int (gf_i i)), (2, .int (gf_i c)), (3, .int (gf_i r)), (4, .int (gf_i x35)), (5, .int (gf_i h)), (6, .int (gf_i x203)), (9, .int (gf_i v))]) C dd_Mo_fills_302 rfl hx302 (by decide) rfl ?_
                                    obtain ⟨x305, hx305⟩ : ∃ y : Int, y = v + 1 := ⟨_, rfl⟩
                                    refine gf_iinc (q := 11) (v := x305) (lv' := [(9, .int (gf_i x305)), (7, .int (gf_i x302)), (8, .int (gf_i f)), (10, .int (gf_i left)), (11, .int (gf_i t)), (0, .ref (gf_ad E 65)), (1, .int (gf_i i)), (2, .int (gf_i c)), (3, .int (gf_i r)), (4, .int (gf_i x35)), (5, .int (gf_i h)), (6, .int (gf_i x203))]) C dd_Mo_fills_305 rfl hx305 (by decide) rfl ?_
                                    refine gf_goto 214 C dd_Mo_fills_308 (by decide) ?_
                                    refine gf_lsub [1, 2, 0, 5, 6, 7, 8, 9, 10, 11] rfl ?_
                                    exact ih214_6 x302 f x305 m3 (by
                                            have e1 : x305.toNat = v.toNat + 1 := by omega
                                            have ewc : pf_cnt (gm_fw μ i c y (μ 66 r) h) (v.toNat + 1) = w + (if r274 = c then 1 else 0) := by
                                              show pf_cnt _ v.toNat + (if gm_fw μ i c y (μ 66 r) h ((v.toNat : Nat) : Int) = true then 1 else 0) = _
                                              rw [show ((v.toNat : Nat) : Int) = v by omega, ← hwv, hfw]
                                              by_cases e : r274 = c
                                              · rw [if_pos (by simpa using e), if_pos e]
                                              · rw [if_neg (by simpa using e), if_neg e]
                                            have eff : gm_ff μ i c y (μ 66 r) h (v.toNat + 1) = if r274 = c ∧ w = 0 then pf_num (gm_fil y h v) (μ 66 r).toNat else f := by
                                              show (if gm_fw μ i c y (μ 66 r) h ((v.toNat : Nat) : Int) = true ∧ pf_cnt (gm_fw μ i c y (μ 66 r) h) v.toNat = 0 then pf_num (gm_fil y h ((v.toNat : Nat) : Int)) (μ 66 r).toNat else gm_ff μ i c y (μ 66 r) h v.toNat) = _
                                              rw [show ((v.toNat : Nat) : Int) = v by omega, ← hwv, ← hfv, hfw]
                                              by_cases e : r274 = c ∧ w = 0
                                              · rw [if_pos (by simpa using e), if_pos e]
                                              · rw [if_neg (by simpa using e), if_neg e]
                                            refine ⟨by omega, by omega, ?_, ?_, by omega, htv, hts2, htf⟩
                                            · rw [e1, ewc]
                                              first | (rw [if_pos (by omega)]; omega) | (rw [if_neg (by omega)]; omega)
                                            · rw [e1, eff]
                                              first | (rw [if_pos (by omega)]; omega) | (rw [if_neg (by omega)])) (by omega)
                                  · skip
                                    refine gf_aload_n C dd_Mo_fills_286 2 rfl ?_
                                    refine gf_getA (r := 78) C gf_cl7 fl_Mo_51 dd_Mo_fills_287 rfl (show gf_is 81 65 0 7 26 by decide) (by decide) (by decide) ?_
                                    refine gf_iload C dd_Mo_fills_290 6 rfl ?_
                                    refine gf_callSi (st := []) (As := [.ref (gf_ad E 78), .int (gf_i x35)]) C wk_Mo_232 (ct_Mo_asNumber (gf_xl X) E 78 x35 9 m3 (show gf_is 81 78 1 0 9 by decide) (by omega) hF3) rfl ⟨rfl, rfl, rfl, rfl⟩ (Nat.le_of_ble_eq_true rfl) rfl dd_Mo_fills_292 (fun r292 m292 hR292 hp292 => ?_)
                                    have hr292 := hp292.1
                                    refine gf_pm hp292.2 ?_
                                    have hnum : r292 = pf_num (gm_fil y h v) (μ 66 r).toNat := by
                                      rw [hr292.1, hx35]
                                      exact pf_num_congr _ (fun j h0 h1 => f266 j h0 (by omega))
                                    have hnR := hr292.2
                                    clear hr292 hp292
                                    refine gf_goto 300 C dd_Mo_fills_295 (by decide) ?_
                                    refine gf_istore (lv' := [(8, .int (gf_i r292)), (10, .int (gf_i left)), (11, .int (gf_i t)), (0, .ref (gf_ad E 65)), (1, .int (gf_i i)), (2, .int (gf_i c)), (3, .int (gf_i r)), (4, .int (gf_i x35)), (5, .int (gf_i h)), (6, .int (gf_i x203)), (7, .int (gf_i w)), (9, .int (gf_i v))]) C dd_Mo_fills_300 (by decide) rfl ?_
                                    obtain ⟨x302, hx302⟩ : ∃ y : Int, y = w + 1 := ⟨_, rfl⟩
                                    refine gf_iinc (q := 10) (v := x302) (lv' := [(7, .int (gf_i x302)), (8, .int (gf_i r292)), (10, .int (gf_i left)), (11, .int (gf_i t)), (0, .ref (gf_ad E 65)), (1, .int (gf_i i)), (2, .int (gf_i c)), (3, .int (gf_i r)), (4, .int (gf_i x35)), (5, .int (gf_i h)), (6, .int (gf_i x203)), (9, .int (gf_i v))]) C dd_Mo_fills_302 rfl hx302 (by decide) rfl ?_
                                    obtain ⟨x305, hx305⟩ : ∃ y : Int, y = v + 1 := ⟨_, rfl⟩
                                    refine gf_iinc (q := 11) (v := x305) (lv' := [(9, .int (gf_i x305)), (7, .int (gf_i x302)), (8, .int (gf_i r292)), (10, .int (gf_i left)), (11, .int (gf_i t)), (0, .ref (gf_ad E 65)), (1, .int (gf_i i)), (2, .int (gf_i c)), (3, .int (gf_i r)), (4, .int (gf_i x35)), (5, .int (gf_i h)), (6, .int (gf_i x203))]) C dd_Mo_fills_305 rfl hx305 (by decide) rfl ?_
                                    refine gf_goto 214 C dd_Mo_fills_308 (by decide) ?_
                                    refine gf_lsub [1, 2, 0, 5, 6, 7, 8, 9, 10, 11] rfl ?_
                                    exact ih214_6 x302 r292 x305 m3 (by
                                            have e1 : x305.toNat = v.toNat + 1 := by omega
                                            have ewc : pf_cnt (gm_fw μ i c y (μ 66 r) h) (v.toNat + 1) = w + (if r274 = c then 1 else 0) := by
                                              show pf_cnt _ v.toNat + (if gm_fw μ i c y (μ 66 r) h ((v.toNat : Nat) : Int) = true then 1 else 0) = _
                                              rw [show ((v.toNat : Nat) : Int) = v by omega, ← hwv, hfw]
                                              by_cases e : r274 = c
                                              · rw [if_pos (by simpa using e), if_pos e]
                                              · rw [if_neg (by simpa using e), if_neg e]
                                            have eff : gm_ff μ i c y (μ 66 r) h (v.toNat + 1) = if r274 = c ∧ w = 0 then pf_num (gm_fil y h v) (μ 66 r).toNat else f := by
                                              show (if gm_fw μ i c y (μ 66 r) h ((v.toNat : Nat) : Int) = true ∧ pf_cnt (gm_fw μ i c y (μ 66 r) h) v.toNat = 0 then pf_num (gm_fil y h ((v.toNat : Nat) : Int)) (μ 66 r).toNat else gm_ff μ i c y (μ 66 r) h v.toNat) = _
                                              rw [show ((v.toNat : Nat) : Int) = v by omega, ← hwv, ← hfv, hfw]
                                              by_cases e : r274 = c ∧ w = 0
                                              · rw [if_pos (by simpa using e), if_pos e]
                                              · rw [if_neg (by simpa using e), if_neg e]
                                            refine ⟨by omega, by omega, ?_, ?_, by omega, htv, hts2, htf⟩
                                            · rw [e1, ewc]
                                              first | (rw [if_pos (by omega)]; omega) | (rw [if_neg (by omega)]; omega)
                                            · rw [e1, eff]
                                              first | (rw [if_pos (by omega)]; omega) | (rw [if_neg (by omega)])) (by omega)
                              · skip
                                have hlr := pf_div_R (a := v) (h - 1 - t).toNat hv0
                                rw [← hl] at hlr
                                have hst := hts2.1 t (by omega) (by rw [← hhn]; omega)
                                refine gf_aload_n C dd_Mo_fills_236 2 rfl ?_
                                refine gf_getA (r := 78) C gf_cl7 fl_Mo_51 dd_Mo_fills_237 rfl (show gf_is 81 65 0 7 26 by decide) (by decide) (by decide) ?_
                                refine gf_aload_n C dd_Mo_fills_240 2 rfl ?_
                                refine gf_getA (r := 79) C gf_cl7 fl_Mo_54 dd_Mo_fills_241 rfl (show gf_is 81 65 0 7 26 by decide) (by decide) (by decide) ?_
                                refine gf_iload C dd_Mo_fills_244 1 rfl ?_
                                refine gf_iald C dd_Mo_fills_246 (show gf_is 81 79 1 0 3 by decide) (by omega) (fun hv246 => ?_)
                                refine gf_iload C dd_Mo_fills_247 0 rfl ?_
                                refine gf_bipush C dd_Mo_fills_249 (by decide +kernel) ?_
                                refine gf_irem C dd_Mo_fills_251 (by omega) ?_
                                refine gf_iast C dd_Mo_fills_252 (show gf_is 81 78 1 0 9 by decide) (by omega) (by omega) ?_
                                refine gf_nmM (fun m252 hm252 => ?_)
                                refine gf_iload C dd_Mo_fills_253 0 rfl ?_
                                refine gf_bipush C dd_Mo_fills_255 (by decide +kernel) ?_
                                refine gf_idiv C dd_Mo_fills_257 (by omega) ?_
                                refine gf_nm (fun x258 hx258 => ?_)
                                refine gf_istore (lv' := [(10, .int (gf_i x258)), (11, .int (gf_i t)), (0, .ref (gf_ad E 65)), (1, .int (gf_i i)), (2, .int (gf_i c)), (3, .int (gf_i r)), (4, .int (gf_i x35)), (5, .int (gf_i h)), (6, .int (gf_i x203)), (7, .int (gf_i w)), (8, .int (gf_i f)), (9, .int (gf_i v))]) C dd_Mo_fills_258 (by decide) rfl ?_
                                obtain ⟨x260, hx260⟩ : ∃ y : Int, y = t + (-1) := ⟨_, rfl⟩
                                refine gf_iinc (q := 1) (v := x260) (lv' := [(11, .int (gf_i x260)), (10, .int (gf_i x258)), (0, .ref (gf_ad E 65)), (1, .int (gf_i i)), (2, .int (gf_i c)), (3, .int (gf_i r)), (4, .int (gf_i x35)), (5, .int (gf_i h)), (6, .int (gf_i x203)), (7, .int (gf_i w)), (8, .int (gf_i f)), (9, .int (gf_i v))]) C dd_Mo_fills_260 rfl hx260 (by decide) rfl ?_
                                refine gf_goto 231 C dd_Mo_fills_263 (by decide) ?_
                                refine gf_lsub [1, 0, 2, 3, 4, 5, 6, 7, 8, 9, 10, 11] rfl ?_
                                exact ih231_7 x258 x260 m252 (by
                                        obtain ⟨g1, g2, g3⟩ := hst
                                        refine ⟨by omega, by omega, ?_, fun j h0 h1 h2 => ?_, fun j h0 h1 h2 h3 => ?_, gm_sm_f hts2 (fun b => by rw [hm252, gf_up_k (by decide)]), fun a b h1 h2 => by rw [hm252, gf_up_k h1]; exact htf a b h1 h2⟩
                                        · rw [hx258, hl, pf_div10, show (h - 1 - t).toNat + 1 = (h - 1 - x260).toNat by omega]
                                        · have hne : j ≠ m3 79 t := fun e => h2 (by rw [e]; exact g2)
                                          rw [hm252, gf_up_j hne]; exact htv j h0 h1 h2
                                        · rw [hm252]
                                          by_cases e : gm_hc y j = t
                                          · have h4 := hts2.2 j h0 h1 h2
                                            rw [e] at h4
                                            rw [h4, gf_up_s, e, hl]
                                          · have hne : j ≠ m3 79 t := fun e2 => e (by rw [e2]; exact g3)
                                            rw [gf_up_j hne]; exact htd j h0 h1 h2 (by omega)) (by omega)
                          refine gf_lsub [1, 0, 5, 6, 7, 8, 9, 10, 11, 2, 3, 4] rfl ?_
                          exact L231_7 _ v x229 m (⟨by omega, by omega, by rw [show (h - 1 - x229).toNat = 0 by omega, Int.pow_zero, Int.ediv_one], hvv, fun j h0 h1 h2 h3 => by have := gm_hc_lt (y := y) (k := μ 66 r) h0 h1 h2; omega, hvs, hvf⟩) (Nat.lt_succ_self _)
                    refine gf_lsub [2, 1, 0, 5, 6, 7, 8, 9, 4, 3] rfl ?_
                    exact L214_6 _ 0 0 0 m (⟨by omega, by omega, rfl, rfl, by omega, fun j h0 h1 _ => (hkv j h0 h1).1, hks, hkf⟩) (Nat.lt_succ_self _)
                · skip
                  refine gf_iconst C dd_Mo_fills_174 ?_
                  refine gf_goto 203 C dd_Mo_fills_175 (by decide) ?_
                  refine gf_nm (fun x203 hx203 => ?_)
                  refine gf_istore (lv' := [(6, .int (gf_i x203)), (5, .int (gf_i h)), (0, .ref (gf_ad E 65)), (1, .int (gf_i i)), (2, .int (gf_i c)), (3, .int (gf_i r)), (4, .int (gf_i x35))]) C dd_Mo_fills_203 (by decide) rfl ?_
                  have ek : k = μ 66 r := by omega
                  have hc3 : gm_hc y (μ 66 r) ≤ 3 := by rw [← ek]; omega
                  have hsmr : ((∀ j : Int, 0 ≤ j → j < μ 66 r → -1 ≤ y j ∧ y j ≤ 9) ∧ pf_cnt (fun j => decide (y j = -1)) (μ 66 r).toNat ≤ 3) := ⟨fun j h0 h1 => (hkv j h0 (by omega)).2, hc3⟩
                  have hhn : h = gm_hc y (μ 66 r) := by rw [← ek]; exact hh
                  rw [ek] at hks hkv
                  have hall : x203 = 10 ^ h.toNat := by
                    rw [hx203]
                    first | (rw [show h = 0 by omega]; decide) | (rw [show h = 1 by omega]; decide) | (rw [show h = 2 by omega]; decide) | (rw [show h = 3 by omega]; decide)
                  have h103 := pf_10_3 (n := h.toNat) (by omega)
                  rw [← hhn] at hQ
                  clear hx203
                  refine gf_iconst C dd_Mo_fills_205 ?_
                  refine gf_istore (lv' := [(7, .int (gf_i 0)), (6, .int (gf_i x203)), (5, .int (gf_i h)), (0, .ref (gf_ad E 65)), (1, .int (gf_i i)), (2, .int (gf_i c)), (3, .int (gf_i r)), (4, .int (gf_i x35))]) C dd_Mo_fills_206 (by decide) rfl ?_
                  refine gf_iconst C dd_Mo_fills_208 ?_
                  refine gf_istore (lv' := [(8, .int (gf_i 0)), (7, .int (gf_i 0)), (6, .int (gf_i x203)), (5, .int (gf_i h)), (0, .ref (gf_ad E 65)), (1, .int (gf_i i)), (2, .int (gf_i c)), (3, .int (gf_i r)), (4, .int (gf_i x35))]) C dd_Mo_fills_209 (by decide) rfl ?_
                  refine gf_iconst C dd_Mo_fills_211 ?_
                  refine gf_istore (lv' := [(9, .int (gf_i 0)), (8, .int (gf_i 0)), (7, .int (gf_i 0)), (6, .int (gf_i x203)), (5, .int (gf_i h)), (0, .ref (gf_ad E 65)), (1, .int (gf_i i)), (2, .int (gf_i c)), (3, .int (gf_i r)), (4, .int (gf_i x35))]) C dd_Mo_fills_212 (by decide) rfl ?_
                  have L214_8 : ∀ (N : Nat) (w f v : Int) (m : gf_M) , (0 ≤ v ∧ v ≤ 10 ^ h.toNat ∧ w = pf_cnt (gm_fw μ i c y (μ 66 r) h) v.toNat ∧ f = gm_ff μ i c y (μ 66 r) h v.toNat ∧ (0 ≤ f ∧ f < 100000000) ∧ (∀ j : Int, 0 ≤ j → j < μ 66 r → y j ≠ -1 → m 78 j = y j) ∧ gm_sm y m (μ 66 r) ∧ ∀ a b : Int, a ≠ 78 → a ≠ 79 → m a b = μ a b) → (1000 - v).toNat < N → gf_G X E Q 12 gf_φ m 214 [(7, .int (gf_i w)), (8, .int (gf_i f)), (9, .int (gf_i v)), (0, .ref (gf_ad E 65)), (1, .int (gf_i i)), (2, .int (gf_i c)), (3, .int (gf_i r)), (4, .int (gf_i x35)), (5, .int (gf_i h)), (6, .int (gf_i x203))] [] := by
                    intro N
                    induction N with
                    | zero => intro w f v m hinv hN; exact absurd hN (Nat.not_lt_zero _)
                    | succ N ih214_8 =>
                      intro w f v m hinv hN
                      have hinv0 := hinv
                      obtain ⟨hv0, hv1, hwv, hfv, hfR1, hvv, hvs, hvf⟩ := hinv
                      have hwR := pf_cnt_R (gm_fw μ i c y (μ 66 r) h) v.toNat
                      rw [← hwv] at hwR
                      refine gf_iload C dd_Mo_fills_214 2 rfl ?_
                      refine gf_iload C dd_Mo_fills_216 9 rfl ?_
                      refine gf_icmp_ge 311 C dd_Mo_fills_218 (by decide) (by omega) (by omega) (fun h218 => ?_) (fun h218 => ?_)
                      · skip
                        have ev : v.toNat = 10 ^ h.toNat := by
                          have h1 : ((10 ^ h.toNat : Nat) : Int) = 10 ^ h.toNat := by simp
                          omega
                        rw [ev] at hwv hfv
                        have hwsc : gm_sc m μ := fun a b hab => by unfold gm_scr at hab; exact hvf a b (by omega) (by omega)
                        refine gf_aload_n C dd_Mo_fills_311 3 rfl ?_
                        refine gf_iload C dd_Mo_fills_312 0 rfl ?_
                        refine gf_if_le 322 C dd_Mo_fills_314 (by decide) (by omega) (fun h314 => ?_) (fun h314 => ?_)
                        · skip
                          refine gf_aload_n C dd_Mo_fills_322 3 rfl ?_
                          refine gf_getI (z := 4) C gf_cl7 fl_Mo_64 dd_Mo_fills_323 rfl rfl (show gf_is 81 65 0 7 26 by decide) (fun hv323 => ?_)
                          refine gf_putI (z := 4) C gf_cl7 fl_Mo_64 dd_Mo_fills_326 rfl rfl rfl (by decide +kernel) (show gf_is 81 65 0 7 26 by decide) (by omega) ?_
                          refine gf_nmM (fun m326 hm326 => ?_)
                          refine gf_iload C dd_Mo_fills_329 0 rfl ?_
                          refine gf_if_le 339 C dd_Mo_fills_331 (by decide) (by omega) (fun h331 => ?_) (fun h331 => ?_)
                          · skip
                            refine gf_bipush C dd_Mo_fills_339 (by decide +kernel) ?_
                            refine gf_iret C hQ dd_Mo_fills_341 (by omega) ?_
                            refine ⟨fun h => absurd h (by omega), fun _ => ⟨fun h => absurd h (by omega), fun _ => ⟨fun h => absurd h (by omega), fun _ => ⟨fun h => absurd hsmr h, fun _ => ⟨fun h => ?_, fun h => ?_⟩⟩⟩⟩⟩
                            · first | (exfalso; omega) | exact ⟨rfl, by rw [hm326, gf_up_id]; exact hwsc⟩
                            · first | (exfalso; omega) | (refine ⟨hwv, ?_⟩; rw [← hfv]; exact gm_sc_tl hwsc hm326)
                          · skip
                            refine gf_iload C dd_Mo_fills_334 0 rfl ?_
                            refine gf_goto 341 C dd_Mo_fills_336 (by decide) ?_
                            refine gf_iret C hQ dd_Mo_fills_341 (by omega) ?_
                            refine ⟨fun h => absurd h (by omega), fun _ => ⟨fun h => absurd h (by omega), fun _ => ⟨fun h => absurd h (by omega), fun _ => ⟨fun h => absurd hsmr h, fun _ => ⟨fun h => ?_, fun h => ?_⟩⟩⟩⟩⟩
                            · first | (exfalso; omega) | exact ⟨rfl, by rw [hm326, gf_up_id]; exact hwsc⟩
                            · first | (exfalso; omega) | (refine ⟨hwv, ?_⟩; rw [← hfv]; exact gm_sc_tl hwsc hm326)
                        · skip
                          refine gf_iload C dd_Mo_fills_317 1 rfl ?_
                          refine gf_goto 326 C dd_Mo_fills_319 (by decide) ?_
                          refine gf_putI (z := 4) C gf_cl7 fl_Mo_64 dd_Mo_fills_326 rfl rfl rfl (by decide +kernel) (show gf_is 81 65 0 7 26 by decide) (by omega) ?_
                          refine gf_nmM (fun m326 hm326 => ?_)
                          refine gf_iload C dd_Mo_fills_329 0 rfl ?_
                          refine gf_if_le 339 C dd_Mo_fills_331 (by decide) (by omega) (fun h331 => ?_) (fun h331 => ?_)
                          · skip
                            refine gf_bipush C dd_Mo_fills_339 (by decide +kernel) ?_
                            refine gf_iret C hQ dd_Mo_fills_341 (by omega) ?_
                            refine ⟨fun h => absurd h (by omega), fun _ => ⟨fun h => absurd h (by omega), fun _ => ⟨fun h => absurd h (by omega), fun _ => ⟨fun h => absurd hsmr h, fun _ => ⟨fun h => ?_, fun h => ?_⟩⟩⟩⟩⟩
                            · first | (exfalso; omega) | exact ⟨rfl, by rw [hm326, gf_up_id]; exact hwsc⟩
                            · first | (exfalso; omega) | (refine ⟨hwv, ?_⟩; rw [← hfv]; exact gm_sc_tl hwsc hm326)
                          · skip
                            refine gf_iload C dd_Mo_fills_334 0 rfl ?_
                            refine gf_goto 341 C dd_Mo_fills_336 (by decide) ?_
                            refine gf_iret C hQ dd_Mo_fills_341 (by omega) ?_
                            refine ⟨fun h => absurd h (by omega), fun _ => ⟨fun h => absurd h (by omega), fun _ => ⟨fun h => absurd h (by omega), fun _ => ⟨fun h => absurd hsmr h, fun _ => ⟨fun h => ?_, fun h => ?_⟩⟩⟩⟩⟩
                            · first | (exfalso; omega) | exact ⟨rfl, by rw [hm326, gf_up_id]; exact hwsc⟩
                            · first | (exfalso; omega) | (refine ⟨hwv, ?_⟩; rw [← hfv]; exact gm_sc_tl hwsc hm326)
                      · skip
                        refine gf_iload C dd_Mo_fills_221 2 rfl ?_
                        refine gf_istore (lv' := [(10, .int (gf_i v)), (7, .int (gf_i w)), (8, .int (gf_i f)), (9, .int (gf_i v)), (0, .ref (gf_ad E 65)), (1, .int (gf_i i)), (2, .int (gf_i c)), (3, .int (gf_i r)), (4, .int (gf_i x35)), (5, .int (gf_i h)), (6, .int (gf_i x203))]) C dd_Mo_fills_223 (by decide) rfl ?_
                        refine gf_iload C dd_Mo_fills_225 9 rfl ?_
                        refine gf_iconst C dd_Mo_fills_227 ?_
                        refine gf_isub C dd_Mo_fills_228 ?_
                        refine gf_nm (fun x229 hx229 => ?_)
                        refine gf_istore (lv' := [(11, .int (gf_i x229)), (10, .int (gf_i v)), (7, .int (gf_i w)), (8, .int (gf_i f)), (9, .int (gf_i v)), (0, .ref (gf_ad E 65)), (1, .int (gf_i i)), (2, .int (gf_i c)), (3, .int (gf_i r)), (4, .int (gf_i x35)), (5, .int (gf_i h)), (6, .int (gf_i x203))]) C dd_Mo_fills_229 (by decide) rfl ?_
                        have L231_9 : ∀ (N : Nat) (left t : Int) (m3 : gf_M) , (-1 ≤ t ∧ t ≤ h - 1 ∧ left = v / 10 ^ (h - 1 - t).toNat ∧ (∀ j : Int, 0 ≤ j → j < μ 66 r → y j ≠ -1 → m3 78 j = y j) ∧ (∀ j : Int, 0 ≤ j → j < μ 66 r → y j = -1 → t < gm_hc y j → m3 78 j = v / 10 ^ (h - 1 - gm_hc y j).toNat % 10) ∧ gm_sm y m3 (μ 66 r) ∧ ∀ a b : Int, a ≠ 78 → a ≠ 79 → m3 a b = μ a b) → (t + 1).toNat < N → gf_G X E Q 12 gf_φ m3 231 [(10, .int (gf_i left)), (11, .int (gf_i t)), (0, .ref (gf_ad E 65)), (1, .int (gf_i i)), (2, .int (gf_i c)), (3, .int (gf_i r)), (4, .int (gf_i x35)), (5, .int (gf_i h)), (6, .int (gf_i x203)), (7, .int (gf_i w)), (8, .int (gf_i f)), (9, .int (gf_i v))] [] := by
                          intro N
                          induction N with
                          | zero => intro left t m3 hinv hN; exact absurd hN (Nat.not_lt_zero _)
                          | succ N ih231_9 =>
                            intro left t m3 hinv hN
                            have hinv0 := hinv
                            obtain ⟨ht0, ht1, hl, htv, htd, hts2, htf⟩ := hinv
                            refine gf_iload C dd_Mo_fills_231 1 rfl ?_
                            refine gf_if_lt 266 C dd_Mo_fills_233 (by decide) (by omega) (fun h233 => ?_) (fun h233 => ?_)
                            · skip
                              have f266 : ∀ j : Int, 0 ≤ j → j < μ 66 r → m3 78 j = gm_fil y h v j := fun j h0 h1 => by
                                unfold gm_fil
                                by_cases e : y j = -1
                                · rw [if_pos e]; exact htd j h0 h1 e (by have := gm_hc_R y j; omega)
                                · rw [if_neg e]; exact htv j h0 h1 e
                              have q71 : ∀ b : Int, m3 71 b = μ 71 b := fun b => htf 71 b (by decide) (by decide)
                              have hfR := gm_fil_R (h := h) (v := v) hsmr.1
                              have hF3 : ∀ j : Int, 0 ≤ j → j < x35 → 0 ≤ m3 78 j ∧ m3 78 j ≤ 9 := fun j h0 h1 => by
                                rw [f266 j h0 (by omega)]
                                exact hfR j h0 (by omega)
                              refine gf_aload_n C dd_Mo_fills_266 2 rfl ?_
                              refine gf_iload_n C dd_Mo_fills_267 3 rfl ?_
                              refine gf_aload_n C dd_Mo_fills_268 2 rfl ?_
                              refine gf_getA (r := 78) C gf_cl7 fl_Mo_51 dd_Mo_fills_269 rfl (show gf_is 81 65 0 7 26 by decide) (by decide) (by decide) ?_
                              refine gf_iload C dd_Mo_fills_272 6 rfl ?_
                              refine gf_callVi (st := []) (As := [.int (gf_i i), .ref (gf_ad E 78), .int (gf_i x35)]) C wk_Mo_152 gf_cl7 (show gf_is 81 65 0 7 26 by decide) (ct_Mo_byGuard (gf_xl X) E i 78 x35 9 m3 (gm_okg_f hg q71) (show gf_is 81 78 1 0 9 by decide) (by omega) hF3) rfl ⟨rfl, rfl, rfl, rfl⟩ (Nat.le_of_ble_eq_true rfl) rfl dd_Mo_fills_274 (fun r274 m274 hR274 hp274 => ?_)
                              have hr274 := hp274.1
                              refine gf_pm hp274.2 ?_
                              have hfw : gm_fw μ i c y (μ 66 r) h v = decide (r274 = c) := by
                                unfold gm_fw
                                rw [hr274.1, gm_rk_f q71, hx35, gm_rk_congr (fun j h0 h1 => f266 j h0 h1)]
                              have hr274b := hr274.2
                              clear hr274 hp274
                              refine gf_iload_n C dd_Mo_fills_277 4 rfl ?_
                              refine gf_icmp_ne 305 C dd_Mo_fills_278 (by decide) (by omega) (by omega) (fun h278 => ?_) (fun h278 => ?_)
                              · skip
                                obtain ⟨x305, hx305⟩ : ∃ y : Int, y = v + 1 := ⟨_, rfl⟩
                                refine gf_iinc (q := 11) (v := x305) (lv' := [(9, .int (gf_i x305)), (10, .int (gf_i left)), (11, .int (gf_i t)), (0, .ref (gf_ad E 65)), (1, .int (gf_i i)), (2, .int (gf_i c)), (3, .int (gf_i r)), (4, .int (gf_i x35)), (5, .int (gf_i h)), (6, .int (gf_i x203)), (7, .int (gf_i w)), (8, .int (gf_i f))]) C dd_Mo_fills_305 rfl hx305 (by decide) rfl ?_
                                refine gf_goto 214 C dd_Mo_fills_308 (by decide) ?_
                                refine gf_lsub [10, 11, 0, 3, 4, 5, 6, 7, 8, 9] rfl ?_
                                exact ih214_8 w f x305 m3 (by
                                        have e1 : x305.toNat = v.toNat + 1 := by omega
                                        have ewc : pf_cnt (gm_fw μ i c y (μ 66 r) h) (v.toNat + 1) = w + (if r274 = c then 1 else 0) := by
                                          show pf_cnt _ v.toNat + (if gm_fw μ i c y (μ 66 r) h ((v.toNat : Nat) : Int) = true then 1 else 0) = _
                                          rw [show ((v.toNat : Nat) : Int) = v by omega, ← hwv, hfw]
                                          by_cases e : r274 = c
                                          · rw [if_pos (by simpa using e), if_pos e]
                                          · rw [if_neg (by simpa using e), if_neg e]
                                        have eff : gm_ff μ i c y (μ 66 r) h (v.toNat + 1) = if r274 = c ∧ w = 0 then pf_num (gm_fil y h v) (μ 66 r).toNat else f := by
                                          show (if gm_fw μ i c y (μ 66 r) h ((v.toNat : Nat) : Int) = true ∧ pf_cnt (gm_fw μ i c y (μ 66 r) h) v.toNat = 0 then pf_num (gm_fil y h ((v.toNat : Nat) : Int)) (μ 66 r).toNat else gm_ff μ i c y (μ 66 r) h v.toNat) = _
                                          rw [show ((v.toNat : Nat) : Int) = v by omega, ← hwv, ← hfv, hfw]
                                          by_cases e : r274 = c ∧ w = 0
                                          · rw [if_pos (by simpa using e), if_pos e]
                                          · rw [if_neg (by simpa using e), if_neg e]
                                        refine ⟨by omega, by omega, ?_, ?_, by omega, htv, hts2, htf⟩
                                        · rw [e1, ewc]
                                          first | (rw [if_pos (by omega)]; omega) | (rw [if_neg (by omega)]; omega)
                                        · rw [e1, eff]
                                          first | (rw [if_pos (by omega)]; omega) | (rw [if_neg (by omega)])) (by omega)
                              · skip
                                refine gf_iload C dd_Mo_fills_281 9 rfl ?_
                                refine gf_if_ne 298 C dd_Mo_fills_283 (by decide) (by omega) (fun h283 => ?_) (fun h283 => ?_)
                                · skip
                                  refine gf_iload C dd_Mo_fills_298 10 rfl ?_
                                  refine gf_istore (lv' := [(8, .int (gf_i f)), (10, .int (gf_i left)), (11, .int (gf_i t)), (0, .ref (gf_ad E 65)), (1, .int (gf_i i)), (2, .int (gf_i c)), (3, .int (gf_i r)), (4, .int (gf_i x35)), (5, .int (gf_i h)), (6, .int (gf_i x203)), (7, .int (gf_i w)), (9, .int (gf_i v))]) C dd_Mo_fills_300 (by decide) rfl ?_
                                  obtain ⟨x302, hx302⟩ : ∃ y : Int, y = w + 1 := ⟨_, rfl⟩
                                  refine gf_iinc (q := 10) (v := x302) (lv' := [(7, .int (gf_i x302)), (8, .int (gf_i f)), (10, .int (gf_i left)), (11, .int (gf_i t)), (0, .ref (gf_ad E 65)), (1, .int (gf_i i)), (2, .int (gf_i c)), (3, .int (gf_i r)), (4, .int (gf_i x35)), (5, .int (gf_i h)), (6, .int (gf_i x203)), (9, .int (gf_i v))]) C dd_Mo_fills_302 rfl hx302 (by decide) rfl ?_
                                  obtain ⟨x305, hx305⟩ : ∃ y : Int, y = v + 1 := ⟨_, rfl⟩
                                  refine gf_iinc (q := 11) (v := x305) (lv' := [(9, .int (gf_i x305)), (7, .int (gf_i x302)), (8, .int (gf_i f)), (10, .int (gf_i left)), (11, .int (gf_i t)), (0, .ref (gf_ad E 65)), (1, .int (gf_i i)), (2, .int (gf_i c)), (3, .int (gf_i r)), (4, .int (gf_i x35)), (5, .int (gf_i h)), (6, .int (gf_i x203))]) C dd_Mo_fills_305 rfl hx305 (by decide) rfl ?_
                                  refine gf_goto 214 C dd_Mo_fills_308 (by decide) ?_
                                  refine gf_lsub [1, 2, 0, 5, 6, 7, 8, 9, 10, 11] rfl ?_
                                  exact ih214_8 x302 f x305 m3 (by
                                          have e1 : x305.toNat = v.toNat + 1 := by omega
                                          have ewc : pf_cnt (gm_fw μ i c y (μ 66 r) h) (v.toNat + 1) = w + (if r274 = c then 1 else 0) := by
                                            show pf_cnt _ v.toNat + (if gm_fw μ i c y (μ 66 r) h ((v.toNat : Nat) : Int) = true then 1 else 0) = _
                                            rw [show ((v.toNat : Nat) : Int) = v by omega, ← hwv, hfw]
                                            by_cases e : r274 = c
                                            · rw [if_pos (by simpa using e), if_pos e]
                                            · rw [if_neg (by simpa using e), if_neg e]
                                          have eff : gm_ff μ i c y (μ 66 r) h (v.toNat + 1) = if r274 = c ∧ w = 0 then pf_num (gm_fil y h v) (μ 66 r).toNat else f := by
                                            show (if gm_fw μ i c y (μ 66 r) h ((v.toNat : Nat) : Int) = true ∧ pf_cnt (gm_fw μ i c y (μ 66 r) h) v.toNat = 0 then pf_num (gm_fil y h ((v.toNat : Nat) : Int)) (μ 66 r).toNat else gm_ff μ i c y (μ 66 r) h v.toNat) = _
                                            rw [show ((v.toNat : Nat) : Int) = v by omega, ← hwv, ← hfv, hfw]
                                            by_cases e : r274 = c ∧ w = 0
                                            · rw [if_pos (by simpa using e), if_pos e]
                                            · rw [if_neg (by simpa using e), if_neg e]
                                          refine ⟨by omega, by omega, ?_, ?_, by omega, htv, hts2, htf⟩
                                          · rw [e1, ewc]
                                            first | (rw [if_pos (by omega)]; omega) | (rw [if_neg (by omega)]; omega)
                                          · rw [e1, eff]
                                            first | (rw [if_pos (by omega)]; omega) | (rw [if_neg (by omega)])) (by omega)
                                · skip
                                  refine gf_aload_n C dd_Mo_fills_286 2 rfl ?_
                                  refine gf_getA (r := 78) C gf_cl7 fl_Mo_51 dd_Mo_fills_287 rfl (show gf_is 81 65 0 7 26 by decide) (by decide) (by decide) ?_
                                  refine gf_iload C dd_Mo_fills_290 6 rfl ?_
                                  refine gf_callSi (st := []) (As := [.ref (gf_ad E 78), .int (gf_i x35)]) C wk_Mo_232 (ct_Mo_asNumber (gf_xl X) E 78 x35 9 m3 (show gf_is 81 78 1 0 9 by decide) (by omega) hF3) rfl ⟨rfl, rfl, rfl, rfl⟩ (Nat.le_of_ble_eq_true rfl) rfl dd_Mo_fills_292 (fun r292 m292 hR292 hp292 => ?_)
                                  have hr292 := hp292.1
                                  refine gf_pm hp292.2 ?_
                                  have hnum : r292 = pf_num (gm_fil y h v) (μ 66 r).toNat := by
                                    rw [hr292.1, hx35]
                                    exact pf_num_congr _ (fun j h0 h1 => f266 j h0 (by omega))
                                  have hnR := hr292.2
                                  clear hr292 hp292
                                  refine gf_goto 300 C dd_Mo_fills_295 (by decide) ?_
                                  refine gf_istore (lv' := [(8, .int (gf_i r292)), (10, .int (gf_i left)), (11, .int (gf_i t)), (0, .ref (gf_ad E 65)), (1, .int (gf_i i)), (2, .int (gf_i c)), (3, .int (gf_i r)), (4, .int (gf_i x35)), (5, .int (gf_i h)), (6, .int (gf_i x203)), (7, .int (gf_i w)), (9, .int (gf_i v))]) C dd_Mo_fills_300 (by decide) rfl ?_
                                  obtain ⟨x302, hx302⟩ : ∃ y : Int, y = w + 1 := ⟨_, rfl⟩
                                  refine gf_iinc (q := 10) (v := x302) (lv' := [(7, .int (gf_i x302)), (8, .int (gf_i r292)), (10, .int (gf_i left)), (11, .int (gf_i t)), (0, .ref (gf_ad E 65)), (1, .int (gf_i i)), (2, .int (gf_i c)), (3, .int (gf_i r)), (4, .int (gf_i x35)), (5, .int (gf_i h)), (6, .int (gf_i x203)), (9, .int (gf_i v))]) C dd_Mo_fills_302 rfl hx302 (by decide) rfl ?_
                                  obtain ⟨x305, hx305⟩ : ∃ y : Int, y = v + 1 := ⟨_, rfl⟩
                                  refine gf_iinc (q := 11) (v := x305) (lv' := [(9, .int (gf_i x305)), (7, .int (gf_i x302)), (8, .int (gf_i r292)), (10, .int (gf_i left)), (11, .int (gf_i t)), (0, .ref (gf_ad E 65)), (1, .int (gf_i i)), (2, .int (gf_i c)), (3, .int (gf_i r)), (4, .int (gf_i x35)), (5, .int (gf_i h)), (6, .int (gf_i x203))]) C dd_Mo_fills_305 rfl hx305 (by decide) rfl ?_
                                  refine gf_goto 214 C dd_Mo_fills_308 (by decide) ?_
                                  refine gf_lsub [1, 2, 0, 5, 6, 7, 8, 9, 10, 11] rfl ?_
                                  exact ih214_8 x302 r292 x305 m3 (by
                                          have e1 : x305.toNat = v.toNat + 1 := by omega
                                          have ewc : pf_cnt (gm_fw μ i c y (μ 66 r) h) (v.toNat + 1) = w + (if r274 = c then 1 else 0) := by
                                            show pf_cnt _ v.toNat + (if gm_fw μ i c y (μ 66 r) h ((v.toNat : Nat) : Int) = true then 1 else 0) = _
                                            rw [show ((v.toNat : Nat) : Int) = v by omega, ← hwv, hfw]
                                            by_cases e : r274 = c
                                            · rw [if_pos (by simpa using e), if_pos e]
                                            · rw [if_neg (by simpa using e), if_neg e]
                                          have eff : gm_ff μ i c y (μ 66 r) h (v.toNat + 1) = if r274 = c ∧ w = 0 then pf_num (gm_fil y h v) (μ 66 r).toNat else f := by
                                            show (if gm_fw μ i c y (μ 66 r) h ((v.toNat : Nat) : Int) = true ∧ pf_cnt (gm_fw μ i c y (μ 66 r) h) v.toNat = 0 then pf_num (gm_fil y h ((v.toNat : Nat) : Int)) (μ 66 r).toNat else gm_ff μ i c y (μ 66 r) h v.toNat) = _
                                            rw [show ((v.toNat : Nat) : Int) = v by omega, ← hwv, ← hfv, hfw]
                                            by_cases e : r274 = c ∧ w = 0
                                            · rw [if_pos (by simpa using e), if_pos e]
                                            · rw [if_neg (by simpa using e), if_neg e]
                                          refine ⟨by omega, by omega, ?_, ?_, by omega, htv, hts2, htf⟩
                                          · rw [e1, ewc]
                                            first | (rw [if_pos (by omega)]; omega) | (rw [if_neg (by omega)]; omega)
                                          · rw [e1, eff]
                                            first | (rw [if_pos (by omega)]; omega) | (rw [if_neg (by omega)])) (by omega)
                            · skip
                              have hlr := pf_div_R (a := v) (h - 1 - t).toNat hv0
                              rw [← hl] at hlr
                              have hst := hts2.1 t (by omega) (by rw [← hhn]; omega)
                              refine gf_aload_n C dd_Mo_fills_236 2 rfl ?_
                              refine gf_getA (r := 78) C gf_cl7 fl_Mo_51 dd_Mo_fills_237 rfl (show gf_is 81 65 0 7 26 by decide) (by decide) (by decide) ?_
                              refine gf_aload_n C dd_Mo_fills_240 2 rfl ?_
                              refine gf_getA (r := 79) C gf_cl7 fl_Mo_54 dd_Mo_fills_241 rfl (show gf_is 81 65 0 7 26 by decide) (by decide) (by decide) ?_
                              refine gf_iload C dd_Mo_fills_244 1 rfl ?_
                              refine gf_iald C dd_Mo_fills_246 (show gf_is 81 79 1 0 3 by decide) (by omega) (fun hv246 => ?_)
                              refine gf_iload C dd_Mo_fills_247 0 rfl ?_
                              refine gf_bipush C dd_Mo_fills_249 (by decide +kernel) ?_
                              refine gf_irem C dd_Mo_fills_251 (by omega) ?_
                              refine gf_iast C dd_Mo_fills_252 (show gf_is 81 78 1 0 9 by decide) (by omega) (by omega) ?_
                              refine gf_nmM (fun m252 hm252 => ?_)
                              refine gf_iload C dd_Mo_fills_253 0 rfl ?_
                              refine gf_bipush C dd_Mo_fills_255 (by decide +kernel) ?_
                              refine gf_idiv C dd_Mo_fills_257 (by omega) ?_
                              refine gf_nm (fun x258 hx258 => ?_)
                              refine gf_istore (lv' := [(10, .int (gf_i x258)), (11, .int (gf_i t)), (0, .ref (gf_ad E 65)), (1, .int (gf_i i)), (2, .int (gf_i c)), (3, .int (gf_i r)), (4, .int (gf_i x35)), (5, .int (gf_i h)), (6, .int (gf_i x203)), (7, .int (gf_i w)), (8, .int (gf_i f)), (9, .int (gf_i v))]) C dd_Mo_fills_258 (by decide) rfl ?_
                              obtain ⟨x260, hx260⟩ : ∃ y : Int, y = t + (-1) := ⟨_, rfl⟩
                              refine gf_iinc (q := 1) (v := x260) (lv' := [(11, .int (gf_i x260)), (10, .int (gf_i x258)), (0, .ref (gf_ad E 65)), (1, .int (gf_i i)), (2, .int (gf_i c)), (3, .int (gf_i r)), (4, .int (gf_i x35)), (5, .int (gf_i h)), (6, .int (gf_i x203)), (7, .int (gf_i w)), (8, .int (gf_i f)), (9, .int (gf_i v))]) C dd_Mo_fills_260 rfl hx260 (by decide) rfl ?_
                              refine gf_goto 231 C dd_Mo_fills_263 (by decide) ?_
                              refine gf_lsub [1, 0, 2, 3, 4, 5, 6, 7, 8, 9, 10, 11] rfl ?_
                              exact ih231_9 x258 x260 m252 (by
                                      obtain ⟨g1, g2, g3⟩ := hst
                                      refine ⟨by omega, by omega, ?_, fun j h0 h1 h2 => ?_, fun j h0 h1 h2 h3 => ?_, gm_sm_f hts2 (fun b => by rw [hm252, gf_up_k (by decide)]), fun a b h1 h2 => by rw [hm252, gf_up_k h1]; exact htf a b h1 h2⟩
                                      · rw [hx258, hl, pf_div10, show (h - 1 - t).toNat + 1 = (h - 1 - x260).toNat by omega]
                                      · have hne : j ≠ m3 79 t := fun e => h2 (by rw [e]; exact g2)
                                        rw [hm252, gf_up_j hne]; exact htv j h0 h1 h2
                                      · rw [hm252]
                                        by_cases e : gm_hc y j = t
                                        · have h4 := hts2.2 j h0 h1 h2
                                          rw [e] at h4
                                          rw [h4, gf_up_s, e, hl]
                                        · have hne : j ≠ m3 79 t := fun e2 => e (by rw [e2]; exact g3)
                                          rw [gf_up_j hne]; exact htd j h0 h1 h2 (by omega)) (by omega)
                        refine gf_lsub [1, 0, 5, 6, 7, 8, 9, 10, 11, 2, 3, 4] rfl ?_
                        exact L231_9 _ v x229 m (⟨by omega, by omega, by rw [show (h - 1 - x229).toNat = 0 by omega, Int.pow_zero, Int.ediv_one], hvv, fun j h0 h1 h2 h3 => by have := gm_hc_lt (y := y) (k := μ 66 r) h0 h1 h2; omega, hvs, hvf⟩) (Nat.lt_succ_self _)
                  refine gf_lsub [2, 1, 0, 5, 6, 7, 8, 9, 4, 3] rfl ?_
                  exact L214_8 _ 0 0 0 m (⟨by omega, by omega, rfl, rfl, by omega, fun j h0 h1 _ => (hkv j h0 h1).1, hks, hkf⟩) (Nat.lt_succ_self _)
              · skip
                refine gf_aload_n C dd_Mo_fills_78 2 rfl ?_
                refine gf_getA (r := 78) C gf_cl7 fl_Mo_51 dd_Mo_fills_79 rfl (show gf_is 81 65 0 7 26 by decide) (by decide) (by decide) ?_
                refine gf_iload C dd_Mo_fills_82 1 rfl ?_
                refine gf_aload_n C dd_Mo_fills_84 2 rfl ?_
                refine gf_getA (r := 67) C gf_cl7 fl_Mo_13 dd_Mo_fills_85 rfl (show gf_is 81 65 0 7 26 by decide) (by decide) (by decide) ?_
                refine gf_bipush C dd_Mo_fills_88 (by decide +kernel) ?_
                refine gf_iload_n C dd_Mo_fills_90 5 rfl ?_
                refine gf_imul C dd_Mo_fills_91 ?_
                refine gf_iload C dd_Mo_fills_92 1 rfl ?_
                refine gf_iadd C dd_Mo_fills_94 ?_
                refine gf_iald C dd_Mo_fills_95 (show gf_is 81 67 1 0 240 by decide) (by omega) (fun hv95 => ?_)
                refine gf_iast C dd_Mo_fills_96 (show gf_is 81 78 1 0 9 by decide) (by omega) (by omega) ?_
                refine gf_nmM (fun m96 hm96 => ?_)
                have f96 : m96 78 k = y k := by rw [hm96, gf_up_s, hkf 67 _ (by decide) (by decide), hy]; rfl
                have o96 : ∀ a b : Int, a ≠ 78 → m96 a b = m a b := fun a b h => by rw [hm96]; exact gf_up_k h
                have s96 : gm_sm y m96 k := gm_sm_f hks (fun b => o96 79 b (by decide))
                refine gf_aload_n C dd_Mo_fills_97 2 rfl ?_
                refine gf_getA (r := 78) C gf_cl7 fl_Mo_51 dd_Mo_fills_98 rfl (show gf_is 81 65 0 7 26 by decide) (by decide) (by decide) ?_
                refine gf_iload C dd_Mo_fills_101 1 rfl ?_
                refine gf_iald C dd_Mo_fills_103 (show gf_is 81 78 1 0 9 by decide) (by omega) (fun hv103 => ?_)
                refine gf_gi2l C dd_Mo_fills_104 (by omega) ?_
                refine gf_ldc2 (-1) C dd_Mo_fills_105 ck_Mo_242 (by decide +kernel) ?_
                refine gf_ldc2 9 C dd_Mo_fills_108 ck_Mo_129 (by decide +kernel) ?_
                refine gf_callSi (st := []) (As := [.long (gf_l (m96 78 k)), .long (gf_l (-1)), .long (gf_l 9)]) C wk_Mo_69 (ct_Mo_in (gf_xl X) E (m96 78 k) (-1) 9 m96 (by omega) (by omega) (by omega)) rfl ⟨rfl, rfl, rfl, rfl⟩ (Nat.le_of_ble_eq_true rfl) rfl dd_Mo_fills_111 (fun r111 m111 hR111 hp111 => ?_)
                have hr111 := hp111.1
                refine gf_pm hp111.2 ?_
                refine gf_if_eq 134 C dd_Mo_fills_114 (by decide) (by omega) (fun h114 => ?_) (fun h114 => ?_)
                · skip
                  have hbad : ¬ ((∀ j : Int, 0 ≤ j → j < μ 66 r → -1 ≤ y j ∧ y j ≤ 9) ∧ pf_cnt (fun j => decide (y j = -1)) (μ 66 r).toNat ≤ 3) := fun h => by
                    have := h.1 k (by omega) (by omega)
                    omega
                  refine gf_aload_n C dd_Mo_fills_134 2 rfl ?_
                  refine gf_iconst C dd_Mo_fills_135 ?_
                  refine gf_callVi (st := []) (As := [.int (gf_i 3)]) C wk_Mo_77 gf_cl7 (show gf_is 81 65 0 7 26 by decide) (ct_Mo_find (gf_xl X) E 3 m96 (by omega)) rfl ⟨rfl, rfl, rfl, rfl⟩ (Nat.le_of_ble_eq_true rfl) rfl dd_Mo_fills_136 (fun r136 m136 hR136 hp136 => ?_)
                  refine gf_iret C hQ dd_Mo_fills_139 (by omega) ?_
                  refine ⟨fun h => absurd h (by omega), fun _ => ⟨fun h => absurd h (by omega), fun _ => ⟨fun h => absurd h (by omega), fun _ => ⟨fun _ => ⟨hp136.1, ?_⟩, fun h => absurd h hbad⟩⟩⟩⟩
                  rw [hp136.2]
                  exact gm_fd_sc (fun a b hab => by unfold gm_scr at hab; rw [o96 a b (by omega)]; exact hkf a b (by omega) (by omega))
                · skip
                  refine gf_aload_n C dd_Mo_fills_117 2 rfl ?_
                  refine gf_getA (r := 78) C gf_cl7 fl_Mo_51 dd_Mo_fills_118 rfl (show gf_is 81 65 0 7 26 by decide) (by decide) (by decide) ?_
                  refine gf_iload C dd_Mo_fills_121 1 rfl ?_
                  refine gf_iald C dd_Mo_fills_123 (show gf_is 81 78 1 0 9 by decide) (by omega) (fun hv123 => ?_)
                  refine gf_iconst C dd_Mo_fills_124 ?_
                  refine gf_icmp_ne 140 C dd_Mo_fills_125 (by decide) (by omega) (by omega) (fun h125 => ?_) (fun h125 => ?_)
                  · skip
                    have hykR : -1 ≤ y k ∧ y k ≤ 9 := by omega
                    have hhs := gm_hc_s (y := y) hk0
                    refine gf_aload_n C dd_Mo_fills_140 2 rfl ?_
                    refine gf_getA (r := 78) C gf_cl7 fl_Mo_51 dd_Mo_fills_141 rfl (show gf_is 81 65 0 7 26 by decide) (by decide) (by decide) ?_
                    refine gf_iload C dd_Mo_fills_144 1 rfl ?_
                    refine gf_iald C dd_Mo_fills_146 (show gf_is 81 78 1 0 9 by decide) (by omega) (fun hv146 => ?_)
                    refine gf_iconst C dd_Mo_fills_147 ?_
                    refine gf_icmp_ne 163 C dd_Mo_fills_148 (by decide) (by omega) (by omega) (fun h148 => ?_) (fun h148 => ?_)
                    · skip
                      obtain ⟨x163, hx163⟩ : ∃ y : Int, y = k + 1 := ⟨_, rfl⟩
                      refine gf_iinc (q := 1) (v := x163) (lv' := [(6, .int (gf_i x163)), (5, .int (gf_i h)), (0, .ref (gf_ad E 65)), (1, .int (gf_i i)), (2, .int (gf_i c)), (3, .int (gf_i r)), (4, .int (gf_i x35))]) C dd_Mo_fills_163 rfl hx163 (by decide) rfl ?_
                      refine gf_goto 71 C dd_Mo_fills_166 (by decide) ?_
                      refine gf_lsub [1, 0, 2, 3, 4, 5, 6] rfl ?_
                      exact ih71_1 h x163 m96 (by
                              have e1 : x163 = k + 1 := by omega
                              first
                              | (have hyk : y k = -1 := by omega
                                 rw [if_pos hyk] at hhs
                                 have o159 : ∀ a b : Int, a ≠ 79 → m159 a b = m96 a b := fun a b h => by rw [hm159]; exact gf_up_k h
                                 refine ⟨by omega, by omega, by rw [e1, hhs]; omega, by omega, fun j h0 h1 => ?_, ⟨fun t h0 h1 => ?_, fun j h0 h1 h2 => ?_⟩, fun a b h1 h2 => by rw [o159 a b h2, o96 a b h1]; exact hkf a b h1 h2⟩
                                 · rw [o159 78 j (by decide)]
                                   by_cases e : j = k
                                   · rw [e]; exact ⟨f96, by omega, by omega⟩
                                   · rw [hm96, gf_up_j e]; exact hkv j h0 (by omega)
                                 · rw [e1, hhs] at h1
                                   rw [hm159]
                                   by_cases e : t = h
                                   · rw [e, gf_up_s]; exact ⟨by omega, hyk, by omega⟩
                                   · rw [gf_up_j e]
                                     obtain ⟨g1, g2, g3⟩ := s96.1 t h0 (by omega)
                                     exact ⟨by omega, g2, g3⟩
                                 · rw [hm159]
                                   by_cases e : j = k
                                   · rw [e, ← hh, gf_up_s]
                                   · have h3 := gm_hc_lt (y := y) (k := k) h0 (by omega) h2
                                     rw [gf_up_j (by omega)]
                                     exact s96.2 j h0 (by omega) h2)
                              | (have hyk : y k ≠ -1 := by omega
                                 rw [if_neg hyk] at hhs
                                 refine ⟨by omega, by omega, by rw [e1, hhs]; omega, by omega, fun j h0 h1 => ?_, ⟨fun t h0 h1 => ?_, fun j h0 h1 h2 => ?_⟩, fun a b h1 h2 => by rw [o96 a b h1]; exact hkf a b h1 h2⟩
                                 · by_cases e : j = k
                                   · rw [e]; exact ⟨f96, by omega, by omega⟩
                                   · rw [hm96, gf_up_j e]; exact hkv j h0 (by omega)
                                 · rw [e1, hhs] at h1
                                   obtain ⟨g1, g2, g3⟩ := s96.1 t h0 (by omega)
                                   exact ⟨by omega, g2, g3⟩
                                 · have hne : j ≠ k := fun e => hyk (by rw [← e]; exact h2)
                                   exact s96.2 j h0 (by omega) h2)) (by omega)
                    · skip
                      refine gf_aload_n C dd_Mo_fills_151 2 rfl ?_
                      refine gf_getA (r := 79) C gf_cl7 fl_Mo_54 dd_Mo_fills_152 rfl (show gf_is 81 65 0 7 26 by decide) (by decide) (by decide) ?_
                      refine gf_iload C dd_Mo_fills_155 0 rfl ?_
                      refine gf_iload C dd_Mo_fills_157 1 rfl ?_
                      refine gf_iast C dd_Mo_fills_159 (show gf_is 81 79 1 0 3 by decide) (by omega) (by omega) ?_
                      refine gf_nmM (fun m159 hm159 => ?_)
                      obtain ⟨x160, hx160⟩ : ∃ y : Int, y = h + 1 := ⟨_, rfl⟩
                      refine gf_iinc (q := 0) (v := x160) (lv' := [(5, .int (gf_i x160)), (6, .int (gf_i k)), (0, .ref (gf_ad E 65)), (1, .int (gf_i i)), (2, .int (gf_i c)), (3, .int (gf_i r)), (4, .int (gf_i x35))]) C dd_Mo_fills_160 rfl hx160 (by decide) rfl ?_
                      obtain ⟨x163, hx163⟩ : ∃ y : Int, y = k + 1 := ⟨_, rfl⟩
                      refine gf_iinc (q := 1) (v := x163) (lv' := [(6, .int (gf_i x163)), (5, .int (gf_i x160)), (0, .ref (gf_ad E 65)), (1, .int (gf_i i)), (2, .int (gf_i c)), (3, .int (gf_i r)), (4, .int (gf_i x35))]) C dd_Mo_fills_163 rfl hx163 (by decide) rfl ?_
                      refine gf_goto 71 C dd_Mo_fills_166 (by decide) ?_
                      refine gf_lsub [1, 0, 2, 3, 4, 5, 6] rfl ?_
                      exact ih71_1 x160 x163 m159 (by
                              have e1 : x163 = k + 1 := by omega
                              first
                              | (have hyk : y k = -1 := by omega
                                 rw [if_pos hyk] at hhs
                                 have o159 : ∀ a b : Int, a ≠ 79 → m159 a b = m96 a b := fun a b h => by rw [hm159]; exact gf_up_k h
                                 refine ⟨by omega, by omega, by rw [e1, hhs]; omega, by omega, fun j h0 h1 => ?_, ⟨fun t h0 h1 => ?_, fun j h0 h1 h2 => ?_⟩, fun a b h1 h2 => by rw [o159 a b h2, o96 a b h1]; exact hkf a b h1 h2⟩
                                 · rw [o159 78 j (by decide)]
                                   by_cases e : j = k
                                   · rw [e]; exact ⟨f96, by omega, by omega⟩
                                   · rw [hm96, gf_up_j e]; exact hkv j h0 (by omega)
                                 · rw [e1, hhs] at h1
                                   rw [hm159]
                                   by_cases e : t = h
                                   · rw [e, gf_up_s]; exact ⟨by omega, hyk, by omega⟩
                                   · rw [gf_up_j e]
                                     obtain ⟨g1, g2, g3⟩ := s96.1 t h0 (by omega)
                                     exact ⟨by omega, g2, g3⟩
                                 · rw [hm159]
                                   by_cases e : j = k
                                   · rw [e, ← hh, gf_up_s]
                                   · have h3 := gm_hc_lt (y := y) (k := k) h0 (by omega) h2
                                     rw [gf_up_j (by omega)]
                                     exact s96.2 j h0 (by omega) h2)
                              | (have hyk : y k ≠ -1 := by omega
                                 rw [if_neg hyk] at hhs
                                 refine ⟨by omega, by omega, by rw [e1, hhs]; omega, by omega, fun j h0 h1 => ?_, ⟨fun t h0 h1 => ?_, fun j h0 h1 h2 => ?_⟩, fun a b h1 h2 => by rw [o96 a b h1]; exact hkf a b h1 h2⟩
                                 · by_cases e : j = k
                                   · rw [e]; exact ⟨f96, by omega, by omega⟩
                                   · rw [hm96, gf_up_j e]; exact hkv j h0 (by omega)
                                 · rw [e1, hhs] at h1
                                   obtain ⟨g1, g2, g3⟩ := s96.1 t h0 (by omega)
                                   exact ⟨by omega, g2, g3⟩
                                 · have hne : j ≠ k := fun e => hyk (by rw [← e]; exact h2)
                                   exact s96.2 j h0 (by omega) h2)) (by omega)
                  · skip
                    refine gf_iload C dd_Mo_fills_128 0 rfl ?_
                    refine gf_iconst C dd_Mo_fills_130 ?_
                    refine gf_icmp_ne 140 C dd_Mo_fills_131 (by decide) (by omega) (by omega) (fun h131 => ?_) (fun h131 => ?_)
                    · skip
                      have hykR : -1 ≤ y k ∧ y k ≤ 9 := by omega
                      have hhs := gm_hc_s (y := y) hk0
                      refine gf_aload_n C dd_Mo_fills_140 2 rfl ?_
                      refine gf_getA (r := 78) C gf_cl7 fl_Mo_51 dd_Mo_fills_141 rfl (show gf_is 81 65 0 7 26 by decide) (by decide) (by decide) ?_
                      refine gf_iload C dd_Mo_fills_144 1 rfl ?_
                      refine gf_iald C dd_Mo_fills_146 (show gf_is 81 78 1 0 9 by decide) (by omega) (fun hv146 => ?_)
                      refine gf_iconst C dd_Mo_fills_147 ?_
                      refine gf_icmp_ne 163 C dd_Mo_fills_148 (by decide) (by omega) (by omega) (fun h148 => ?_) (fun h148 => ?_)
                      · skip
                        obtain ⟨x163, hx163⟩ : ∃ y : Int, y = k + 1 := ⟨_, rfl⟩
                        refine gf_iinc (q := 1) (v := x163) (lv' := [(6, .int (gf_i x163)), (5, .int (gf_i h)), (0, .ref (gf_ad E 65)), (1, .int (gf_i i)), (2, .int (gf_i c)), (3, .int (gf_i r)), (4, .int (gf_i x35))]) C dd_Mo_fills_163 rfl hx163 (by decide) rfl ?_
                        refine gf_goto 71 C dd_Mo_fills_166 (by decide) ?_
                        refine gf_lsub [1, 0, 2, 3, 4, 5, 6] rfl ?_
                        exact ih71_1 h x163 m96 (by
                                have e1 : x163 = k + 1 := by omega
                                first
                                | (have hyk : y k = -1 := by omega
                                   rw [if_pos hyk] at hhs
                                   have o159 : ∀ a b : Int, a ≠ 79 → m159 a b = m96 a b := fun a b h => by rw [hm159]; exact gf_up_k h
                                   refine ⟨by omega, by omega, by rw [e1, hhs]; omega, by omega, fun j h0 h1 => ?_, ⟨fun t h0 h1 => ?_, fun j h0 h1 h2 => ?_⟩, fun a b h1 h2 => by rw [o159 a b h2, o96 a b h1]; exact hkf a b h1 h2⟩
                                   · rw [o159 78 j (by decide)]
                                     by_cases e : j = k
                                     · rw [e]; exact ⟨f96, by omega, by omega⟩
                                     · rw [hm96, gf_up_j e]; exact hkv j h0 (by omega)
                                   · rw [e1, hhs] at h1
                                     rw [hm159]
                                     by_cases e : t = h
                                     · rw [e, gf_up_s]; exact ⟨by omega, hyk, by omega⟩
                                     · rw [gf_up_j e]
                                       obtain ⟨g1, g2, g3⟩ := s96.1 t h0 (by omega)
                                       exact ⟨by omega, g2, g3⟩
                                   · rw [hm159]
                                     by_cases e : j = k
                                     · rw [e, ← hh, gf_up_s]
                                     · have h3 := gm_hc_lt (y := y) (k := k) h0 (by omega) h2
                                       rw [gf_up_j (by omega)]
                                       exact s96.2 j h0 (by omega) h2)
                                | (have hyk : y k ≠ -1 := by omega
                                   rw [if_neg hyk] at hhs
                                   refine ⟨by omega, by omega, by rw [e1, hhs]; omega, by omega, fun j h0 h1 => ?_, ⟨fun t h0 h1 => ?_, fun j h0 h1 h2 => ?_⟩, fun a b h1 h2 => by rw [o96 a b h1]; exact hkf a b h1 h2⟩
                                   · by_cases e : j = k
                                     · rw [e]; exact ⟨f96, by omega, by omega⟩
                                     · rw [hm96, gf_up_j e]; exact hkv j h0 (by omega)
                                   · rw [e1, hhs] at h1
                                     obtain ⟨g1, g2, g3⟩ := s96.1 t h0 (by omega)
                                     exact ⟨by omega, g2, g3⟩
                                   · have hne : j ≠ k := fun e => hyk (by rw [← e]; exact h2)
                                     exact s96.2 j h0 (by omega) h2)) (by omega)
                      · skip
                        refine gf_aload_n C dd_Mo_fills_151 2 rfl ?_
                        refine gf_getA (r := 79) C gf_cl7 fl_Mo_54 dd_Mo_fills_152 rfl (show gf_is 81 65 0 7 26 by decide) (by decide) (by decide) ?_
                        refine gf_iload C dd_Mo_fills_155 0 rfl ?_
                        refine gf_iload C dd_Mo_fills_157 1 rfl ?_
                        refine gf_iast C dd_Mo_fills_159 (show gf_is 81 79 1 0 3 by decide) (by omega) (by omega) ?_
                        refine gf_nmM (fun m159 hm159 => ?_)
                        obtain ⟨x160, hx160⟩ : ∃ y : Int, y = h + 1 := ⟨_, rfl⟩
                        refine gf_iinc (q := 0) (v := x160) (lv' := [(5, .int (gf_i x160)), (6, .int (gf_i k)), (0, .ref (gf_ad E 65)), (1, .int (gf_i i)), (2, .int (gf_i c)), (3, .int (gf_i r)), (4, .int (gf_i x35))]) C dd_Mo_fills_160 rfl hx160 (by decide) rfl ?_
                        obtain ⟨x163, hx163⟩ : ∃ y : Int, y = k + 1 := ⟨_, rfl⟩
                        refine gf_iinc (q := 1) (v := x163) (lv' := [(6, .int (gf_i x163)), (5, .int (gf_i x160)), (0, .ref (gf_ad E 65)), (1, .int (gf_i i)), (2, .int (gf_i c)), (3, .int (gf_i r)), (4, .int (gf_i x35))]) C dd_Mo_fills_163 rfl hx163 (by decide) rfl ?_
                        refine gf_goto 71 C dd_Mo_fills_166 (by decide) ?_
                        refine gf_lsub [1, 0, 2, 3, 4, 5, 6] rfl ?_
                        exact ih71_1 x160 x163 m159 (by
                                have e1 : x163 = k + 1 := by omega
                                first
                                | (have hyk : y k = -1 := by omega
                                   rw [if_pos hyk] at hhs
                                   have o159 : ∀ a b : Int, a ≠ 79 → m159 a b = m96 a b := fun a b h => by rw [hm159]; exact gf_up_k h
                                   refine ⟨by omega, by omega, by rw [e1, hhs]; omega, by omega, fun j h0 h1 => ?_, ⟨fun t h0 h1 => ?_, fun j h0 h1 h2 => ?_⟩, fun a b h1 h2 => by rw [o159 a b h2, o96 a b h1]; exact hkf a b h1 h2⟩
                                   · rw [o159 78 j (by decide)]
                                     by_cases e : j = k
                                     · rw [e]; exact ⟨f96, by omega, by omega⟩
                                     · rw [hm96, gf_up_j e]; exact hkv j h0 (by omega)
                                   · rw [e1, hhs] at h1
                                     rw [hm159]
                                     by_cases e : t = h
                                     · rw [e, gf_up_s]; exact ⟨by omega, hyk, by omega⟩
                                     · rw [gf_up_j e]
                                       obtain ⟨g1, g2, g3⟩ := s96.1 t h0 (by omega)
                                       exact ⟨by omega, g2, g3⟩
                                   · rw [hm159]
                                     by_cases e : j = k
                                     · rw [e, ← hh, gf_up_s]
                                     · have h3 := gm_hc_lt (y := y) (k := k) h0 (by omega) h2
                                       rw [gf_up_j (by omega)]
                                       exact s96.2 j h0 (by omega) h2)
                                | (have hyk : y k ≠ -1 := by omega
                                   rw [if_neg hyk] at hhs
                                   refine ⟨by omega, by omega, by rw [e1, hhs]; omega, by omega, fun j h0 h1 => ?_, ⟨fun t h0 h1 => ?_, fun j h0 h1 h2 => ?_⟩, fun a b h1 h2 => by rw [o96 a b h1]; exact hkf a b h1 h2⟩
                                   · by_cases e : j = k
                                     · rw [e]; exact ⟨f96, by omega, by omega⟩
                                     · rw [hm96, gf_up_j e]; exact hkv j h0 (by omega)
                                   · rw [e1, hhs] at h1
                                     obtain ⟨g1, g2, g3⟩ := s96.1 t h0 (by omega)
                                     exact ⟨by omega, g2, g3⟩
                                   · have hne : j ≠ k := fun e => hyk (by rw [← e]; exact h2)
                                     exact s96.2 j h0 (by omega) h2)) (by omega)
                    · skip
                      have hbad : ¬ ((∀ j : Int, 0 ≤ j → j < μ 66 r → -1 ≤ y j ∧ y j ≤ 9) ∧ pf_cnt (fun j => decide (y j = -1)) (μ 66 r).toNat ≤ 3) := fun h => by
                        have h1 : pf_cnt (fun j => decide (y j = -1)) (μ 66 r).toNat ≤ 3 := h.2
                        have h2 := gm_hc_lt (y := y) (k := μ 66 r) hk0 (by omega) (by omega)
                        have h3 : gm_hc y (μ 66 r) = pf_cnt (fun j => decide (y j = -1)) (μ 66 r).toNat := rfl
                        omega
                      refine gf_aload_n C dd_Mo_fills_134 2 rfl ?_
                      refine gf_iconst C dd_Mo_fills_135 ?_
                      refine gf_callVi (st := []) (As := [.int (gf_i 3)]) C wk_Mo_77 gf_cl7 (show gf_is 81 65 0 7 26 by decide) (ct_Mo_find (gf_xl X) E 3 m96 (by omega)) rfl ⟨rfl, rfl, rfl, rfl⟩ (Nat.le_of_ble_eq_true rfl) rfl dd_Mo_fills_136 (fun r136 m136 hR136 hp136 => ?_)
                      refine gf_iret C hQ dd_Mo_fills_139 (by omega) ?_
                      refine ⟨fun h => absurd h (by omega), fun _ => ⟨fun h => absurd h (by omega), fun _ => ⟨fun h => absurd h (by omega), fun _ => ⟨fun _ => ⟨hp136.1, ?_⟩, fun h => absurd h hbad⟩⟩⟩⟩
                      rw [hp136.2]
                      exact gm_fd_sc (fun a b hab => by unfold gm_scr at hab; rw [o96 a b (by omega)]; exact hkf a b (by omega) (by omega))
          refine gf_lsub [1, 0, 3, 4, 5, 6, 2] rfl ?_
          exact L71_1 _ 0 0 μ (⟨by omega, by omega, rfl, by omega, fun j h0 h1 => by omega, ⟨fun t h0 h1 => by have : gm_hc y 0 = 0 := rfl; omega, fun j h0 h1 => by omega⟩, fun a b _ _ => rfl⟩) (Nat.lt_succ_self _)
        · skip
          refine gf_aload_n C dd_Mo_fills_50 1 rfl ?_
          refine gf_iload C dd_Mo_fills_51 0 rfl ?_
          refine gf_if_ge 60 C dd_Mo_fills_53 (by decide) (by omega) (fun h53 => ?_) (fun h53 => ?_)
          · skip
            refine gf_iconst C dd_Mo_fills_60 ?_
            refine gf_callVi (st := []) (As := [.int (gf_i 5)]) C wk_Mo_77 gf_cl7 (show gf_is 81 65 0 7 26 by decide) (ct_Mo_find (gf_xl X) E 5 μ (by omega)) rfl ⟨rfl, rfl, rfl, rfl⟩ (Nat.le_of_ble_eq_true rfl) rfl dd_Mo_fills_61 (fun r61 m61 hR61 hp61 => ?_)
            refine gf_iret C hQ dd_Mo_fills_64 (by omega) ?_
            first
            | (exfalso; omega)
            | exact ⟨fun h => absurd h (by omega), fun _ => ⟨fun _ => hp61, fun h => absurd h (by omega)⟩⟩
            | exact ⟨fun h => absurd h (by omega), fun _ => ⟨fun h => absurd h (by omega), fun _ => ⟨fun _ => hp61, fun h => absurd h (by omega)⟩⟩⟩
          · skip
            refine gf_iconst C dd_Mo_fills_56 ?_
            refine gf_goto 61 C dd_Mo_fills_57 (by decide) ?_
            refine gf_callVi (st := []) (As := [.int (gf_i 1)]) C wk_Mo_77 gf_cl7 (show gf_is 81 65 0 7 26 by decide) (ct_Mo_find (gf_xl X) E 1 μ (by omega)) rfl ⟨rfl, rfl, rfl, rfl⟩ (Nat.le_of_ble_eq_true rfl) rfl dd_Mo_fills_61 (fun r61 m61 hR61 hp61 => ?_)
            refine gf_iret C hQ dd_Mo_fills_64 (by omega) ?_
            first
            | (exfalso; omega)
            | exact ⟨fun h => absurd h (by omega), fun _ => ⟨fun _ => hp61, fun h => absurd h (by omega)⟩⟩
            | exact ⟨fun h => absurd h (by omega), fun _ => ⟨fun h => absurd h (by omega), fun _ => ⟨fun _ => hp61, fun h => absurd h (by omega)⟩⟩⟩
      · skip
        refine gf_iconst C dd_Mo_fills_27 ?_
        refine gf_iret C hQ dd_Mo_fills_28 (by omega) ?_
        exact ⟨fun _ => ⟨rfl, rfl⟩, fun h => absurd h (by omega)⟩
