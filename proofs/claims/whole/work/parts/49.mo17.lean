/-! the reference: the digest -/
def gm_dgG (μ : gf_M) (h : Int) : Nat → Int
  | 0 => h
  | i + 1 => pf_dig (gm_dgG μ h i) (gm_og μ i) 5
def gm_dgR (μ : gf_M) (s p w h : Int) : Nat → Int
  | 0 => h
  | r + 1 => pf_dig (31 * gm_dgR μ s p w h r + μ s r) (fun j => μ p (w * r + j)) (μ s r).toNat
noncomputable def gm_H1 (μ : gf_M) : Int := pf_dig 17 (gm_cn μ) 11
noncomputable def gm_H2 (μ : gf_M) : Int := gm_dgG μ (gm_H1 μ) (μ 71 0).toNat
noncomputable def gm_H3 (μ : gf_M) : Int := pf_dig (gm_H2 μ) (μ 74) 3
noncomputable def gm_H4 (μ : gf_M) : Int := gm_dgR μ 66 67 40 (gm_H3 μ) 6
noncomputable def gm_digest (μ : gf_M) : Int := gm_dgR μ 68 69 60 (gm_H4 μ) 4
theorem gm_og_f {μ m : gf_M} (h : ∀ b : Int, m 71 b = μ 71 b) (i w : Int) : gm_og m i w = gm_og μ i w := by
  unfold gm_og
  rw [gm_uS_f h, gm_rk_f h, h, h, h, h, show gm_x m = gm_x μ from funext fun j => h _]
theorem gm_cn_f {μ m : gf_M} (hs : gm_sc m μ) (w : Int) : gm_cn m w = gm_cn μ w := by
  have h := gm_sc_71 hs
  have h66 : ∀ b : Int, m 66 b = μ 66 b := fun b => hs 66 b (by unfold gm_scr; omega)
  have h68 : ∀ b : Int, m 68 b = μ 68 b := fun b => hs 68 b (by unfold gm_scr; omega)
  have h74 : ∀ b : Int, m 74 b = μ 74 b := fun b => hs 74 b (by unfold gm_scr; omega)
  unfold gm_cn gm_uS gm_x gm_rk
  rw [show m 71 = μ 71 from funext h, show m 66 = μ 66 from funext h66, show m 68 = μ 68 from funext h68, show m 74 = μ 74 from funext h74]
theorem dd_Mo_digest_0 : decode cc_Mo_digest 0 = .ok (.ldc2_w 289, 3) := by decide +kernel
theorem dd_Mo_digest_3 : decode cc_Mo_digest 3 = .ok (.lstore_n 1, 1) := by decide +kernel
theorem dd_Mo_digest_4 : decode cc_Mo_digest 4 = .ok (.iconst 0, 1) := by decide +kernel
theorem dd_Mo_digest_5 : decode cc_Mo_digest 5 = .ok (.istore_n 3, 1) := by decide +kernel
theorem dd_Mo_digest_6 : decode cc_Mo_digest 6 = .ok (.iload_n 3, 1) := by decide +kernel
theorem dd_Mo_digest_7 : decode cc_Mo_digest 7 = .ok (.bipush 11, 2) := by decide +kernel
theorem dd_Mo_digest_9 : decode cc_Mo_digest 9 = .ok (.if_icmp .ge 22, 3) := by decide +kernel
theorem dd_Mo_digest_12 : decode cc_Mo_digest 12 = .ok (.ldc2_w 291, 3) := by decide +kernel
theorem dd_Mo_digest_15 : decode cc_Mo_digest 15 = .ok (.lload_n 1, 1) := by decide +kernel
theorem dd_Mo_digest_16 : decode cc_Mo_digest 16 = .ok (.lmul, 1) := by decide +kernel
theorem dd_Mo_digest_17 : decode cc_Mo_digest 17 = .ok (.aload_n 0, 1) := by decide +kernel
theorem dd_Mo_digest_18 : decode cc_Mo_digest 18 = .ok (.iload_n 3, 1) := by decide +kernel
theorem dd_Mo_digest_19 : decode cc_Mo_digest 19 = .ok (.invokevirtual 293, 3) := by decide +kernel
theorem dd_Mo_digest_22 : decode cc_Mo_digest 22 = .ok (.i2l, 1) := by decide +kernel
theorem dd_Mo_digest_23 : decode cc_Mo_digest 23 = .ok (.ladd, 1) := by decide +kernel
theorem dd_Mo_digest_24 : decode cc_Mo_digest 24 = .ok (.lstore_n 1, 1) := by decide +kernel
theorem dd_Mo_digest_25 : decode cc_Mo_digest 25 = .ok (.iinc 3 1, 3) := by decide +kernel
theorem dd_Mo_digest_28 : decode cc_Mo_digest 28 = .ok (.goto (-22), 3) := by decide +kernel
theorem dd_Mo_digest_31 : decode cc_Mo_digest 31 = .ok (.iconst 0, 1) := by decide +kernel
theorem dd_Mo_digest_32 : decode cc_Mo_digest 32 = .ok (.istore_n 3, 1) := by decide +kernel
theorem dd_Mo_digest_33 : decode cc_Mo_digest 33 = .ok (.iload_n 3, 1) := by decide +kernel
theorem dd_Mo_digest_34 : decode cc_Mo_digest 34 = .ok (.aload_n 0, 1) := by decide +kernel
theorem dd_Mo_digest_35 : decode cc_Mo_digest 35 = .ok (.getfield 30, 3) := by decide +kernel
theorem dd_Mo_digest_38 : decode cc_Mo_digest 38 = .ok (.iconst 0, 1) := by decide +kernel
theorem dd_Mo_digest_39 : decode cc_Mo_digest 39 = .ok (.iaload, 1) := by decide +kernel
theorem dd_Mo_digest_40 : decode cc_Mo_digest 40 = .ok (.if_icmp .ge 39, 3) := by decide +kernel
theorem dd_Mo_digest_43 : decode cc_Mo_digest 43 = .ok (.iconst 0, 1) := by decide +kernel
theorem dd_Mo_digest_44 : decode cc_Mo_digest 44 = .ok (.istore 4, 2) := by decide +kernel
theorem dd_Mo_digest_46 : decode cc_Mo_digest 46 = .ok (.iload 4, 2) := by decide +kernel
theorem dd_Mo_digest_48 : decode cc_Mo_digest 48 = .ok (.iconst 5, 1) := by decide +kernel
theorem dd_Mo_digest_49 : decode cc_Mo_digest 49 = .ok (.if_icmp .ge 24, 3) := by decide +kernel
theorem dd_Mo_digest_52 : decode cc_Mo_digest 52 = .ok (.ldc2_w 291, 3) := by decide +kernel
theorem dd_Mo_digest_55 : decode cc_Mo_digest 55 = .ok (.lload_n 1, 1) := by decide +kernel
theorem dd_Mo_digest_56 : decode cc_Mo_digest 56 = .ok (.lmul, 1) := by decide +kernel
theorem dd_Mo_digest_57 : decode cc_Mo_digest 57 = .ok (.aload_n 0, 1) := by decide +kernel
theorem dd_Mo_digest_58 : decode cc_Mo_digest 58 = .ok (.iload_n 3, 1) := by decide +kernel
theorem dd_Mo_digest_59 : decode cc_Mo_digest 59 = .ok (.iload 4, 2) := by decide +kernel
theorem dd_Mo_digest_61 : decode cc_Mo_digest 61 = .ok (.invokevirtual 191, 3) := by decide +kernel
theorem dd_Mo_digest_64 : decode cc_Mo_digest 64 = .ok (.i2l, 1) := by decide +kernel
theorem dd_Mo_digest_65 : decode cc_Mo_digest 65 = .ok (.ladd, 1) := by decide +kernel
theorem dd_Mo_digest_66 : decode cc_Mo_digest 66 = .ok (.lstore_n 1, 1) := by decide +kernel
theorem dd_Mo_digest_67 : decode cc_Mo_digest 67 = .ok (.iinc 4 1, 3) := by decide +kernel
theorem dd_Mo_digest_70 : decode cc_Mo_digest 70 = .ok (.goto (-24), 3) := by decide +kernel
theorem dd_Mo_digest_73 : decode cc_Mo_digest 73 = .ok (.iinc 3 1, 3) := by decide +kernel
theorem dd_Mo_digest_76 : decode cc_Mo_digest 76 = .ok (.goto (-43), 3) := by decide +kernel
theorem dd_Mo_digest_79 : decode cc_Mo_digest 79 = .ok (.iconst 0, 1) := by decide +kernel
theorem dd_Mo_digest_80 : decode cc_Mo_digest 80 = .ok (.istore_n 3, 1) := by decide +kernel
theorem dd_Mo_digest_81 : decode cc_Mo_digest 81 = .ok (.iload_n 3, 1) := by decide +kernel
theorem dd_Mo_digest_82 : decode cc_Mo_digest 82 = .ok (.iconst 3, 1) := by decide +kernel
theorem dd_Mo_digest_83 : decode cc_Mo_digest 83 = .ok (.if_icmp .ge 23, 3) := by decide +kernel
theorem dd_Mo_digest_86 : decode cc_Mo_digest 86 = .ok (.ldc2_w 291, 3) := by decide +kernel
theorem dd_Mo_digest_89 : decode cc_Mo_digest 89 = .ok (.lload_n 1, 1) := by decide +kernel
theorem dd_Mo_digest_90 : decode cc_Mo_digest 90 = .ok (.lmul, 1) := by decide +kernel
theorem dd_Mo_digest_91 : decode cc_Mo_digest 91 = .ok (.aload_n 0, 1) := by decide +kernel
theorem dd_Mo_digest_92 : decode cc_Mo_digest 92 = .ok (.getfield 39, 3) := by decide +kernel
theorem dd_Mo_digest_95 : decode cc_Mo_digest 95 = .ok (.iload_n 3, 1) := by decide +kernel
theorem dd_Mo_digest_96 : decode cc_Mo_digest 96 = .ok (.iaload, 1) := by decide +kernel
theorem dd_Mo_digest_97 : decode cc_Mo_digest 97 = .ok (.i2l, 1) := by decide +kernel
theorem dd_Mo_digest_98 : decode cc_Mo_digest 98 = .ok (.ladd, 1) := by decide +kernel
theorem dd_Mo_digest_99 : decode cc_Mo_digest 99 = .ok (.lstore_n 1, 1) := by decide +kernel
theorem dd_Mo_digest_100 : decode cc_Mo_digest 100 = .ok (.iinc 3 1, 3) := by decide +kernel
theorem dd_Mo_digest_103 : decode cc_Mo_digest 103 = .ok (.goto (-22), 3) := by decide +kernel
theorem dd_Mo_digest_106 : decode cc_Mo_digest 106 = .ok (.iconst 0, 1) := by decide +kernel
theorem dd_Mo_digest_107 : decode cc_Mo_digest 107 = .ok (.istore_n 3, 1) := by decide +kernel
theorem dd_Mo_digest_108 : decode cc_Mo_digest 108 = .ok (.iload_n 3, 1) := by decide +kernel
theorem dd_Mo_digest_109 : decode cc_Mo_digest 109 = .ok (.bipush 6, 2) := by decide +kernel
theorem dd_Mo_digest_111 : decode cc_Mo_digest 111 = .ok (.if_icmp .ge 63, 3) := by decide +kernel
theorem dd_Mo_digest_114 : decode cc_Mo_digest 114 = .ok (.ldc2_w 291, 3) := by decide +kernel
theorem dd_Mo_digest_117 : decode cc_Mo_digest 117 = .ok (.lload_n 1, 1) := by decide +kernel
theorem dd_Mo_digest_118 : decode cc_Mo_digest 118 = .ok (.lmul, 1) := by decide +kernel
theorem dd_Mo_digest_119 : decode cc_Mo_digest 119 = .ok (.aload_n 0, 1) := by decide +kernel
theorem dd_Mo_digest_120 : decode cc_Mo_digest 120 = .ok (.getfield 7, 3) := by decide +kernel
theorem dd_Mo_digest_123 : decode cc_Mo_digest 123 = .ok (.iload_n 3, 1) := by decide +kernel
theorem dd_Mo_digest_124 : decode cc_Mo_digest 124 = .ok (.iaload, 1) := by decide +kernel
theorem dd_Mo_digest_125 : decode cc_Mo_digest 125 = .ok (.i2l, 1) := by decide +kernel
theorem dd_Mo_digest_126 : decode cc_Mo_digest 126 = .ok (.ladd, 1) := by decide +kernel
theorem dd_Mo_digest_127 : decode cc_Mo_digest 127 = .ok (.lstore_n 1, 1) := by decide +kernel
theorem dd_Mo_digest_128 : decode cc_Mo_digest 128 = .ok (.iconst 0, 1) := by decide +kernel
theorem dd_Mo_digest_129 : decode cc_Mo_digest 129 = .ok (.istore 4, 2) := by decide +kernel
theorem dd_Mo_digest_131 : decode cc_Mo_digest 131 = .ok (.iload 4, 2) := by decide +kernel
theorem dd_Mo_digest_133 : decode cc_Mo_digest 133 = .ok (.aload_n 0, 1) := by decide +kernel
theorem dd_Mo_digest_134 : decode cc_Mo_digest 134 = .ok (.getfield 7, 3) := by decide +kernel
theorem dd_Mo_digest_137 : decode cc_Mo_digest 137 = .ok (.iload_n 3, 1) := by decide +kernel
theorem dd_Mo_digest_138 : decode cc_Mo_digest 138 = .ok (.iaload, 1) := by decide +kernel
theorem dd_Mo_digest_139 : decode cc_Mo_digest 139 = .ok (.if_icmp .ge 29, 3) := by decide +kernel
theorem dd_Mo_digest_142 : decode cc_Mo_digest 142 = .ok (.ldc2_w 291, 3) := by decide +kernel
theorem dd_Mo_digest_145 : decode cc_Mo_digest 145 = .ok (.lload_n 1, 1) := by decide +kernel
theorem dd_Mo_digest_146 : decode cc_Mo_digest 146 = .ok (.lmul, 1) := by decide +kernel
theorem dd_Mo_digest_147 : decode cc_Mo_digest 147 = .ok (.aload_n 0, 1) := by decide +kernel
theorem dd_Mo_digest_148 : decode cc_Mo_digest 148 = .ok (.getfield 13, 3) := by decide +kernel
theorem dd_Mo_digest_151 : decode cc_Mo_digest 151 = .ok (.bipush 40, 2) := by decide +kernel
theorem dd_Mo_digest_153 : decode cc_Mo_digest 153 = .ok (.iload_n 3, 1) := by decide +kernel
theorem dd_Mo_digest_154 : decode cc_Mo_digest 154 = .ok (.imul, 1) := by decide +kernel
theorem dd_Mo_digest_155 : decode cc_Mo_digest 155 = .ok (.iload 4, 2) := by decide +kernel
theorem dd_Mo_digest_157 : decode cc_Mo_digest 157 = .ok (.iadd, 1) := by decide +kernel
theorem dd_Mo_digest_158 : decode cc_Mo_digest 158 = .ok (.iaload, 1) := by decide +kernel
theorem dd_Mo_digest_159 : decode cc_Mo_digest 159 = .ok (.i2l, 1) := by decide +kernel
theorem dd_Mo_digest_160 : decode cc_Mo_digest 160 = .ok (.ladd, 1) := by decide +kernel
theorem dd_Mo_digest_161 : decode cc_Mo_digest 161 = .ok (.lstore_n 1, 1) := by decide +kernel
theorem dd_Mo_digest_162 : decode cc_Mo_digest 162 = .ok (.iinc 4 1, 3) := by decide +kernel
theorem dd_Mo_digest_165 : decode cc_Mo_digest 165 = .ok (.goto (-34), 3) := by decide +kernel
theorem dd_Mo_digest_168 : decode cc_Mo_digest 168 = .ok (.iinc 3 1, 3) := by decide +kernel
theorem dd_Mo_digest_171 : decode cc_Mo_digest 171 = .ok (.goto (-63), 3) := by decide +kernel
theorem dd_Mo_digest_174 : decode cc_Mo_digest 174 = .ok (.iconst 0, 1) := by decide +kernel
theorem dd_Mo_digest_175 : decode cc_Mo_digest 175 = .ok (.istore_n 3, 1) := by decide +kernel
theorem dd_Mo_digest_176 : decode cc_Mo_digest 176 = .ok (.iload_n 3, 1) := by decide +kernel
theorem dd_Mo_digest_177 : decode cc_Mo_digest 177 = .ok (.iconst 4, 1) := by decide +kernel
theorem dd_Mo_digest_178 : decode cc_Mo_digest 178 = .ok (.if_icmp .ge 63, 3) := by decide +kernel
theorem dd_Mo_digest_181 : decode cc_Mo_digest 181 = .ok (.ldc2_w 291, 3) := by decide +kernel
theorem dd_Mo_digest_184 : decode cc_Mo_digest 184 = .ok (.lload_n 1, 1) := by decide +kernel
theorem dd_Mo_digest_185 : decode cc_Mo_digest 185 = .ok (.lmul, 1) := by decide +kernel
theorem dd_Mo_digest_186 : decode cc_Mo_digest 186 = .ok (.aload_n 0, 1) := by decide +kernel
theorem dd_Mo_digest_187 : decode cc_Mo_digest 187 = .ok (.getfield 16, 3) := by decide +kernel
theorem dd_Mo_digest_190 : decode cc_Mo_digest 190 = .ok (.iload_n 3, 1) := by decide +kernel
theorem dd_Mo_digest_191 : decode cc_Mo_digest 191 = .ok (.iaload, 1) := by decide +kernel
theorem dd_Mo_digest_192 : decode cc_Mo_digest 192 = .ok (.i2l, 1) := by decide +kernel
theorem dd_Mo_digest_193 : decode cc_Mo_digest 193 = .ok (.ladd, 1) := by decide +kernel
theorem dd_Mo_digest_194 : decode cc_Mo_digest 194 = .ok (.lstore_n 1, 1) := by decide +kernel
theorem dd_Mo_digest_195 : decode cc_Mo_digest 195 = .ok (.iconst 0, 1) := by decide +kernel
theorem dd_Mo_digest_196 : decode cc_Mo_digest 196 = .ok (.istore 4, 2) := by decide +kernel
theorem dd_Mo_digest_198 : decode cc_Mo_digest 198 = .ok (.iload 4, 2) := by decide +kernel
theorem dd_Mo_digest_200 : decode cc_Mo_digest 200 = .ok (.aload_n 0, 1) := by decide +kernel
theorem dd_Mo_digest_201 : decode cc_Mo_digest 201 = .ok (.getfield 16, 3) := by decide +kernel
theorem dd_Mo_digest_204 : decode cc_Mo_digest 204 = .ok (.iload_n 3, 1) := by decide +kernel
theorem dd_Mo_digest_205 : decode cc_Mo_digest 205 = .ok (.iaload, 1) := by decide +kernel
theorem dd_Mo_digest_206 : decode cc_Mo_digest 206 = .ok (.if_icmp .ge 29, 3) := by decide +kernel
theorem dd_Mo_digest_209 : decode cc_Mo_digest 209 = .ok (.ldc2_w 291, 3) := by decide +kernel
theorem dd_Mo_digest_212 : decode cc_Mo_digest 212 = .ok (.lload_n 1, 1) := by decide +kernel
theorem dd_Mo_digest_213 : decode cc_Mo_digest 213 = .ok (.lmul, 1) := by decide +kernel
theorem dd_Mo_digest_214 : decode cc_Mo_digest 214 = .ok (.aload_n 0, 1) := by decide +kernel
theorem dd_Mo_digest_215 : decode cc_Mo_digest 215 = .ok (.getfield 19, 3) := by decide +kernel
theorem dd_Mo_digest_218 : decode cc_Mo_digest 218 = .ok (.bipush 60, 2) := by decide +kernel
theorem dd_Mo_digest_220 : decode cc_Mo_digest 220 = .ok (.iload_n 3, 1) := by decide +kernel
theorem dd_Mo_digest_221 : decode cc_Mo_digest 221 = .ok (.imul, 1) := by decide +kernel
theorem dd_Mo_digest_222 : decode cc_Mo_digest 222 = .ok (.iload 4, 2) := by decide +kernel
theorem dd_Mo_digest_224 : decode cc_Mo_digest 224 = .ok (.iadd, 1) := by decide +kernel
theorem dd_Mo_digest_225 : decode cc_Mo_digest 225 = .ok (.baload, 1) := by decide +kernel
theorem dd_Mo_digest_226 : decode cc_Mo_digest 226 = .ok (.i2l, 1) := by decide +kernel
theorem dd_Mo_digest_227 : decode cc_Mo_digest 227 = .ok (.ladd, 1) := by decide +kernel
theorem dd_Mo_digest_228 : decode cc_Mo_digest 228 = .ok (.lstore_n 1, 1) := by decide +kernel
theorem dd_Mo_digest_229 : decode cc_Mo_digest 229 = .ok (.iinc 4 1, 3) := by decide +kernel
theorem dd_Mo_digest_232 : decode cc_Mo_digest 232 = .ok (.goto (-34), 3) := by decide +kernel
theorem dd_Mo_digest_235 : decode cc_Mo_digest 235 = .ok (.iinc 3 1, 3) := by decide +kernel
theorem dd_Mo_digest_238 : decode cc_Mo_digest 238 = .ok (.goto (-62), 3) := by decide +kernel
theorem dd_Mo_digest_241 : decode cc_Mo_digest 241 = .ok (.lload_n 1, 1) := by decide +kernel
theorem dd_Mo_digest_242 : decode cc_Mo_digest 242 = .ok (.lreturn, 1) := by decide +kernel
set_option maxRecDepth 100000 in
set_option maxHeartbeats 4000000 in
theorem ct_Mo_digest (l : Launch) (E : gf_E) (μ : gf_M) (hok : gm_ok μ) (hrs : ∀ r : Int, 0 ≤ r → r < 6 → -1 ≤ μ 66 r ∧ μ 66 r ≤ 40) (hts : ∀ t : Int, 0 ≤ t → t < 4 → -1 ≤ μ 68 t ∧ μ 68 t ≤ 60)  : gf_Ml l E yy_Mo_digest cc_Mo_digest 5 (gf_rm 9 212) 81 gf_ref μ [.ref (gf_ad E 65)] (fun q μ' => gf_l q = gf_l (gm_digest μ) ∧ gm_sc μ' μ) := by
  refine gf_ml (by decide +kernel) (Nat.le_of_ble_eq_true rfl) (by decide) (fun X Q hlx C hQ => ?_)
  subst hlx
  replace C : gf_C X E cc_Mo_digest 5 "GuardFiguresModel" (gf_rm 9 212) := C
  show gf_G X E Q 5 gf_φ μ 0 [(0, .ref (gf_ad E 65))] []
  obtain ⟨hc, hgs, hn, hx, hd⟩ := id hok
  refine gf_ldc2 17 C dd_Mo_digest_0 ck_Mo_289 (by decide +kernel) ?_
  refine gf_lstore_n (lv' := [(1, .long (gf_l 17)), (0, .ref (gf_ad E 65))]) C dd_Mo_digest_3 (by decide) rfl ?_
  refine gf_iconst C dd_Mo_digest_4 ?_
  refine gf_istore_n (lv' := [(3, .int (gf_i 0)), (1, .long (gf_l 17)), (0, .ref (gf_ad E 65))]) C dd_Mo_digest_5 (by decide) rfl ?_
  have L6_1 : ∀ (N : Nat) (h w : Int) (m : gf_M) , (0 ≤ w ∧ w ≤ 11 ∧ h = pf_dig 17 (gm_cn μ) w.toNat ∧ gm_sc m μ) → (11 - w).toNat < N → gf_G X E Q 5 gf_φ m 6 [(1, .long (gf_l h)), (3, .int (gf_i w)), (0, .ref (gf_ad E 65))] [] := by
    intro N
    induction N with
    | zero => intro h w m hinv hN; exact absurd hN (Nat.not_lt_zero _)
    | succ N ih6_1 =>
      intro h w m hinv hN
      have hinv0 := hinv
      obtain ⟨hw0, hw1, hh, hsc⟩ := hinv
      have q71 := gm_sc_71 hsc
      refine gf_iload_n C dd_Mo_digest_6 1 rfl ?_
      refine gf_bipush C dd_Mo_digest_7 (by decide +kernel) ?_
      refine gf_icmp_ge 31 C dd_Mo_digest_9 (by decide) (by omega) (by omega) (fun h9 => ?_) (fun h9 => ?_)
      · skip
        refine gf_iconst C dd_Mo_digest_31 ?_
        refine gf_istore_n (lv' := [(3, .int (gf_i 0)), (1, .long (gf_l h)), (0, .ref (gf_ad E 65))]) C dd_Mo_digest_32 (by decide) rfl ?_
        have L33_2 : ∀ (N : Nat) (h i : Int) (m : gf_M) , (0 ≤ i ∧ i ≤ μ 71 0 ∧ h = gm_dgG μ (gm_H1 μ) i.toNat ∧ gm_sc m μ) → (7 - i).toNat < N → gf_G X E Q 5 gf_φ m 33 [(1, .long (gf_l h)), (3, .int (gf_i i)), (0, .ref (gf_ad E 65))] [] := by
          intro N
          induction N with
          | zero => intro h i m hinv hN; exact absurd hN (Nat.not_lt_zero _)
          | succ N ih33_2 =>
            intro h i m hinv hN
            have hinv0 := hinv
            obtain ⟨hi0, hi1, hh, hsc⟩ := hinv
            have q0 := gm_sc_71 hsc 0
            refine gf_iload_n C dd_Mo_digest_33 1 rfl ?_
            refine gf_aload_n C dd_Mo_digest_34 2 rfl ?_
            refine gf_getA (r := 71) C gf_cl7 fl_Mo_30 dd_Mo_digest_35 rfl (show gf_is 81 65 0 7 26 by decide) (by decide) (by decide) ?_
            refine gf_iconst C dd_Mo_digest_38 ?_
            refine gf_iald C dd_Mo_digest_39 (show gf_is 81 71 1 0 392 by decide) (by omega) (fun hv39 => ?_)
            refine gf_icmp_ge 79 C dd_Mo_digest_40 (by decide) (by omega) (by omega) (fun h40 => ?_) (fun h40 => ?_)
            · skip
              refine gf_iconst C dd_Mo_digest_79 ?_
              refine gf_istore_n (lv' := [(3, .int (gf_i 0)), (1, .long (gf_l h)), (0, .ref (gf_ad E 65))]) C dd_Mo_digest_80 (by decide) rfl ?_
              have L81_3 : ∀ (N : Nat) (h k : Int) , (0 ≤ k ∧ k ≤ 3 ∧ h = pf_dig (gm_H2 μ) (μ 74) k.toNat) → (3 - k).toNat < N → gf_G X E Q 5 gf_φ m 81 [(1, .long (gf_l h)), (3, .int (gf_i k)), (0, .ref (gf_ad E 65))] [] := by
                intro N
                induction N with
                | zero => intro h k hinv hN; exact absurd hN (Nat.not_lt_zero _)
                | succ N ih81_3 =>
                  intro h k hinv hN
                  have hinv0 := hinv
                  obtain ⟨hk0, hk1, hk⟩ := hinv
                  refine gf_iload_n C dd_Mo_digest_81 1 rfl ?_
                  refine gf_iconst C dd_Mo_digest_82 ?_
                  refine gf_icmp_ge 106 C dd_Mo_digest_83 (by decide) (by omega) (by omega) (fun h83 => ?_) (fun h83 => ?_)
                  · skip
                    have hk3 : k.toNat = 3 := by omega
                    rw [hk3] at hk
                    replace hk : h = gm_H3 μ := hk
                    refine gf_iconst C dd_Mo_digest_106 ?_
                    refine gf_istore_n (lv' := [(3, .int (gf_i 0)), (1, .long (gf_l h)), (0, .ref (gf_ad E 65))]) C dd_Mo_digest_107 (by decide) rfl ?_
                    have L108_4 : ∀ (N : Nat) (h r : Int) , (0 ≤ r ∧ r ≤ 6 ∧ h = gm_dgR μ 66 67 40 (gm_H3 μ) r.toNat) → (7 - r).toNat < N → gf_G X E Q 5 gf_φ m 108 [(1, .long (gf_l h)), (3, .int (gf_i r)), (0, .ref (gf_ad E 65))] [] := by
                      intro N
                      induction N with
                      | zero => intro h r hinv hN; exact absurd hN (Nat.not_lt_zero _)
                      | succ N ih108_4 =>
                        intro h r hinv hN
                        have hinv0 := hinv
                        obtain ⟨hr0, hr1, hh⟩ := hinv
                        have hs1 : r < 6 → m 66 r = μ 66 r := fun _ => hsc 66 r (by unfold gm_scr; omega)
                        have hrr : r < 6 → -1 ≤ μ 66 r ∧ μ 66 r ≤ 40 := fun h => hrs r hr0 h
                        refine gf_iload_n C dd_Mo_digest_108 1 rfl ?_
                        refine gf_bipush C dd_Mo_digest_109 (by decide +kernel) ?_
                        refine gf_icmp_ge 174 C dd_Mo_digest_111 (by decide) (by omega) (by omega) (fun h111 => ?_) (fun h111 => ?_)
                        · skip
                          refine gf_iconst C dd_Mo_digest_174 ?_
                          refine gf_istore_n (lv' := [(3, .int (gf_i 0)), (1, .long (gf_l h)), (0, .ref (gf_ad E 65))]) C dd_Mo_digest_175 (by decide) rfl ?_
                          have L176_5 : ∀ (N : Nat) (h r : Int) , (0 ≤ r ∧ r ≤ 4 ∧ h = gm_dgR μ 68 69 60 (gm_H4 μ) r.toNat) → (7 - r).toNat < N → gf_G X E Q 5 gf_φ m 176 [(1, .long (gf_l h)), (3, .int (gf_i r)), (0, .ref (gf_ad E 65))] [] := by
                            intro N
                            induction N with
                            | zero => intro h r hinv hN; exact absurd hN (Nat.not_lt_zero _)
                            | succ N ih176_5 =>
                              intro h r hinv hN
                              have hinv0 := hinv
                              obtain ⟨hr0, hr1, hh⟩ := hinv
                              have hs1 : r < 4 → m 68 r = μ 68 r := fun _ => hsc 68 r (by unfold gm_scr; omega)
                              have hrr : r < 4 → -1 ≤ μ 68 r ∧ μ 68 r ≤ 60 := fun h => hts r hr0 h
                              refine gf_iload_n C dd_Mo_digest_176 1 rfl ?_
                              refine gf_iconst C dd_Mo_digest_177 ?_
                              refine gf_icmp_ge 241 C dd_Mo_digest_178 (by decide) (by omega) (by omega) (fun h178 => ?_) (fun h178 => ?_)
                              · skip
                                refine gf_lload_n C dd_Mo_digest_241 0 rfl ?_
                                refine gf_lretw C hQ dd_Mo_digest_242 ?_
                                rw [show r.toNat = 4 by omega] at hh
                                exact ⟨by rw [gf_wl_l, hh]; rfl, hsc⟩
                              · skip
                                refine gf_ldc2 31 C dd_Mo_digest_181 ck_Mo_291 (by decide +kernel) ?_
                                refine gf_lload_n C dd_Mo_digest_184 0 rfl ?_
                                refine gf_lmul C dd_Mo_digest_185 ?_
                                refine gf_aload_n C dd_Mo_digest_186 2 rfl ?_
                                refine gf_getA (r := 68) C gf_cl7 fl_Mo_16 dd_Mo_digest_187 rfl (show gf_is 81 65 0 7 26 by decide) (by decide) (by decide) ?_
                                refine gf_iload_n C dd_Mo_digest_190 1 rfl ?_
                                refine gf_iald C dd_Mo_digest_191 (show gf_is 81 68 1 0 4 by decide) (by omega) (fun hv191 => ?_)
                                refine gf_gi2l C dd_Mo_digest_192 (by omega) ?_
                                refine gf_ladd C dd_Mo_digest_193 ?_
                                refine gf_nml (fun x194 hx194 => ?_)
                                refine gf_lstore_n (lv' := [(1, .long (gf_l x194)), (3, .int (gf_i r)), (0, .ref (gf_ad E 65))]) C dd_Mo_digest_194 (by decide) rfl ?_
                                refine gf_iconst C dd_Mo_digest_195 ?_
                                refine gf_istore (lv' := [(4, .int (gf_i 0)), (1, .long (gf_l x194)), (3, .int (gf_i r)), (0, .ref (gf_ad E 65))]) C dd_Mo_digest_196 (by decide) rfl ?_
                                have L198_6 : ∀ (N : Nat) (h2 i : Int) , (0 ≤ i ∧ (i = 0 ∨ i ≤ μ 68 r) ∧ h2 = pf_dig x194 (fun j => μ 69 (60 * r + j)) i.toNat) → (60 - i).toNat < N → gf_G X E Q 5 gf_φ m 198 [(1, .long (gf_l h2)), (4, .int (gf_i i)), (0, .ref (gf_ad E 65)), (3, .int (gf_i r))] [] := by
                                  intro N
                                  induction N with
                                  | zero => intro h2 i hinv hN; exact absurd hN (Nat.not_lt_zero _)
                                  | succ N ih198_6 =>
                                    intro h2 i hinv hN
                                    have hinv0 := hinv
                                    obtain ⟨hi0, hi1, hi2⟩ := hinv
                                    refine gf_iload C dd_Mo_digest_198 1 rfl ?_
                                    refine gf_aload_n C dd_Mo_digest_200 2 rfl ?_
                                    refine gf_getA (r := 68) C gf_cl7 fl_Mo_16 dd_Mo_digest_201 rfl (show gf_is 81 65 0 7 26 by decide) (by decide) (by decide) ?_
                                    refine gf_iload_n C dd_Mo_digest_204 3 rfl ?_
                                    refine gf_iald C dd_Mo_digest_205 (show gf_is 81 68 1 0 4 by decide) (by omega) (fun hv205 => ?_)
                                    refine gf_icmp_ge 235 C dd_Mo_digest_206 (by decide) (by omega) (by omega) (fun h206 => ?_) (fun h206 => ?_)
                                    · skip
                                      obtain ⟨x235, hx235⟩ : ∃ y : Int, y = r + 1 := ⟨_, rfl⟩
                                      refine gf_iinc (q := 3) (v := x235) (lv' := [(3, .int (gf_i x235)), (1, .long (gf_l h2)), (4, .int (gf_i i)), (0, .ref (gf_ad E 65))]) C dd_Mo_digest_235 rfl hx235 (by decide) rfl ?_
                                      refine gf_goto 176 C dd_Mo_digest_238 (by decide) ?_
                                      refine gf_lsub [1, 0, 3] rfl ?_
                                      exact ih176_5 h2 x235 (by
                                              refine ⟨by omega, by omega, ?_⟩
                                              rw [show x235.toNat = r.toNat + 1 by omega, hi2, show i.toNat = (μ 68 r).toNat by omega]
                                              show _ = pf_dig (31 * gm_dgR μ 68 69 60 (gm_H4 μ) r.toNat + μ 68 ((r.toNat : Nat) : Int)) (fun j => μ 69 (60 * ((r.toNat : Nat) : Int) + j)) (μ 68 ((r.toNat : Nat) : Int)).toNat
                                              rw [show ((r.toNat : Nat) : Int) = r by omega, ← hh, hx194, hs1 (by omega)]) (by omega)
                                    · skip
                                      refine gf_ldc2 31 C dd_Mo_digest_209 ck_Mo_291 (by decide +kernel) ?_
                                      refine gf_lload_n C dd_Mo_digest_212 0 rfl ?_
                                      refine gf_lmul C dd_Mo_digest_213 ?_
                                      refine gf_aload_n C dd_Mo_digest_214 2 rfl ?_
                                      refine gf_getA (r := 69) C gf_cl7 fl_Mo_19 dd_Mo_digest_215 rfl (show gf_is 81 65 0 7 26 by decide) (by decide) (by decide) ?_
                                      refine gf_bipush C dd_Mo_digest_218 (by decide +kernel) ?_
                                      refine gf_iload_n C dd_Mo_digest_220 3 rfl ?_
                                      refine gf_imul C dd_Mo_digest_221 ?_
                                      refine gf_iload C dd_Mo_digest_222 1 rfl ?_
                                      refine gf_iadd C dd_Mo_digest_224 ?_
                                      refine gf_bald C dd_Mo_digest_225 (show gf_is 81 69 3 2 240 by decide) (by omega) (fun hv225 => ?_)
                                      refine gf_gi2l C dd_Mo_digest_226 (by omega) ?_
                                      refine gf_ladd C dd_Mo_digest_227 ?_
                                      refine gf_nml (fun x228 hx228 => ?_)
                                      refine gf_lstore_n (lv' := [(1, .long (gf_l x228)), (4, .int (gf_i i)), (0, .ref (gf_ad E 65)), (3, .int (gf_i r))]) C dd_Mo_digest_228 (by decide) rfl ?_
                                      obtain ⟨x229, hx229⟩ : ∃ y : Int, y = i + 1 := ⟨_, rfl⟩
                                      refine gf_iinc (q := 1) (v := x229) (lv' := [(4, .int (gf_i x229)), (1, .long (gf_l x228)), (0, .ref (gf_ad E 65)), (3, .int (gf_i r))]) C dd_Mo_digest_229 rfl hx229 (by decide) rfl ?_
                                      refine gf_goto 198 C dd_Mo_digest_232 (by decide) ?_
                                      refine gf_lsub [1, 0, 2, 3] rfl ?_
                                      exact ih198_6 x228 x229 (by
                                              refine ⟨by omega, by omega, ?_⟩
                                              rw [show x229.toNat = i.toNat + 1 by omega]
                                              show _ = 31 * pf_dig x194 _ i.toNat + μ 69 (60 * r + ((i.toNat : Nat) : Int))
                                              rw [← hi2, show ((i.toNat : Nat) : Int) = i by omega, ← hsc 69 (60 * r + i) (by unfold gm_scr; omega)]
                                              exact hx228) (by omega)
                                refine gf_lsub [1, 0, 3, 2] rfl ?_
                                exact L198_6 _ x194 0 (⟨by omega, by omega, rfl⟩) (Nat.lt_succ_self _)
                          refine gf_lsub [1, 0, 2] rfl ?_
                          exact L176_5 _ h 0 (⟨by omega, by omega, by rw [hh, show r.toNat = 6 by omega]; rfl⟩) (Nat.lt_succ_self _)
                        · skip
                          refine gf_ldc2 31 C dd_Mo_digest_114 ck_Mo_291 (by decide +kernel) ?_
                          refine gf_lload_n C dd_Mo_digest_117 0 rfl ?_
                          refine gf_lmul C dd_Mo_digest_118 ?_
                          refine gf_aload_n C dd_Mo_digest_119 2 rfl ?_
                          refine gf_getA (r := 66) C gf_cl7 fl_Mo_7 dd_Mo_digest_120 rfl (show gf_is 81 65 0 7 26 by decide) (by decide) (by decide) ?_
                          refine gf_iload_n C dd_Mo_digest_123 1 rfl ?_
                          refine gf_iald C dd_Mo_digest_124 (show gf_is 81 66 1 0 6 by decide) (by omega) (fun hv124 => ?_)
                          refine gf_gi2l C dd_Mo_digest_125 (by omega) ?_
                          refine gf_ladd C dd_Mo_digest_126 ?_
                          refine gf_nml (fun x127 hx127 => ?_)
                          refine gf_lstore_n (lv' := [(1, .long (gf_l x127)), (3, .int (gf_i r)), (0, .ref (gf_ad E 65))]) C dd_Mo_digest_127 (by decide) rfl ?_
                          refine gf_iconst C dd_Mo_digest_128 ?_
                          refine gf_istore (lv' := [(4, .int (gf_i 0)), (1, .long (gf_l x127)), (3, .int (gf_i r)), (0, .ref (gf_ad E 65))]) C dd_Mo_digest_129 (by decide) rfl ?_
                          have L131_7 : ∀ (N : Nat) (h2 i : Int) , (0 ≤ i ∧ (i = 0 ∨ i ≤ μ 66 r) ∧ h2 = pf_dig x127 (fun j => μ 67 (40 * r + j)) i.toNat) → (60 - i).toNat < N → gf_G X E Q 5 gf_φ m 131 [(1, .long (gf_l h2)), (4, .int (gf_i i)), (0, .ref (gf_ad E 65)), (3, .int (gf_i r))] [] := by
                            intro N
                            induction N with
                            | zero => intro h2 i hinv hN; exact absurd hN (Nat.not_lt_zero _)
                            | succ N ih131_7 =>
                              intro h2 i hinv hN
                              have hinv0 := hinv
                              obtain ⟨hi0, hi1, hi2⟩ := hinv
                              refine gf_iload C dd_Mo_digest_131 1 rfl ?_
                              refine gf_aload_n C dd_Mo_digest_133 2 rfl ?_
                              refine gf_getA (r := 66) C gf_cl7 fl_Mo_7 dd_Mo_digest_134 rfl (show gf_is 81 65 0 7 26 by decide) (by decide) (by decide) ?_
                              refine gf_iload_n C dd_Mo_digest_137 3 rfl ?_
                              refine gf_iald C dd_Mo_digest_138 (show gf_is 81 66 1 0 6 by decide) (by omega) (fun hv138 => ?_)
                              refine gf_icmp_ge 168 C dd_Mo_digest_139 (by decide) (by omega) (by omega) (fun h139 => ?_) (fun h139 => ?_)
                              · skip
                                obtain ⟨x168, hx168⟩ : ∃ y : Int, y = r + 1 := ⟨_, rfl⟩
                                refine gf_iinc (q := 3) (v := x168) (lv' := [(3, .int (gf_i x168)), (1, .long (gf_l h2)), (4, .int (gf_i i)), (0, .ref (gf_ad E 65))]) C dd_Mo_digest_168 rfl hx168 (by decide) rfl ?_
                                refine gf_goto 108 C dd_Mo_digest_171 (by decide) ?_
                                refine gf_lsub [1, 0, 3] rfl ?_
                                exact ih108_4 h2 x168 (by
                                        refine ⟨by omega, by omega, ?_⟩
                                        rw [show x168.toNat = r.toNat + 1 by omega, hi2, show i.toNat = (μ 66 r).toNat by omega]
                                        show _ = pf_dig (31 * gm_dgR μ 66 67 40 (gm_H3 μ) r.toNat + μ 66 ((r.toNat : Nat) : Int)) (fun j => μ 67 (40 * ((r.toNat : Nat) : Int) + j)) (μ 66 ((r.toNat : Nat) : Int)).toNat
                                        rw [show ((r.toNat : Nat) : Int) = r by omega, ← hh, hx127, hs1 (by omega)]) (by omega)
                              · skip
                                refine gf_ldc2 31 C dd_Mo_digest_142 ck_Mo_291 (by decide +kernel) ?_
                                refine gf_lload_n C dd_Mo_digest_145 0 rfl ?_
                                refine gf_lmul C dd_Mo_digest_146 ?_
                                refine gf_aload_n C dd_Mo_digest_147 2 rfl ?_
                                refine gf_getA (r := 67) C gf_cl7 fl_Mo_13 dd_Mo_digest_148 rfl (show gf_is 81 65 0 7 26 by decide) (by decide) (by decide) ?_
                                refine gf_bipush C dd_Mo_digest_151 (by decide +kernel) ?_
                                refine gf_iload_n C dd_Mo_digest_153 3 rfl ?_
                                refine gf_imul C dd_Mo_digest_154 ?_
                                refine gf_iload C dd_Mo_digest_155 1 rfl ?_
                                refine gf_iadd C dd_Mo_digest_157 ?_
                                refine gf_iald C dd_Mo_digest_158 (show gf_is 81 67 1 0 240 by decide) (by omega) (fun hv158 => ?_)
                                refine gf_gi2l C dd_Mo_digest_159 (by omega) ?_
                                refine gf_ladd C dd_Mo_digest_160 ?_
                                refine gf_nml (fun x161 hx161 => ?_)
                                refine gf_lstore_n (lv' := [(1, .long (gf_l x161)), (4, .int (gf_i i)), (0, .ref (gf_ad E 65)), (3, .int (gf_i r))]) C dd_Mo_digest_161 (by decide) rfl ?_
                                obtain ⟨x162, hx162⟩ : ∃ y : Int, y = i + 1 := ⟨_, rfl⟩
                                refine gf_iinc (q := 1) (v := x162) (lv' := [(4, .int (gf_i x162)), (1, .long (gf_l x161)), (0, .ref (gf_ad E 65)), (3, .int (gf_i r))]) C dd_Mo_digest_162 rfl hx162 (by decide) rfl ?_
                                refine gf_goto 131 C dd_Mo_digest_165 (by decide) ?_
                                refine gf_lsub [1, 0, 2, 3] rfl ?_
                                exact ih131_7 x161 x162 (by
                                        refine ⟨by omega, by omega, ?_⟩
                                        rw [show x162.toNat = i.toNat + 1 by omega]
                                        show _ = 31 * pf_dig x127 _ i.toNat + μ 67 (40 * r + ((i.toNat : Nat) : Int))
                                        rw [← hi2, show ((i.toNat : Nat) : Int) = i by omega, ← hsc 67 (40 * r + i) (by unfold gm_scr; omega)]
                                        exact hx161) (by omega)
                          refine gf_lsub [1, 0, 3, 2] rfl ?_
                          exact L131_7 _ x127 0 (⟨by omega, by omega, rfl⟩) (Nat.lt_succ_self _)
                    refine gf_lsub [1, 0, 2] rfl ?_
                    exact L108_4 _ h 0 (⟨by omega, by omega, by rw [hk]; rfl⟩) (Nat.lt_succ_self _)
                  · skip
                    refine gf_ldc2 31 C dd_Mo_digest_86 ck_Mo_291 (by decide +kernel) ?_
                    refine gf_lload_n C dd_Mo_digest_89 0 rfl ?_
                    refine gf_lmul C dd_Mo_digest_90 ?_
                    refine gf_aload_n C dd_Mo_digest_91 2 rfl ?_
                    refine gf_getA (r := 74) C gf_cl7 fl_Mo_39 dd_Mo_digest_92 rfl (show gf_is 81 65 0 7 26 by decide) (by decide) (by decide) ?_
                    refine gf_iload_n C dd_Mo_digest_95 1 rfl ?_
                    refine gf_iald C dd_Mo_digest_96 (show gf_is 81 74 1 0 3 by decide) (by omega) (fun hv96 => ?_)
                    refine gf_gi2l C dd_Mo_digest_97 (by omega) ?_
                    refine gf_ladd C dd_Mo_digest_98 ?_
                    refine gf_nml (fun x99 hx99 => ?_)
                    refine gf_lstore_n (lv' := [(1, .long (gf_l x99)), (3, .int (gf_i k)), (0, .ref (gf_ad E 65))]) C dd_Mo_digest_99 (by decide) rfl ?_
                    obtain ⟨x100, hx100⟩ : ∃ y : Int, y = k + 1 := ⟨_, rfl⟩
                    refine gf_iinc (q := 1) (v := x100) (lv' := [(3, .int (gf_i x100)), (1, .long (gf_l x99)), (0, .ref (gf_ad E 65))]) C dd_Mo_digest_100 rfl hx100 (by decide) rfl ?_
                    refine gf_goto 81 C dd_Mo_digest_103 (by decide) ?_
                    refine gf_lsub [1, 0, 2] rfl ?_
                    exact ih81_3 x99 x100 (by
                            refine ⟨by omega, by omega, ?_⟩
                            rw [show x100.toNat = k.toNat + 1 by omega]
                            show _ = 31 * pf_dig (gm_H2 μ) (μ 74) k.toNat + μ 74 ((k.toNat : Nat) : Int)
                            rw [← hk, show ((k.toNat : Nat) : Int) = k by omega, ← hsc 74 k (by unfold gm_scr; omega)]
                            exact hx99) (by omega)
              refine gf_lsub [1, 0, 2] rfl ?_
              exact L81_3 _ h 0 (⟨by omega, by omega, by rw [hh, show i.toNat = (μ 71 0).toNat by omega]; rfl⟩) (Nat.lt_succ_self _)
            · skip
              refine gf_iconst C dd_Mo_digest_43 ?_
              refine gf_istore (lv' := [(4, .int (gf_i 0)), (1, .long (gf_l h)), (3, .int (gf_i i)), (0, .ref (gf_ad E 65))]) C dd_Mo_digest_44 (by decide) rfl ?_
              have L46_8 : ∀ (N : Nat) (h2 w : Int) (m2 : gf_M) , (0 ≤ w ∧ w ≤ 5 ∧ h2 = pf_dig h (gm_og μ i) w.toNat ∧ gm_sc m2 μ) → (5 - w).toNat < N → gf_G X E Q 5 gf_φ m2 46 [(1, .long (gf_l h2)), (4, .int (gf_i w)), (3, .int (gf_i i)), (0, .ref (gf_ad E 65))] [] := by
                intro N
                induction N with
                | zero => intro h2 w m2 hinv hN; exact absurd hN (Nat.not_lt_zero _)
                | succ N ih46_8 =>
                  intro h2 w m2 hinv hN
                  have hinv0 := hinv
                  obtain ⟨hw0, hw1, hh2, hsc2⟩ := hinv
                  have q712 := gm_sc_71 hsc2
                  have hnx := gm_nx_f q712 hn hx
                  refine gf_iload C dd_Mo_digest_46 1 rfl ?_
                  refine gf_iconst C dd_Mo_digest_48 ?_
                  refine gf_icmp_ge 73 C dd_Mo_digest_49 (by decide) (by omega) (by omega) (fun h49 => ?_) (fun h49 => ?_)
                  · skip
                    obtain ⟨x73, hx73⟩ : ∃ y : Int, y = i + 1 := ⟨_, rfl⟩
                    refine gf_iinc (q := 2) (v := x73) (lv' := [(3, .int (gf_i x73)), (1, .long (gf_l h2)), (4, .int (gf_i w)), (0, .ref (gf_ad E 65))]) C dd_Mo_digest_73 rfl hx73 (by decide) rfl ?_
                    refine gf_goto 33 C dd_Mo_digest_76 (by decide) ?_
                    refine gf_lsub [1, 0, 3] rfl ?_
                    exact ih33_2 h2 x73 m2 (by
                            refine ⟨by omega, by omega, ?_, hsc2⟩
                            rw [show x73.toNat = i.toNat + 1 by omega, hh2, show w.toNat = 5 by omega]
                            show _ = pf_dig (gm_dgG μ (gm_H1 μ) i.toNat) (gm_og μ ((i.toNat : Nat) : Int)) 5
                            rw [← hh, show ((i.toNat : Nat) : Int) = i by omega]) (by omega)
                  · skip
                    refine gf_ldc2 31 C dd_Mo_digest_52 ck_Mo_291 (by decide +kernel) ?_
                    refine gf_lload_n C dd_Mo_digest_55 0 rfl ?_
                    refine gf_lmul C dd_Mo_digest_56 ?_
                    refine gf_aload_n C dd_Mo_digest_57 3 rfl ?_
                    refine gf_iload_n C dd_Mo_digest_58 2 rfl ?_
                    refine gf_iload C dd_Mo_digest_59 1 rfl ?_
                    refine gf_callVi (st := [.long (gf_l (31 * h2))]) (As := [.int (gf_i i), .int (gf_i w)]) C wk_Mo_191 gf_cl7 (show gf_is 81 65 0 7 26 by decide) (ct_Mo_toldOf (gf_xl X) E i w m2 (gm_okg_f (gm_ok_g hok (by omega)) q712) (by omega) hnx.1 hnx.2) rfl ⟨rfl, rfl, rfl, rfl⟩ (Nat.le_of_ble_eq_true rfl) rfl dd_Mo_digest_61 (fun r61 m61 hR61 hp61 => ?_)
                    obtain ⟨hr61, hs61⟩ := hp61
                    refine gf_gi2l C dd_Mo_digest_64 (by omega) ?_
                    refine gf_ladd C dd_Mo_digest_65 ?_
                    refine gf_nml (fun x66 hx66 => ?_)
                    refine gf_lstore_n (lv' := [(1, .long (gf_l x66)), (4, .int (gf_i w)), (3, .int (gf_i i)), (0, .ref (gf_ad E 65))]) C dd_Mo_digest_66 (by decide) rfl ?_
                    obtain ⟨x67, hx67⟩ : ∃ y : Int, y = w + 1 := ⟨_, rfl⟩
                    refine gf_iinc (q := 1) (v := x67) (lv' := [(4, .int (gf_i x67)), (1, .long (gf_l x66)), (3, .int (gf_i i)), (0, .ref (gf_ad E 65))]) C dd_Mo_digest_67 rfl hx67 (by decide) rfl ?_
                    refine gf_goto 46 C dd_Mo_digest_70 (by decide) ?_
                    refine gf_lsub [1, 0, 2, 3] rfl ?_
                    exact ih46_8 x66 x67 m61 (by
                            refine ⟨by omega, by omega, ?_, gm_sc_tr hs61 hsc2⟩
                            rw [show x67.toNat = w.toNat + 1 by omega]
                            show _ = 31 * pf_dig h (gm_og μ i) w.toNat + gm_og μ i ((w.toNat : Nat) : Int)
                            rw [← hh2, show ((w.toNat : Nat) : Int) = w by omega, ← gm_og_f q712, ← hr61.1]
                            exact hx66) (by omega)
              refine gf_lsub [1, 0, 2, 3] rfl ?_
              exact L46_8 _ h 0 m (⟨by omega, by omega, rfl, hsc⟩) (Nat.lt_succ_self _)
        refine gf_lsub [1, 0, 2] rfl ?_
        exact L33_2 _ h 0 m (⟨by omega, by omega, by rw [hh, show w.toNat = 11 by omega]; rfl, hsc⟩) (Nat.lt_succ_self _)
      · skip
        refine gf_ldc2 31 C dd_Mo_digest_12 ck_Mo_291 (by decide +kernel) ?_
        refine gf_lload_n C dd_Mo_digest_15 0 rfl ?_
        refine gf_lmul C dd_Mo_digest_16 ?_
        refine gf_aload_n C dd_Mo_digest_17 2 rfl ?_
        refine gf_iload_n C dd_Mo_digest_18 1 rfl ?_
        refine gf_callVi (st := [.long (gf_l (31 * h))]) (As := [.int (gf_i w)]) C wk_Mo_293 gf_cl7 (show gf_is 81 65 0 7 26 by decide) (ct_Mo_count (gf_xl X) E w m (by omega) (gm_ok_sc q71 hok)) rfl ⟨rfl, rfl, rfl, rfl⟩ (Nat.le_of_ble_eq_true rfl) rfl dd_Mo_digest_19 (fun r19 m19 hR19 hp19 => ?_)
        obtain ⟨hr19, hs19⟩ := hp19.2 (by omega)
        clear hp19
        refine gf_gi2l C dd_Mo_digest_22 (by omega) ?_
        refine gf_ladd C dd_Mo_digest_23 ?_
        refine gf_nml (fun x24 hx24 => ?_)
        refine gf_lstore_n (lv' := [(1, .long (gf_l x24)), (3, .int (gf_i w)), (0, .ref (gf_ad E 65))]) C dd_Mo_digest_24 (by decide) rfl ?_
        obtain ⟨x25, hx25⟩ : ∃ y : Int, y = w + 1 := ⟨_, rfl⟩
        refine gf_iinc (q := 1) (v := x25) (lv' := [(3, .int (gf_i x25)), (1, .long (gf_l x24)), (0, .ref (gf_ad E 65))]) C dd_Mo_digest_25 rfl hx25 (by decide) rfl ?_
        refine gf_goto 6 C dd_Mo_digest_28 (by decide) ?_
        refine gf_lsub [1, 0, 2] rfl ?_
        exact ih6_1 x24 x25 m19 (by
                refine ⟨by omega, by omega, ?_, gm_sc_tr hs19 hsc⟩
                rw [show x25.toNat = w.toNat + 1 by omega]
                show _ = 31 * pf_dig 17 (gm_cn μ) w.toNat + gm_cn μ ((w.toNat : Nat) : Int)
                rw [← hh, show ((w.toNat : Nat) : Int) = w by omega, ← gm_cn_f hsc, ← hr19.1]
                exact hx24) (by omega)
  refine gf_lsub [1, 0, 2] rfl ?_
  exact L6_1 _ 17 0 μ (⟨by omega, by omega, rfl, gm_sc_rf⟩) (Nat.lt_succ_self _)
