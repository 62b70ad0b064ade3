/-! the reference: the nearest number with a told check -/
def gm_lm (C : Int → Int → Int → Prop) (M : Int → Int → Int → Int) (L : Int) (D : Int → Int → Int → Prop) : Prop := (L = -1 ∧ ∀ a b v : Int, D a b v → C a b v → False) ∨ (0 ≤ L ∧ (∃ a b v : Int, C a b v ∧ M a b v = L) ∧ ∀ a b v : Int, D a b v → C a b v → L ≤ M a b v)
theorem gm_lm_sub {C : Int → Int → Int → Prop} {M : Int → Int → Int → Int} {L : Int} {D D' : Int → Int → Int → Prop} (h : gm_lm C M L D) (hs : ∀ a b v : Int, D' a b v → C a b v → D a b v) : gm_lm C M L D' := by
  rcases h with ⟨h1, h2⟩ | ⟨h1, h2, h3⟩
  · exact Or.inl ⟨h1, fun a b v hd hc => h2 a b v (hs a b v hd hc) hc⟩
  · exact Or.inr ⟨h1, h2, fun a b v hd hc => h3 a b v (hs a b v hd hc) hc⟩
theorem gm_lm_no {C : Int → Int → Int → Prop} {M : Int → Int → Int → Int} {L a b v : Int} {D D' : Int → Int → Int → Prop} (h : gm_lm C M L D) (hn : ¬ C a b v) (hs : ∀ a' b' v' : Int, D' a' b' v' → D a' b' v' ∨ (a' = a ∧ b' = b ∧ v' = v)) : gm_lm C M L D' := by
  refine gm_lm_sub h (fun a' b' v' hd hc => ?_)
  rcases hs a' b' v' hd with h | ⟨h1, h2, h3⟩
  · exact h
  · rw [h1, h2, h3] at hc; exact absurd hc hn
theorem gm_lm_yes {C : Int → Int → Int → Prop} {M : Int → Int → Int → Int} {L L' a b v : Int} {D D' : Int → Int → Int → Prop} (h : gm_lm C M L D) (hc : C a b v) (h0 : 0 ≤ M a b v) (hL : L' = if L < 0 ∨ M a b v < L then M a b v else L) (hs : ∀ a' b' v' : Int, D' a' b' v' → D a' b' v' ∨ (a' = a ∧ b' = b ∧ v' = v)) : gm_lm C M L' D' := by
  have hLM : (L' = M a b v ∧ (L < 0 ∨ M a b v < L)) ∨ (L' = L ∧ 0 ≤ L ∧ L ≤ M a b v) := by
    by_cases e : L < 0 ∨ M a b v < L
    · rw [if_pos e] at hL; exact Or.inl ⟨hL, e⟩
    · rw [if_neg e] at hL; exact Or.inr ⟨hL, by omega, by omega⟩
  clear hL
  rcases h with ⟨h1, h2⟩ | ⟨h1, h2, h3⟩
  · have hE : L' = M a b v := by omega
    refine Or.inr ⟨by omega, ⟨a, b, v, hc, hE.symm⟩, fun a' b' v' hd hc' => ?_⟩
    rcases hs a' b' v' hd with h | ⟨e1, e2, e3⟩
    · exact absurd hc' (h2 a' b' v' h)
    · rw [e1, e2, e3, hE]; exact Int.le_refl _
  · have hle : L' ≤ M a b v ∧ L' ≤ L ∧ 0 ≤ L' := by omega
    refine Or.inr ⟨hle.2.2, ?_, fun a' b' v' hd hc' => ?_⟩
    · rcases hLM with ⟨e, _⟩ | ⟨e, _⟩
      · exact ⟨a, b, v, hc, e.symm⟩
      · rw [e]; exact h2
    · rcases hs a' b' v' hd with h | ⟨e1, e2, e3⟩
      · have := h3 a' b' v' h hc'; omega
      · rw [e1, e2, e3]; exact hle.1
def gm_y1 (x : Int → Int) (a v : Int) : Int → Int := fun j => if j = a then v else x j
def gm_y2 (x : Int → Int) (a b v : Int) : Int → Int := fun j => if j = b then v / 10 else if j = a then v % 10 else x j
def gm_C1 (μ : gf_M) (i c a b v : Int) : Prop := (0 ≤ a ∧ a < μ 71 1) ∧ b = a ∧ (0 ≤ v ∧ v < 10) ∧ v ≠ gm_x μ a ∧ gm_rk μ i (gm_y1 (gm_x μ) a v) (μ 71 1) = c
def gm_M1 (μ : gf_M) (a b v : Int) : Int := pf_num (gm_y1 (gm_x μ) a v) (μ 71 1).toNat
def gm_C2 (μ : gf_M) (i c a b v : Int) : Prop := (0 ≤ a ∧ a < b ∧ b < μ 71 1) ∧ (0 ≤ v ∧ v < 100) ∧ v % 10 ≠ gm_x μ a ∧ v / 10 ≠ gm_x μ b ∧ gm_rk μ i (gm_y2 (gm_x μ) a b v) (μ 71 1) = c
def gm_M2 (μ : gf_M) (a b v : Int) : Int := pf_num (gm_y2 (gm_x μ) a b v) (μ 71 1).toNat
theorem dd_Mo_leastWith_0 : decode cc_Mo_leastWith 0 = .ok (.aload_n 0, 1) := by decide +kernel
theorem dd_Mo_leastWith_1 : decode cc_Mo_leastWith 1 = .ok (.invokevirtual 149, 3) := by decide +kernel
theorem dd_Mo_leastWith_4 : decode cc_Mo_leastWith 4 = .ok (.iconst (-1), 1) := by decide +kernel
theorem dd_Mo_leastWith_5 : decode cc_Mo_leastWith 5 = .ok (.istore 4, 2) := by decide +kernel
theorem dd_Mo_leastWith_7 : decode cc_Mo_leastWith 7 = .ok (.iconst 0, 1) := by decide +kernel
theorem dd_Mo_leastWith_8 : decode cc_Mo_leastWith 8 = .ok (.istore 5, 2) := by decide +kernel
theorem dd_Mo_leastWith_10 : decode cc_Mo_leastWith 10 = .ok (.iload 5, 2) := by decide +kernel
theorem dd_Mo_leastWith_12 : decode cc_Mo_leastWith 12 = .ok (.aload_n 0, 1) := by decide +kernel
theorem dd_Mo_leastWith_13 : decode cc_Mo_leastWith 13 = .ok (.getfield 146, 3) := by decide +kernel
theorem dd_Mo_leastWith_16 : decode cc_Mo_leastWith 16 = .ok (.if_icmp .ge 235, 3) := by decide +kernel
theorem dd_Mo_leastWith_19 : decode cc_Mo_leastWith 19 = .ok (.iload_n 3, 1) := by decide +kernel
theorem dd_Mo_leastWith_20 : decode cc_Mo_leastWith 20 = .ok (.iconst 1, 1) := by decide +kernel
theorem dd_Mo_leastWith_21 : decode cc_Mo_leastWith 21 = .ok (.if_icmp .ne 8, 3) := by decide +kernel
theorem dd_Mo_leastWith_24 : decode cc_Mo_leastWith 24 = .ok (.iload 5, 2) := by decide +kernel
theorem dd_Mo_leastWith_26 : decode cc_Mo_leastWith 26 = .ok (.goto 7, 3) := by decide +kernel
theorem dd_Mo_leastWith_33 : decode cc_Mo_leastWith 33 = .ok (.istore 6, 2) := by decide +kernel
theorem dd_Mo_leastWith_35 : decode cc_Mo_leastWith 35 = .ok (.iload 6, 2) := by decide +kernel
theorem dd_Mo_leastWith_37 : decode cc_Mo_leastWith 37 = .ok (.iload_n 3, 1) := by decide +kernel
theorem dd_Mo_leastWith_38 : decode cc_Mo_leastWith 38 = .ok (.iconst 1, 1) := by decide +kernel
theorem dd_Mo_leastWith_39 : decode cc_Mo_leastWith 39 = .ok (.if_icmp .ne 10, 3) := by decide +kernel
theorem dd_Mo_leastWith_42 : decode cc_Mo_leastWith 42 = .ok (.iload 5, 2) := by decide +kernel
theorem dd_Mo_leastWith_44 : decode cc_Mo_leastWith 44 = .ok (.iconst 1, 1) := by decide +kernel
theorem dd_Mo_leastWith_45 : decode cc_Mo_leastWith 45 = .ok (.iadd, 1) := by decide +kernel
theorem dd_Mo_leastWith_46 : decode cc_Mo_leastWith 46 = .ok (.goto 7, 3) := by decide +kernel
theorem dd_Mo_leastWith_53 : decode cc_Mo_leastWith 53 = .ok (.if_icmp .ge 192, 3) := by decide +kernel
theorem dd_Mo_leastWith_56 : decode cc_Mo_leastWith 56 = .ok (.aload_n 0, 1) := by decide +kernel
theorem dd_Mo_leastWith_57 : decode cc_Mo_leastWith 57 = .ok (.getfield 36, 3) := by decide +kernel
theorem dd_Mo_leastWith_60 : decode cc_Mo_leastWith 60 = .ok (.iload 5, 2) := by decide +kernel
theorem dd_Mo_leastWith_62 : decode cc_Mo_leastWith 62 = .ok (.iaload, 1) := by decide +kernel
theorem dd_Mo_leastWith_63 : decode cc_Mo_leastWith 63 = .ok (.istore 7, 2) := by decide +kernel
theorem dd_Mo_leastWith_65 : decode cc_Mo_leastWith 65 = .ok (.aload_n 0, 1) := by decide +kernel
theorem dd_Mo_leastWith_66 : decode cc_Mo_leastWith 66 = .ok (.getfield 36, 3) := by decide +kernel
theorem dd_Mo_leastWith_69 : decode cc_Mo_leastWith 69 = .ok (.iload 6, 2) := by decide +kernel
theorem dd_Mo_leastWith_71 : decode cc_Mo_leastWith 71 = .ok (.iaload, 1) := by decide +kernel
theorem dd_Mo_leastWith_72 : decode cc_Mo_leastWith 72 = .ok (.istore 8, 2) := by decide +kernel
theorem dd_Mo_leastWith_74 : decode cc_Mo_leastWith 74 = .ok (.iconst 0, 1) := by decide +kernel
theorem dd_Mo_leastWith_75 : decode cc_Mo_leastWith 75 = .ok (.istore 9, 2) := by decide +kernel
theorem dd_Mo_leastWith_77 : decode cc_Mo_leastWith 77 = .ok (.iload 9, 2) := by decide +kernel
theorem dd_Mo_leastWith_79 : decode cc_Mo_leastWith 79 = .ok (.iload_n 3, 1) := by decide +kernel
theorem dd_Mo_leastWith_80 : decode cc_Mo_leastWith 80 = .ok (.iconst 1, 1) := by decide +kernel
theorem dd_Mo_leastWith_81 : decode cc_Mo_leastWith 81 = .ok (.if_icmp .ne 8, 3) := by decide +kernel
theorem dd_Mo_leastWith_84 : decode cc_Mo_leastWith 84 = .ok (.bipush 10, 2) := by decide +kernel
theorem dd_Mo_leastWith_86 : decode cc_Mo_leastWith 86 = .ok (.goto 5, 3) := by decide +kernel
theorem dd_Mo_leastWith_91 : decode cc_Mo_leastWith 91 = .ok (.if_icmp .ge 130, 3) := by decide +kernel
theorem dd_Mo_leastWith_94 : decode cc_Mo_leastWith 94 = .ok (.aload_n 0, 1) := by decide +kernel
theorem dd_Mo_leastWith_95 : decode cc_Mo_leastWith 95 = .ok (.getfield 36, 3) := by decide +kernel
theorem dd_Mo_leastWith_98 : decode cc_Mo_leastWith 98 = .ok (.iload 5, 2) := by decide +kernel
theorem dd_Mo_leastWith_100 : decode cc_Mo_leastWith 100 = .ok (.iload 9, 2) := by decide +kernel
theorem dd_Mo_leastWith_102 : decode cc_Mo_leastWith 102 = .ok (.bipush 10, 2) := by decide +kernel
theorem dd_Mo_leastWith_104 : decode cc_Mo_leastWith 104 = .ok (.irem, 1) := by decide +kernel
theorem dd_Mo_leastWith_105 : decode cc_Mo_leastWith 105 = .ok (.iastore, 1) := by decide +kernel
theorem dd_Mo_leastWith_106 : decode cc_Mo_leastWith 106 = .ok (.aload_n 0, 1) := by decide +kernel
theorem dd_Mo_leastWith_107 : decode cc_Mo_leastWith 107 = .ok (.getfield 36, 3) := by decide +kernel
theorem dd_Mo_leastWith_110 : decode cc_Mo_leastWith 110 = .ok (.iload 6, 2) := by decide +kernel
theorem dd_Mo_leastWith_112 : decode cc_Mo_leastWith 112 = .ok (.iload_n 3, 1) := by decide +kernel
theorem dd_Mo_leastWith_113 : decode cc_Mo_leastWith 113 = .ok (.iconst 1, 1) := by decide +kernel
theorem dd_Mo_leastWith_114 : decode cc_Mo_leastWith 114 = .ok (.if_icmp .ne 8, 3) := by decide +kernel
theorem dd_Mo_leastWith_117 : decode cc_Mo_leastWith 117 = .ok (.iload 9, 2) := by decide +kernel
theorem dd_Mo_leastWith_119 : decode cc_Mo_leastWith 119 = .ok (.goto 8, 3) := by decide +kernel
theorem dd_Mo_leastWith_127 : decode cc_Mo_leastWith 127 = .ok (.iastore, 1) := by decide +kernel
theorem dd_Mo_leastWith_128 : decode cc_Mo_leastWith 128 = .ok (.aload_n 0, 1) := by decide +kernel
theorem dd_Mo_leastWith_129 : decode cc_Mo_leastWith 129 = .ok (.getfield 36, 3) := by decide +kernel
theorem dd_Mo_leastWith_132 : decode cc_Mo_leastWith 132 = .ok (.iload 5, 2) := by decide +kernel
theorem dd_Mo_leastWith_134 : decode cc_Mo_leastWith 134 = .ok (.iaload, 1) := by decide +kernel
theorem dd_Mo_leastWith_135 : decode cc_Mo_leastWith 135 = .ok (.iload 7, 2) := by decide +kernel
theorem dd_Mo_leastWith_137 : decode cc_Mo_leastWith 137 = .ok (.if_icmp .eq 36, 3) := by decide +kernel
theorem dd_Mo_leastWith_140 : decode cc_Mo_leastWith 140 = .ok (.aload_n 0, 1) := by decide +kernel
theorem dd_Mo_leastWith_141 : decode cc_Mo_leastWith 141 = .ok (.getfield 36, 3) := by decide +kernel
theorem dd_Mo_leastWith_144 : decode cc_Mo_leastWith 144 = .ok (.iload 6, 2) := by decide +kernel
theorem dd_Mo_leastWith_146 : decode cc_Mo_leastWith 146 = .ok (.iaload, 1) := by decide +kernel
theorem dd_Mo_leastWith_147 : decode cc_Mo_leastWith 147 = .ok (.iload 8, 2) := by decide +kernel
theorem dd_Mo_leastWith_149 : decode cc_Mo_leastWith 149 = .ok (.if_icmp .eq 24, 3) := by decide +kernel
theorem dd_Mo_leastWith_152 : decode cc_Mo_leastWith 152 = .ok (.aload_n 0, 1) := by decide +kernel
theorem dd_Mo_leastWith_153 : decode cc_Mo_leastWith 153 = .ok (.iload_n 1, 1) := by decide +kernel
theorem dd_Mo_leastWith_154 : decode cc_Mo_leastWith 154 = .ok (.aload_n 0, 1) := by decide +kernel
theorem dd_Mo_leastWith_155 : decode cc_Mo_leastWith 155 = .ok (.getfield 36, 3) := by decide +kernel
theorem dd_Mo_leastWith_158 : decode cc_Mo_leastWith 158 = .ok (.aload_n 0, 1) := by decide +kernel
theorem dd_Mo_leastWith_159 : decode cc_Mo_leastWith 159 = .ok (.getfield 146, 3) := by decide +kernel
theorem dd_Mo_leastWith_162 : decode cc_Mo_leastWith 162 = .ok (.invokevirtual 152, 3) := by decide +kernel
theorem dd_Mo_leastWith_165 : decode cc_Mo_leastWith 165 = .ok (.iload_n 2, 1) := by decide +kernel
theorem dd_Mo_leastWith_166 : decode cc_Mo_leastWith 166 = .ok (.if_icmp .ne 7, 3) := by decide +kernel
theorem dd_Mo_leastWith_169 : decode cc_Mo_leastWith 169 = .ok (.iconst 1, 1) := by decide +kernel
theorem dd_Mo_leastWith_170 : decode cc_Mo_leastWith 170 = .ok (.goto 4, 3) := by decide +kernel
theorem dd_Mo_leastWith_173 : decode cc_Mo_leastWith 173 = .ok (.iconst 0, 1) := by decide +kernel
theorem dd_Mo_leastWith_174 : decode cc_Mo_leastWith 174 = .ok (.istore 10, 2) := by decide +kernel
theorem dd_Mo_leastWith_176 : decode cc_Mo_leastWith 176 = .ok (.aload_n 0, 1) := by decide +kernel
theorem dd_Mo_leastWith_177 : decode cc_Mo_leastWith 177 = .ok (.getfield 36, 3) := by decide +kernel
theorem dd_Mo_leastWith_180 : decode cc_Mo_leastWith 180 = .ok (.aload_n 0, 1) := by decide +kernel
theorem dd_Mo_leastWith_181 : decode cc_Mo_leastWith 181 = .ok (.getfield 146, 3) := by decide +kernel
theorem dd_Mo_leastWith_184 : decode cc_Mo_leastWith 184 = .ok (.invokestatic 232, 3) := by decide +kernel
theorem dd_Mo_leastWith_187 : decode cc_Mo_leastWith 187 = .ok (.istore 11, 2) := by decide +kernel
theorem dd_Mo_leastWith_189 : decode cc_Mo_leastWith 189 = .ok (.iload 10, 2) := by decide +kernel
theorem dd_Mo_leastWith_191 : decode cc_Mo_leastWith 191 = .ok (.ifCond .eq 20, 3) := by decide +kernel
theorem dd_Mo_leastWith_194 : decode cc_Mo_leastWith 194 = .ok (.iload 4, 2) := by decide +kernel
theorem dd_Mo_leastWith_196 : decode cc_Mo_leastWith 196 = .ok (.ifCond .lt 10, 3) := by decide +kernel
theorem dd_Mo_leastWith_199 : decode cc_Mo_leastWith 199 = .ok (.iload 11, 2) := by decide +kernel
theorem dd_Mo_leastWith_201 : decode cc_Mo_leastWith 201 = .ok (.iload 4, 2) := by decide +kernel
theorem dd_Mo_leastWith_203 : decode cc_Mo_leastWith 203 = .ok (.if_icmp .ge 8, 3) := by decide +kernel
theorem dd_Mo_leastWith_206 : decode cc_Mo_leastWith 206 = .ok (.iload 11, 2) := by decide +kernel
theorem dd_Mo_leastWith_208 : decode cc_Mo_leastWith 208 = .ok (.goto 5, 3) := by decide +kernel
theorem dd_Mo_leastWith_211 : decode cc_Mo_leastWith 211 = .ok (.iload 4, 2) := by decide +kernel
theorem dd_Mo_leastWith_213 : decode cc_Mo_leastWith 213 = .ok (.istore 4, 2) := by decide +kernel
theorem dd_Mo_leastWith_215 : decode cc_Mo_leastWith 215 = .ok (.iinc 9 1, 3) := by decide +kernel
theorem dd_Mo_leastWith_218 : decode cc_Mo_leastWith 218 = .ok (.goto (-141), 3) := by decide +kernel
theorem dd_Mo_leastWith_221 : decode cc_Mo_leastWith 221 = .ok (.aload_n 0, 1) := by decide +kernel
theorem dd_Mo_leastWith_222 : decode cc_Mo_leastWith 222 = .ok (.getfield 36, 3) := by decide +kernel
theorem dd_Mo_leastWith_225 : decode cc_Mo_leastWith 225 = .ok (.iload 5, 2) := by decide +kernel
theorem dd_Mo_leastWith_227 : decode cc_Mo_leastWith 227 = .ok (.iload 7, 2) := by decide +kernel
theorem dd_Mo_leastWith_229 : decode cc_Mo_leastWith 229 = .ok (.iastore, 1) := by decide +kernel
theorem dd_Mo_leastWith_230 : decode cc_Mo_leastWith 230 = .ok (.aload_n 0, 1) := by decide +kernel
theorem dd_Mo_leastWith_231 : decode cc_Mo_leastWith 231 = .ok (.getfield 36, 3) := by decide +kernel
theorem dd_Mo_leastWith_234 : decode cc_Mo_leastWith 234 = .ok (.iload 6, 2) := by decide +kernel
theorem dd_Mo_leastWith_236 : decode cc_Mo_leastWith 236 = .ok (.iload 8, 2) := by decide +kernel
theorem dd_Mo_leastWith_238 : decode cc_Mo_leastWith 238 = .ok (.iastore, 1) := by decide +kernel
theorem dd_Mo_leastWith_239 : decode cc_Mo_leastWith 239 = .ok (.iinc 6 1, 3) := by decide +kernel
theorem dd_Mo_leastWith_242 : decode cc_Mo_leastWith 242 = .ok (.goto (-207), 3) := by decide +kernel
theorem dd_Mo_leastWith_245 : decode cc_Mo_leastWith 245 = .ok (.iinc 5 1, 3) := by decide +kernel
theorem dd_Mo_leastWith_248 : decode cc_Mo_leastWith 248 = .ok (.goto (-238), 3) := by decide +kernel
theorem dd_Mo_leastWith_251 : decode cc_Mo_leastWith 251 = .ok (.iload 4, 2) := by decide +kernel
theorem dd_Mo_leastWith_253 : decode cc_Mo_leastWith 253 = .ok (.ireturn, 1) := by decide +kernel
set_option maxRecDepth 100000 in
set_option maxHeartbeats 4000000 in
theorem ct_Mo_leastWith_1 (l : Launch) (E : gf_E) (i c : Int) (μ : gf_M) (hg : gm_okg μ i) (hcR : gf_R c) (hn : 0 ≤ μ 71 1 ∧ μ 71 1 ≤ 8) (hx : ∀ j : Int, 0 ≤ j → j < μ 71 1 → 0 ≤ μ 71 (24 + j) ∧ μ 71 (24 + j) ≤ 9)  : gf_Mi l E yy_Mo_leastWith cc_Mo_leastWith 12 .int (gf_rm 4 100) 81 gf_ref μ [.ref (gf_ad E 65), .int (gf_i i), .int (gf_i c), .int (gf_i 1)] (fun q μ' => (gm_lm (gm_C1 μ i c) (gm_M1 μ) q (fun _ _ _ => True) ∧ -1 ≤ q ∧ q < 100000000) ∧ gm_sc μ' μ) := by
  refine gf_mi (by decide +kernel) (Nat.le_of_ble_eq_true rfl) (by decide) (fun X Q hlx C hQ => ?_)
  subst hlx
  replace C : gf_C X E cc_Mo_leastWith 12 "GuardFiguresModel" (gf_rm 4 100) := C
  show gf_G X E Q 12 gf_φ μ 0 [(0, .ref (gf_ad E 65)), (1, .int (gf_i i)), (2, .int (gf_i c)), (3, .int (gf_i 1))] []
  have hg0 := hg.1
  refine gf_aload_n C dd_Mo_leastWith_0 0 rfl ?_
  refine gf_callVv (st := []) (As := []) C wk_Mo_149 gf_cl7 (show gf_is 81 65 0 7 26 by decide) (ct_Mo_write (gf_xl X) E μ hn) rfl ⟨rfl, rfl, rfl, rfl⟩ (Nat.le_of_ble_eq_true rfl) rfl dd_Mo_leastWith_1 (fun m1 hp1 => ?_)
  obtain ⟨hw15, hw73, hwf⟩ := hp1
  refine gf_iconst C dd_Mo_leastWith_4 ?_
  refine gf_istore (lv' := [(4, .int (gf_i (-1))), (0, .ref (gf_ad E 65)), (1, .int (gf_i i)), (2, .int (gf_i c)), (3, .int (gf_i 1))]) C dd_Mo_leastWith_5 (by decide) rfl ?_
  refine gf_iconst C dd_Mo_leastWith_7 ?_
  refine gf_istore (lv' := [(5, .int (gf_i 0)), (4, .int (gf_i (-1))), (0, .ref (gf_ad E 65)), (1, .int (gf_i i)), (2, .int (gf_i c)), (3, .int (gf_i 1))]) C dd_Mo_leastWith_8 (by decide) rfl ?_
  have L10_1 : ∀ (N : Nat) (L a : Int) (m : gf_M) , (0 ≤ a ∧ a ≤ μ 71 1 ∧ (-1 ≤ L ∧ L < 100000000) ∧ gm_lm (gm_C1 μ i c) (gm_M1 μ) L (fun a' b' v' => a' < a) ∧ m 65 15 = μ 71 1 ∧ (∀ j : Int, 0 ≤ j → j < 8 → m 73 j = gm_x μ j) ∧ ∀ a b : Int, ¬ (a = 65 ∧ b = 15) → a ≠ 73 → m a b = μ a b) → (8 - a).toNat < N → gf_G X E Q 12 gf_φ m 10 [(4, .int (gf_i L)), (5, .int (gf_i a)), (0, .ref (gf_ad E 65)), (1, .int (gf_i i)), (2, .int (gf_i c)), (3, .int (gf_i 1))] [] := by
    intro N
    induction N with
    | zero => intro L a m hinv hN; exact absurd hN (Nat.not_lt_zero _)
    | succ N ih10_1 =>
      intro L a m hinv hN
      have hinv0 := hinv
      obtain ⟨ha0, ha1, haR, hal, ha15, ha73, haf⟩ := hinv
      refine gf_iload C dd_Mo_leastWith_10 1 rfl ?_
      refine gf_aload_n C dd_Mo_leastWith_12 2 rfl ?_
      refine gf_getI (z := 15) C gf_cl7 fl_Mo_146 dd_Mo_leastWith_13 rfl rfl (show gf_is 81 65 0 7 26 by decide) (fun hv13 => ?_)
      refine gf_icmp_ge 251 C dd_Mo_leastWith_16 (by decide) (by omega) (by omega) (fun h16 => ?_) (fun h16 => ?_)
      · skip
        refine gf_iload C dd_Mo_leastWith_251 0 rfl ?_
        refine gf_iret C hQ dd_Mo_leastWith_253 (by omega) ?_
        exact ⟨⟨gm_lm_sub hal (fun a' b' v' _ hc => by have := hc.1; omega), haR⟩, fun a b hab => by unfold gm_scr at hab; exact haf a b (by omega) (by omega)⟩
      · skip
        refine gf_iload_n C dd_Mo_leastWith_19 5 rfl ?_
        refine gf_iconst C dd_Mo_leastWith_20 ?_
        refine gf_icmp_ne 29 C dd_Mo_leastWith_21 (by decide) (by omega) (by omega) (fun h21 => ?_) (fun h21 => ?_)
        · exact absurd h21 (by decide)
        · skip
          refine gf_iload C dd_Mo_leastWith_24 1 rfl ?_
          refine gf_goto 33 C dd_Mo_leastWith_26 (by decide) ?_
          refine gf_istore (lv' := [(6, .int (gf_i a)), (4, .int (gf_i L)), (5, .int (gf_i a)), (0, .ref (gf_ad E 65)), (1, .int (gf_i i)), (2, .int (gf_i c)), (3, .int (gf_i 1))]) C dd_Mo_leastWith_33 (by decide) rfl ?_
          have L35_2 : ∀ (N : Nat) (L2 b : Int) (m2 : gf_M) , ((b = a ∨ b = a + 1) ∧ (-1 ≤ L2 ∧ L2 < 100000000) ∧ gm_lm (gm_C1 μ i c) (gm_M1 μ) L2 (fun a' b' v' => a' < a ∨ (a' = a ∧ b' < b)) ∧ m2 65 15 = μ 71 1 ∧ (∀ j : Int, 0 ≤ j → j < 8 → m2 73 j = gm_x μ j) ∧ ∀ a b : Int, ¬ (a = 65 ∧ b = 15) → a ≠ 73 → m2 a b = μ a b) → (9 - b).toNat < N → gf_G X E Q 12 gf_φ m2 35 [(4, .int (gf_i L2)), (6, .int (gf_i b)), (0, .ref (gf_ad E 65)), (1, .int (gf_i i)), (2, .int (gf_i c)), (3, .int (gf_i 1)), (5, .int (gf_i a))] [] := by
            intro N
            induction N with
            | zero => intro L2 b m2 hinv hN; exact absurd hN (Nat.not_lt_zero _)
            | succ N ih35_2 =>
              intro L2 b m2 hinv hN
              have hinv0 := hinv
              obtain ⟨hb0, hbR, hbl, hb15, hb73, hbf⟩ := hinv
              refine gf_iload C dd_Mo_leastWith_35 1 rfl ?_
              refine gf_iload_n C dd_Mo_leastWith_37 5 rfl ?_
              refine gf_iconst C dd_Mo_leastWith_38 ?_
              refine gf_icmp_ne 49 C dd_Mo_leastWith_39 (by decide) (by omega) (by omega) (fun h39 => ?_) (fun h39 => ?_)
              · exact absurd h39 (by decide)
              · skip
                refine gf_iload C dd_Mo_leastWith_42 6 rfl ?_
                refine gf_iconst C dd_Mo_leastWith_44 ?_
                refine gf_iadd C dd_Mo_leastWith_45 ?_
                refine gf_goto 53 C dd_Mo_leastWith_46 (by decide) ?_
                refine gf_icmp_ge 245 C dd_Mo_leastWith_53 (by decide) (by omega) (by omega) (fun h53 => ?_) (fun h53 => ?_)
                · skip
                  obtain ⟨x245, hx245⟩ : ∃ y : Int, y = a + 1 := ⟨_, rfl⟩
                  refine gf_iinc (q := 6) (v := x245) (lv' := [(5, .int (gf_i x245)), (4, .int (gf_i L2)), (6, .int (gf_i b)), (0, .ref (gf_ad E 65)), (1, .int (gf_i i)), (2, .int (gf_i c)), (3, .int (gf_i 1))]) C dd_Mo_leastWith_245 rfl hx245 (by decide) rfl ?_
                  refine gf_goto 10 C dd_Mo_leastWith_248 (by decide) ?_
                  refine gf_lsub [1, 0, 3, 4, 5, 6] rfl ?_
                  exact ih10_1 L2 x245 m2 (by
                          refine ⟨by omega, by omega, hbR, gm_lm_sub hbl (fun a' b' v' hd hc => ?_), hb15, hb73, hbf⟩
                          rcases (show a' < a ∨ a' = a by omega) with h | h
                          · exact Or.inl h
                          · exact Or.inr ⟨h, by have := hc.2.1; omega⟩) (by omega)
                · skip
                  have hab : 0 ≤ b ∧ b < μ 71 1 ∧ b = a := by omega
                  refine gf_aload_n C dd_Mo_leastWith_56 2 rfl ?_
                  refine gf_getA (r := 73) C gf_cl7 fl_Mo_36 dd_Mo_leastWith_57 rfl (show gf_is 81 65 0 7 26 by decide) (by decide) (by decide) ?_
                  refine gf_iload C dd_Mo_leastWith_60 6 rfl ?_
                  refine gf_iald C dd_Mo_leastWith_62 (show gf_is 81 73 1 0 8 by decide) (by omega) (fun hv62 => ?_)
                  refine gf_nm (fun x63 hx63 => ?_)
                  refine gf_istore (lv' := [(7, .int (gf_i x63)), (4, .int (gf_i L2)), (6, .int (gf_i b)), (0, .ref (gf_ad E 65)), (1, .int (gf_i i)), (2, .int (gf_i c)), (3, .int (gf_i 1)), (5, .int (gf_i a))]) C dd_Mo_leastWith_63 (by decide) rfl ?_
                  refine gf_aload_n C dd_Mo_leastWith_65 3 rfl ?_
                  refine gf_getA (r := 73) C gf_cl7 fl_Mo_36 dd_Mo_leastWith_66 rfl (show gf_is 81 65 0 7 26 by decide) (by decide) (by decide) ?_
                  refine gf_iload C dd_Mo_leastWith_69 2 rfl ?_
                  refine gf_iald C dd_Mo_leastWith_71 (show gf_is 81 73 1 0 8 by decide) (by omega) (fun hv71 => ?_)
                  refine gf_nm (fun x72 hx72 => ?_)
                  refine gf_istore (lv' := [(8, .int (gf_i x72)), (7, .int (gf_i x63)), (4, .int (gf_i L2)), (6, .int (gf_i b)), (0, .ref (gf_ad E 65)), (1, .int (gf_i i)), (2, .int (gf_i c)), (3, .int (gf_i 1)), (5, .int (gf_i a))]) C dd_Mo_leastWith_72 (by decide) rfl ?_
                  have hone : x63 = gm_x μ a := by rw [hx63]; exact hb73 a (by omega) (by omega)
                  have htwo : x72 = gm_x μ b := by rw [hx72]; exact hb73 b (by omega) (by omega)
                  have hxa := hx a (by omega) (by omega)
                  have hxb := hx b (by omega) (by omega)
                  have hxa2 : gm_x μ a = μ 71 (24 + a) := rfl
                  have hxb2 : gm_x μ b = μ 71 (24 + b) := rfl
                  refine gf_iconst C dd_Mo_leastWith_74 ?_
                  refine gf_istore (lv' := [(9, .int (gf_i 0)), (8, .int (gf_i x72)), (7, .int (gf_i x63)), (4, .int (gf_i L2)), (6, .int (gf_i b)), (0, .ref (gf_ad E 65)), (1, .int (gf_i i)), (2, .int (gf_i c)), (3, .int (gf_i 1)), (5, .int (gf_i a))]) C dd_Mo_leastWith_75 (by decide) rfl ?_
                  have L77_3 : ∀ (N : Nat) (L3 v : Int) (m3 : gf_M) , (0 ≤ v ∧ v ≤ 10 ∧ (-1 ≤ L3 ∧ L3 < 100000000) ∧ gm_lm (gm_C1 μ i c) (gm_M1 μ) L3 (fun a' b' v' => a' < a ∨ (a' = a ∧ (b' < b ∨ (b' = b ∧ v' < v)))) ∧ m3 65 15 = μ 71 1 ∧ (∀ j : Int, 0 ≤ j → j < 8 → j ≠ a → m3 73 j = gm_x μ j) ∧ ∀ a b : Int, ¬ (a = 65 ∧ b = 15) → a ≠ 73 → m3 a b = μ a b) → (10 - v).toNat < N → gf_G X E Q 12 gf_φ m3 77 [(4, .int (gf_i L3)), (9, .int (gf_i v)), (0, .ref (gf_ad E 65)), (1, .int (gf_i i)), (2, .int (gf_i c)), (3, .int (gf_i 1)), (5, .int (gf_i a)), (6, .int (gf_i b)), (7, .int (gf_i x63)), (8, .int (gf_i x72))] [] := by
                    intro N
                    induction N with
                    | zero => intro L3 v m3 hinv hN; exact absurd hN (Nat.not_lt_zero _)
                    | succ N ih77_3 =>
                      intro L3 v m3 hinv hN
                      have hinv0 := hinv
                      obtain ⟨hv0, hv1, hvR, hvl, hv15, hv73, hvf⟩ := hinv
                      refine gf_iload C dd_Mo_leastWith_77 1 rfl ?_
                      refine gf_iload_n C dd_Mo_leastWith_79 5 rfl ?_
                      refine gf_iconst C dd_Mo_leastWith_80 ?_
                      refine gf_icmp_ne 89 C dd_Mo_leastWith_81 (by decide) (by omega) (by omega) (fun h81 => ?_) (fun h81 => ?_)
                      · exact absurd h81 (by decide)
                      · skip
                        refine gf_bipush C dd_Mo_leastWith_84 (by decide +kernel) ?_
                        refine gf_goto 91 C dd_Mo_leastWith_86 (by decide) ?_
                        refine gf_icmp_ge 221 C dd_Mo_leastWith_91 (by decide) (by omega) (by omega) (fun h91 => ?_) (fun h91 => ?_)
                        · skip
                          refine gf_aload_n C dd_Mo_leastWith_221 2 rfl ?_
                          refine gf_getA (r := 73) C gf_cl7 fl_Mo_36 dd_Mo_leastWith_222 rfl (show gf_is 81 65 0 7 26 by decide) (by decide) (by decide) ?_
                          refine gf_iload C dd_Mo_leastWith_225 6 rfl ?_
                          refine gf_iload C dd_Mo_leastWith_227 8 rfl ?_
                          refine gf_iast C dd_Mo_leastWith_229 (show gf_is 81 73 1 0 8 by decide) (by omega) (by omega) ?_
                          refine gf_nmM (fun m229 hm229 => ?_)
                          refine gf_aload_n C dd_Mo_leastWith_230 2 rfl ?_
                          refine gf_getA (r := 73) C gf_cl7 fl_Mo_36 dd_Mo_leastWith_231 rfl (show gf_is 81 65 0 7 26 by decide) (by decide) (by decide) ?_
                          refine gf_iload C dd_Mo_leastWith_234 7 rfl ?_
                          refine gf_iload C dd_Mo_leastWith_236 9 rfl ?_
                          refine gf_iast C dd_Mo_leastWith_238 (show gf_is 81 73 1 0 8 by decide) (by omega) (by omega) ?_
                          refine gf_nmM (fun m238 hm238 => ?_)
                          obtain ⟨x239, hx239⟩ : ∃ y : Int, y = b + 1 := ⟨_, rfl⟩
                          refine gf_iinc (q := 7) (v := x239) (lv' := [(6, .int (gf_i x239)), (4, .int (gf_i L3)), (9, .int (gf_i v)), (0, .ref (gf_ad E 65)), (1, .int (gf_i i)), (2, .int (gf_i c)), (3, .int (gf_i 1)), (5, .int (gf_i a)), (7, .int (gf_i x63)), (8, .int (gf_i x72))]) C dd_Mo_leastWith_239 rfl hx239 (by decide) rfl ?_
                          refine gf_goto 35 C dd_Mo_leastWith_242 (by decide) ?_
                          refine gf_lsub [1, 0, 3, 4, 5, 6, 7] rfl ?_
                          exact ih35_2 L3 x239 m238 (by
                                  have o238 : ∀ a b : Int, a ≠ 73 → m238 a b = m3 a b := fun a b h => by rw [hm238, gf_up_k h, hm229, gf_up_k h]
                                  refine ⟨by omega, hvR, gm_lm_sub hvl (fun a' b' v' hd hc => ?_), by rw [o238 65 15 (by decide)]; exact hv15, fun j h0 h1 => ?_, fun a b h1 h2 => by rw [o238 a b h2]; exact hvf a b h1 h2⟩
                                  · rcases hd with h | ⟨h, h2⟩
                                    · exact Or.inl h
                                    · refine Or.inr ⟨h, ?_⟩
                                      rcases (show b' < b ∨ b' = b by omega) with h3 | h3
                                      · exact Or.inl h3
                                      · exact Or.inr ⟨h3, by have := hc.2.2.1; omega⟩
                                  · rw [hm238, hm229]
                                    by_cases e : j = b
                                    · rw [e, gf_up_s]; exact htwo
                                    · rw [gf_up_j e]
                                      by_cases e2 : j = a
                                      · rw [e2, gf_up_s]; exact hone
                                      · rw [gf_up_j e2]; exact hv73 j h0 h1 e2) (by omega)
                        · skip
                          have hba : b = a := by omega
                          refine gf_aload_n C dd_Mo_leastWith_94 2 rfl ?_
                          refine gf_getA (r := 73) C gf_cl7 fl_Mo_36 dd_Mo_leastWith_95 rfl (show gf_is 81 65 0 7 26 by decide) (by decide) (by decide) ?_
                          refine gf_iload C dd_Mo_leastWith_98 6 rfl ?_
                          refine gf_iload C dd_Mo_leastWith_100 1 rfl ?_
                          refine gf_bipush C dd_Mo_leastWith_102 (by decide +kernel) ?_
                          refine gf_irem C dd_Mo_leastWith_104 (by omega) ?_
                          refine gf_iast C dd_Mo_leastWith_105 (show gf_is 81 73 1 0 8 by decide) (by omega) (by omega) ?_
                          refine gf_nmM (fun m105 hm105 => ?_)
                          refine gf_aload_n C dd_Mo_leastWith_106 2 rfl ?_
                          refine gf_getA (r := 73) C gf_cl7 fl_Mo_36 dd_Mo_leastWith_107 rfl (show gf_is 81 65 0 7 26 by decide) (by decide) (by decide) ?_
                          refine gf_iload C dd_Mo_leastWith_110 7 rfl ?_
                          refine gf_iload_n C dd_Mo_leastWith_112 5 rfl ?_
                          refine gf_iconst C dd_Mo_leastWith_113 ?_
                          refine gf_icmp_ne 122 C dd_Mo_leastWith_114 (by decide) (by omega) (by omega) (fun h114 => ?_) (fun h114 => ?_)
                          · exact absurd h114 (by decide)
                          · skip
                            refine gf_iload C dd_Mo_leastWith_117 1 rfl ?_
                            refine gf_goto 127 C dd_Mo_leastWith_119 (by decide) ?_
                            refine gf_iast C dd_Mo_leastWith_127 (show gf_is 81 73 1 0 8 by decide) (by omega) (by omega) ?_
                            refine gf_nmM (fun m127 hm127 => ?_)
                            have f127 : ∀ j : Int, 0 ≤ j → j < 8 → m127 73 j = (gm_y1 (gm_x μ) a v) j := fun j h0 h1 => by
                              rw [hm127, hm105]
                              unfold gm_y1
                              by_cases e : j = a
                              · rw [if_pos e, e, hba, gf_up_s]
                              · rw [if_neg e, gf_up_j (by omega), gf_up_j e]; exact hv73 j h0 h1 e
                            have hyR : ∀ j : Int, 0 ≤ j → j < μ 71 1 → 0 ≤ (gm_y1 (gm_x μ) a v) j ∧ (gm_y1 (gm_x μ) a v) j ≤ 9 := fun j h0 h1 => by
                              unfold gm_y1
                              split
                              · omega
                              · exact hx j h0 h1
                            have o127 : ∀ a b : Int, a ≠ 73 → m127 a b = m3 a b := fun a b h => by rw [hm127, gf_up_k h, hm105, gf_up_k h]
                            have e127 : m127 65 15 = μ 71 1 := by rw [o127 65 15 (by decide)]; exact hv15
                            have q127 : ∀ b : Int, m127 71 b = μ 71 b := fun b => by rw [o127 71 b (by decide)]; exact hvf 71 b (by omega) (by omega)
                            have ya := f127 a (by omega) (by omega)
                            have yb := f127 b (by omega) (by omega)
                            have hF127 : ∀ j : Int, 0 ≤ j → j < m127 65 15 → 0 ≤ m127 73 j ∧ m127 73 j ≤ 9 := fun j h0 h1 => by
                              rw [f127 j h0 (by omega)]
                              exact hyR j h0 (by omega)
                            have yv : gm_y1 (gm_x μ) a v a = v := if_pos rfl
                            rw [yv] at ya
                            have yb2 : m127 73 b = v := by rw [yb, hba]; exact yv
                            have gab : gm_x μ b = gm_x μ a := by rw [hba]
                            refine gf_aload_n C dd_Mo_leastWith_128 2 rfl ?_
                            refine gf_getA (r := 73) C gf_cl7 fl_Mo_36 dd_Mo_leastWith_129 rfl (show gf_is 81 65 0 7 26 by decide) (by decide) (by decide) ?_
                            refine gf_iload C dd_Mo_leastWith_132 6 rfl ?_
                            refine gf_iald C dd_Mo_leastWith_134 (show gf_is 81 73 1 0 8 by decide) (by omega) (fun hv134 => ?_)
                            refine gf_iload C dd_Mo_leastWith_135 8 rfl ?_
                            refine gf_icmp_eq 173 C dd_Mo_leastWith_137 (by decide) (by omega) (by omega) (fun h137 => ?_) (fun h137 => ?_)
                            · skip
                              refine gf_iconst C dd_Mo_leastWith_173 ?_
                              refine gf_istore (lv' := [(10, .int (gf_i 0)), (4, .int (gf_i L3)), (9, .int (gf_i v)), (0, .ref (gf_ad E 65)), (1, .int (gf_i i)), (2, .int (gf_i c)), (3, .int (gf_i 1)), (5, .int (gf_i a)), (6, .int (gf_i b)), (7, .int (gf_i x63)), (8, .int (gf_i x72))]) C dd_Mo_leastWith_174 (by decide) rfl ?_
                              refine gf_aload_n C dd_Mo_leastWith_176 3 rfl ?_
                              refine gf_getA (r := 73) C gf_cl7 fl_Mo_36 dd_Mo_leastWith_177 rfl (show gf_is 81 65 0 7 26 by decide) (by decide) (by decide) ?_
                              refine gf_aload_n C dd_Mo_leastWith_180 3 rfl ?_
                              refine gf_getI (z := 15) C gf_cl7 fl_Mo_146 dd_Mo_leastWith_181 rfl rfl (show gf_is 81 65 0 7 26 by decide) (fun hv181 => ?_)
                              refine gf_callSi (st := []) (As := [.ref (gf_ad E 73), .int (gf_i (m127 65 15))]) C wk_Mo_232 (ct_Mo_asNumber (gf_xl X) E 73 (m127 65 15) 8 m127 (show gf_is 81 73 1 0 8 by decide) (by omega) hF127) rfl ⟨rfl, rfl, rfl, rfl⟩ (Nat.le_of_ble_eq_true rfl) rfl dd_Mo_leastWith_184 (fun r184 m184 hR184 hp184 => ?_)
                              have hr184 := hp184.1
                              refine gf_pm hp184.2 ?_
                              have hnum : r184 = gm_M1 μ a b v := by
                                rw [hr184.1, e127]
                                exact pf_num_congr _ (fun j h0 h1 => f127 j h0 (by omega))
                              have hnR := hr184.2
                              clear hr184 hp184
                              refine gf_istore (lv' := [(11, .int (gf_i r184)), (10, .int (gf_i 0)), (4, .int (gf_i L3)), (9, .int (gf_i v)), (0, .ref (gf_ad E 65)), (1, .int (gf_i i)), (2, .int (gf_i c)), (3, .int (gf_i 1)), (5, .int (gf_i a)), (6, .int (gf_i b)), (7, .int (gf_i x63)), (8, .int (gf_i x72))]) C dd_Mo_leastWith_187 (by decide) rfl ?_
                              refine gf_iload C dd_Mo_leastWith_189 1 rfl ?_
                              refine gf_if_eq 211 C dd_Mo_leastWith_191 (by decide) (by omega) (fun h191 => ?_) (fun h191 => ?_)
                              · skip
                                refine gf_iload C dd_Mo_leastWith_211 2 rfl ?_
                                refine gf_istore (lv' := [(4, .int (gf_i L3)), (11, .int (gf_i r184)), (10, .int (gf_i 0)), (9, .int (gf_i v)), (0, .ref (gf_ad E 65)), (1, .int (gf_i i)), (2, .int (gf_i c)), (3, .int (gf_i 1)), (5, .int (gf_i a)), (6, .int (gf_i b)), (7, .int (gf_i x63)), (8, .int (gf_i x72))]) C dd_Mo_leastWith_213 (by decide) rfl ?_
                                obtain ⟨x215, hx215⟩ : ∃ y : Int, y = v + 1 := ⟨_, rfl⟩
                                refine gf_iinc (q := 3) (v := x215) (lv' := [(9, .int (gf_i x215)), (4, .int (gf_i L3)), (11, .int (gf_i r184)), (10, .int (gf_i 0)), (0, .ref (gf_ad E 65)), (1, .int (gf_i i)), (2, .int (gf_i c)), (3, .int (gf_i 1)), (5, .int (gf_i a)), (6, .int (gf_i b)), (7, .int (gf_i x63)), (8, .int (gf_i x72))]) C dd_Mo_leastWith_215 rfl hx215 (by decide) rfl ?_
                                refine gf_goto 77 C dd_Mo_leastWith_218 (by decide) ?_
                                refine gf_lsub [1, 0, 4, 5, 6, 7, 8, 9, 10, 11] rfl ?_
                                exact ih77_3 L3 x215 m127 (by
                                        refine ⟨by omega, by omega, by omega, ?_, e127, fun j h0 h1 h2 => ?_, fun a b h1 h2 => by rw [o127 a b h2]; exact hvf a b h1 h2⟩
                                        · have hs : ∀ a' b' v' : Int, (a' < a ∨ (a' = a ∧ (b' < b ∨ (b' = b ∧ v' < x215)))) → (a' < a ∨ (a' = a ∧ (b' < b ∨ (b' = b ∧ v' < v)))) ∨ (a' = a ∧ b' = b ∧ v' = v) := fun a' b' v' h => by omega
                                          first
                                          | (have hnc : ¬ gm_C1 μ i c a b v := fun h => by
                                               have h1 := h.2.2.2.1
                                               have h2 := h.2.2.2.2
                                               first | omega | (rw [← hre] at h2; omega)
                                             exact gm_lm_no hvl hnc hs)
                                          | (have hcc : gm_C1 μ i c a b v := ⟨⟨by omega, by omega⟩, by omega, ⟨by omega, by omega⟩, by omega, by rw [← hre]; omega⟩
                                             refine gm_lm_yes hvl hcc (by omega) ?_ hs
                                             rw [← hnum]
                                             first | (rw [if_pos (by omega)]; done) | (rw [if_neg (by omega)]; done))
                                        · rw [f127 j h0 h1]
                                          unfold gm_y1
                                          rw [if_neg h2]) (by omega)
                              · exact absurd h191 (by decide)
                            · skip
                              refine gf_aload_n C dd_Mo_leastWith_140 2 rfl ?_
                              refine gf_getA (r := 73) C gf_cl7 fl_Mo_36 dd_Mo_leastWith_141 rfl (show gf_is 81 65 0 7 26 by decide) (by decide) (by decide) ?_
                              refine gf_iload C dd_Mo_leastWith_144 7 rfl ?_
                              refine gf_iald C dd_Mo_leastWith_146 (show gf_is 81 73 1 0 8 by decide) (by omega) (fun hv146 => ?_)
                              refine gf_iload C dd_Mo_leastWith_147 9 rfl ?_
                              refine gf_icmp_eq 173 C dd_Mo_leastWith_149 (by decide) (by omega) (by omega) (fun h149 => ?_) (fun h149 => ?_)
                              · skip
                                refine gf_iconst C dd_Mo_leastWith_173 ?_
                                refine gf_istore (lv' := [(10, .int (gf_i 0)), (4, .int (gf_i L3)), (9, .int (gf_i v)), (0, .ref (gf_ad E 65)), (1, .int (gf_i i)), (2, .int (gf_i c)), (3, .int (gf_i 1)), (5, .int (gf_i a)), (6, .int (gf_i b)), (7, .int (gf_i x63)), (8, .int (gf_i x72))]) C dd_Mo_leastWith_174 (by decide) rfl ?_
                                refine gf_aload_n C dd_Mo_leastWith_176 3 rfl ?_
                                refine gf_getA (r := 73) C gf_cl7 fl_Mo_36 dd_Mo_leastWith_177 rfl (show gf_is 81 65 0 7 26 by decide) (by decide) (by decide) ?_
                                refine gf_aload_n C dd_Mo_leastWith_180 3 rfl ?_
                                refine gf_getI (z := 15) C gf_cl7 fl_Mo_146 dd_Mo_leastWith_181 rfl rfl (show gf_is 81 65 0 7 26 by decide) (fun hv181 => ?_)
                                refine gf_callSi (st := []) (As := [.ref (gf_ad E 73), .int (gf_i (m127 65 15))]) C wk_Mo_232 (ct_Mo_asNumber (gf_xl X) E 73 (m127 65 15) 8 m127 (show gf_is 81 73 1 0 8 by decide) (by omega) hF127) rfl ⟨rfl, rfl, rfl, rfl⟩ (Nat.le_of_ble_eq_true rfl) rfl dd_Mo_leastWith_184 (fun r184 m184 hR184 hp184 => ?_)
                                have hr184 := hp184.1
                                refine gf_pm hp184.2 ?_
                                have hnum : r184 = gm_M1 μ a b v := by
                                  rw [hr184.1, e127]
                                  exact pf_num_congr _ (fun j h0 h1 => f127 j h0 (by omega))
                                have hnR := hr184.2
                                clear hr184 hp184
                                refine gf_istore (lv' := [(11, .int (gf_i r184)), (10, .int (gf_i 0)), (4, .int (gf_i L3)), (9, .int (gf_i v)), (0, .ref (gf_ad E 65)), (1, .int (gf_i i)), (2, .int (gf_i c)), (3, .int (gf_i 1)), (5, .int (gf_i a)), (6, .int (gf_i b)), (7, .int (gf_i x63)), (8, .int (gf_i x72))]) C dd_Mo_leastWith_187 (by decide) rfl ?_
                                refine gf_iload C dd_Mo_leastWith_189 1 rfl ?_
                                refine gf_if_eq 211 C dd_Mo_leastWith_191 (by decide) (by omega) (fun h191 => ?_) (fun h191 => ?_)
                                · skip
                                  refine gf_iload C dd_Mo_leastWith_211 2 rfl ?_
                                  refine gf_istore (lv' := [(4, .int (gf_i L3)), (11, .int (gf_i r184)), (10, .int (gf_i 0)), (9, .int (gf_i v)), (0, .ref (gf_ad E 65)), (1, .int (gf_i i)), (2, .int (gf_i c)), (3, .int (gf_i 1)), (5, .int (gf_i a)), (6, .int (gf_i b)), (7, .int (gf_i x63)), (8, .int (gf_i x72))]) C dd_Mo_leastWith_213 (by decide) rfl ?_
                                  obtain ⟨x215, hx215⟩ : ∃ y : Int, y = v + 1 := ⟨_, rfl⟩
                                  refine gf_iinc (q := 3) (v := x215) (lv' := [(9, .int (gf_i x215)), (4, .int (gf_i L3)), (11, .int (gf_i r184)), (10, .int (gf_i 0)), (0, .ref (gf_ad E 65)), (1, .int (gf_i i)), (2, .int (gf_i c)), (3, .int (gf_i 1)), (5, .int (gf_i a)), (6, .int (gf_i b)), (7, .int (gf_i x63)), (8, .int (gf_i x72))]) C dd_Mo_leastWith_215 rfl hx215 (by decide) rfl ?_
                                  refine gf_goto 77 C dd_Mo_leastWith_218 (by decide) ?_
                                  refine gf_lsub [1, 0, 4, 5, 6, 7, 8, 9, 10, 11] rfl ?_
                                  exact ih77_3 L3 x215 m127 (by
                                          refine ⟨by omega, by omega, by omega, ?_, e127, fun j h0 h1 h2 => ?_, fun a b h1 h2 => by rw [o127 a b h2]; exact hvf a b h1 h2⟩
                                          · have hs : ∀ a' b' v' : Int, (a' < a ∨ (a' = a ∧ (b' < b ∨ (b' = b ∧ v' < x215)))) → (a' < a ∨ (a' = a ∧ (b' < b ∨ (b' = b ∧ v' < v)))) ∨ (a' = a ∧ b' = b ∧ v' = v) := fun a' b' v' h => by omega
                                            first
                                            | (have hnc : ¬ gm_C1 μ i c a b v := fun h => by
                                                 have h1 := h.2.2.2.1
                                                 have h2 := h.2.2.2.2
                                                 first | omega | (rw [← hre] at h2; omega)
                                               exact gm_lm_no hvl hnc hs)
                                            | (have hcc : gm_C1 μ i c a b v := ⟨⟨by omega, by omega⟩, by omega, ⟨by omega, by omega⟩, by omega, by rw [← hre]; omega⟩
                                               refine gm_lm_yes hvl hcc (by omega) ?_ hs
                                               rw [← hnum]
                                               first | (rw [if_pos (by omega)]; done) | (rw [if_neg (by omega)]; done))
                                          · rw [f127 j h0 h1]
                                            unfold gm_y1
                                            rw [if_neg h2]) (by omega)
                                · exact absurd h191 (by decide)
                              · skip
                                refine gf_aload_n C dd_Mo_leastWith_152 2 rfl ?_
                                refine gf_iload_n C dd_Mo_leastWith_153 3 rfl ?_
                                refine gf_aload_n C dd_Mo_leastWith_154 2 rfl ?_
                                refine gf_getA (r := 73) C gf_cl7 fl_Mo_36 dd_Mo_leastWith_155 rfl (show gf_is 81 65 0 7 26 by decide) (by decide) (by decide) ?_
                                refine gf_aload_n C dd_Mo_leastWith_158 2 rfl ?_
                                refine gf_getI (z := 15) C gf_cl7 fl_Mo_146 dd_Mo_leastWith_159 rfl rfl (show gf_is 81 65 0 7 26 by decide) (fun hv159 => ?_)
                                refine gf_callVi (st := []) (As := [.int (gf_i i), .ref (gf_ad E 73), .int (gf_i (m127 65 15))]) C wk_Mo_152 gf_cl7 (show gf_is 81 65 0 7 26 by decide) (ct_Mo_byGuard (gf_xl X) E i 73 (m127 65 15) 8 m127 (gm_okg_f hg q127) (show gf_is 81 73 1 0 8 by decide) (by omega) hF127) rfl ⟨rfl, rfl, rfl, rfl⟩ (Nat.le_of_ble_eq_true rfl) rfl dd_Mo_leastWith_162 (fun r162 m162 hR162 hp162 => ?_)
                                have hr162 := hp162.1
                                refine gf_pm hp162.2 ?_
                                have hre : r162 = gm_rk μ i (gm_y1 (gm_x μ) a v) (μ 71 1) := by
                                  rw [hr162.1, gm_rk_f q127, e127]
                                  exact gm_rk_congr (fun j h0 h1 => f127 j h0 (by omega))
                                have hr162b := hr162.2
                                clear hr162 hp162
                                refine gf_iload_n C dd_Mo_leastWith_165 4 rfl ?_
                                refine gf_icmp_ne 173 C dd_Mo_leastWith_166 (by decide) (by omega) (by omega) (fun h166 => ?_) (fun h166 => ?_)
                                · skip
                                  refine gf_iconst C dd_Mo_leastWith_173 ?_
                                  refine gf_istore (lv' := [(10, .int (gf_i 0)), (4, .int (gf_i L3)), (9, .int (gf_i v)), (0, .ref (gf_ad E 65)), (1, .int (gf_i i)), (2, .int (gf_i c)), (3, .int (gf_i 1)), (5, .int (gf_i a)), (6, .int (gf_i b)), (7, .int (gf_i x63)), (8, .int (gf_i x72))]) C dd_Mo_leastWith_174 (by decide) rfl ?_
                                  refine gf_aload_n C dd_Mo_leastWith_176 3 rfl ?_
                                  refine gf_getA (r := 73) C gf_cl7 fl_Mo_36 dd_Mo_leastWith_177 rfl (show gf_is 81 65 0 7 26 by decide) (by decide) (by decide) ?_
                                  refine gf_aload_n C dd_Mo_leastWith_180 3 rfl ?_
                                  refine gf_getI (z := 15) C gf_cl7 fl_Mo_146 dd_Mo_leastWith_181 rfl rfl (show gf_is 81 65 0 7 26 by decide) (fun hv181 => ?_)
                                  refine gf_callSi (st := []) (As := [.ref (gf_ad E 73), .int (gf_i (m127 65 15))]) C wk_Mo_232 (ct_Mo_asNumber (gf_xl X) E 73 (m127 65 15) 8 m127 (show gf_is 81 73 1 0 8 by decide) (by omega) hF127) rfl ⟨rfl, rfl, rfl, rfl⟩ (Nat.le_of_ble_eq_true rfl) rfl dd_Mo_leastWith_184 (fun r184 m184 hR184 hp184 => ?_)
                                  have hr184 := hp184.1
                                  refine gf_pm hp184.2 ?_
                                  have hnum : r184 = gm_M1 μ a b v := by
                                    rw [hr184.1, e127]
                                    exact pf_num_congr _ (fun j h0 h1 => f127 j h0 (by omega))
                                  have hnR := hr184.2
                                  clear hr184 hp184
                                  refine gf_istore (lv' := [(11, .int (gf_i r184)), (10, .int (gf_i 0)), (4, .int (gf_i L3)), (9, .int (gf_i v)), (0, .ref (gf_ad E 65)), (1, .int (gf_i i)), (2, .int (gf_i c)), (3, .int (gf_i 1)), (5, .int (gf_i a)), (6, .int (gf_i b)), (7, .int (gf_i x63)), (8, .int (gf_i x72))]) C dd_Mo_leastWith_187 (by decide) rfl ?_
                                  refine gf_iload C dd_Mo_leastWith_189 1 rfl ?_
                                  refine gf_if_eq 211 C dd_Mo_leastWith_191 (by decide) (by omega) (fun h191 => ?_) (fun h191 => ?_)
                                  · skip
                                    refine gf_iload C dd_Mo_leastWith_211 2 rfl ?_
                                    refine gf_istore (lv' := [(4, .int (gf_i L3)), (11, .int (gf_i r184)), (10, .int (gf_i 0)), (9, .int (gf_i v)), (0, .ref (gf_ad E 65)), (1, .int (gf_i i)), (2, .int (gf_i c)), (3, .int (gf_i 1)), (5, .int (gf_i a)), (6, .int (gf_i b)), (7, .int (gf_i x63)), (8, .int (gf_i x72))]) C dd_Mo_leastWith_213 (by decide) rfl ?_
                                    obtain ⟨x215, hx215⟩ : ∃ y : Int, y = v + 1 := ⟨_, rfl⟩
                                    refine gf_iinc (q := 3) (v := x215) (lv' := [(9, .int (gf_i x215)), (4, .int (gf_i L3)), (11, .int (gf_i r184)), (10, .int (gf_i 0)), (0, .ref (gf_ad E 65)), (1, .int (gf_i i)), (2, .int (gf_i c)), (3, .int (gf_i 1)), (5, .int (gf_i a)), (6, .int (gf_i b)), (7, .int (gf_i x63)), (8, .int (gf_i x72))]) C dd_Mo_leastWith_215 rfl hx215 (by decide) rfl ?_
                                    refine gf_goto 77 C dd_Mo_leastWith_218 (by decide) ?_
                                    refine gf_lsub [1, 0, 4, 5, 6, 7, 8, 9, 10, 11] rfl ?_
                                    exact ih77_3 L3 x215 m127 (by
                                            refine ⟨by omega, by omega, by omega, ?_, e127, fun j h0 h1 h2 => ?_, fun a b h1 h2 => by rw [o127 a b h2]; exact hvf a b h1 h2⟩
                                            · have hs : ∀ a' b' v' : Int, (a' < a ∨ (a' = a ∧ (b' < b ∨ (b' = b ∧ v' < x215)))) → (a' < a ∨ (a' = a ∧ (b' < b ∨ (b' = b ∧ v' < v)))) ∨ (a' = a ∧ b' = b ∧ v' = v) := fun a' b' v' h => by omega
                                              first
                                              | (have hnc : ¬ gm_C1 μ i c a b v := fun h => by
                                                   have h1 := h.2.2.2.1
                                                   have h2 := h.2.2.2.2
                                                   first | omega | (rw [← hre] at h2; omega)
                                                 exact gm_lm_no hvl hnc hs)
                                              | (have hcc : gm_C1 μ i c a b v := ⟨⟨by omega, by omega⟩, by omega, ⟨by omega, by omega⟩, by omega, by rw [← hre]; omega⟩
                                                 refine gm_lm_yes hvl hcc (by omega) ?_ hs
                                                 rw [← hnum]
                                                 first | (rw [if_pos (by omega)]; done) | (rw [if_neg (by omega)]; done))
                                            · rw [f127 j h0 h1]
                                              unfold gm_y1
                                              rw [if_neg h2]) (by omega)
                                  · exact absurd h191 (by decide)
                                · skip
                                  refine gf_iconst C dd_Mo_leastWith_169 ?_
                                  refine gf_goto 174 C dd_Mo_leastWith_170 (by decide) ?_
                                  refine gf_istore (lv' := [(10, .int (gf_i 1)), (4, .int (gf_i L3)), (9, .int (gf_i v)), (0, .ref (gf_ad E 65)), (1, .int (gf_i i)), (2, .int (gf_i c)), (3, .int (gf_i 1)), (5, .int (gf_i a)), (6, .int (gf_i b)), (7, .int (gf_i x63)), (8, .int (gf_i x72))]) C dd_Mo_leastWith_174 (by decide) rfl ?_
                                  refine gf_aload_n C dd_Mo_leastWith_176 3 rfl ?_
                                  refine gf_getA (r := 73) C gf_cl7 fl_Mo_36 dd_Mo_leastWith_177 rfl (show gf_is 81 65 0 7 26 by decide) (by decide) (by decide) ?_
                                  refine gf_aload_n C dd_Mo_leastWith_180 3 rfl ?_
                                  refine gf_getI (z := 15) C gf_cl7 fl_Mo_146 dd_Mo_leastWith_181 rfl rfl (show gf_is 81 65 0 7 26 by decide) (fun hv181 => ?_)
                                  refine gf_callSi (st := []) (As := [.ref (gf_ad E 73), .int (gf_i (m127 65 15))]) C wk_Mo_232 (ct_Mo_asNumber (gf_xl X) E 73 (m127 65 15) 8 m127 (show gf_is 81 73 1 0 8 by decide) (by omega) hF127) rfl ⟨rfl, rfl, rfl, rfl⟩ (Nat.le_of_ble_eq_true rfl) rfl dd_Mo_leastWith_184 (fun r184 m184 hR184 hp184 => ?_)
                                  have hr184 := hp184.1
                                  refine gf_pm hp184.2 ?_
                                  have hnum : r184 = gm_M1 μ a b v := by
                                    rw [hr184.1, e127]
                                    exact pf_num_congr _ (fun j h0 h1 => f127 j h0 (by omega))
                                  have hnR := hr184.2
                                  clear hr184 hp184
                                  refine gf_istore (lv' := [(11, .int (gf_i r184)), (10, .int (gf_i 1)), (4, .int (gf_i L3)), (9, .int (gf_i v)), (0, .ref (gf_ad E 65)), (1, .int (gf_i i)), (2, .int (gf_i c)), (3, .int (gf_i 1)), (5, .int (gf_i a)), (6, .int (gf_i b)), (7, .int (gf_i x63)), (8, .int (gf_i x72))]) C dd_Mo_leastWith_187 (by decide) rfl ?_
                                  refine gf_iload C dd_Mo_leastWith_189 1 rfl ?_
                                  refine gf_if_eq 211 C dd_Mo_leastWith_191 (by decide) (by omega) (fun h191 => ?_) (fun h191 => ?_)
                                  · exact absurd h191 (by decide)
                                  · skip
                                    refine gf_iload C dd_Mo_leastWith_194 2 rfl ?_
                                    refine gf_if_lt 206 C dd_Mo_leastWith_196 (by decide) (by omega) (fun h196 => ?_) (fun h196 => ?_)
                                    · skip
                                      refine gf_iload C dd_Mo_leastWith_206 0 rfl ?_
                                      refine gf_goto 213 C dd_Mo_leastWith_208 (by decide) ?_
                                      refine gf_istore (lv' := [(4, .int (gf_i r184)), (11, .int (gf_i r184)), (10, .int (gf_i 1)), (9, .int (gf_i v)), (0, .ref (gf_ad E 65)), (1, .int (gf_i i)), (2, .int (gf_i c)), (3, .int (gf_i 1)), (5, .int (gf_i a)), (6, .int (gf_i b)), (7, .int (gf_i x63)), (8, .int (gf_i x72))]) C dd_Mo_leastWith_213 (by decide) rfl ?_
                                      obtain ⟨x215, hx215⟩ : ∃ y : Int, y = v + 1 := ⟨_, rfl⟩
                                      refine gf_iinc (q := 3) (v := x215) (lv' := [(9, .int (gf_i x215)), (4, .int (gf_i r184)), (11, .int (gf_i r184)), (10, .int (gf_i 1)), (0, .ref (gf_ad E 65)), (1, .int (gf_i i)), (2, .int (gf_i c)), (3, .int (gf_i 1)), (5, .int (gf_i a)), (6, .int (gf_i b)), (7, .int (gf_i x63)), (8, .int (gf_i x72))]) C dd_Mo_leastWith_215 rfl hx215 (by decide) rfl ?_
                                      refine gf_goto 77 C dd_Mo_leastWith_218 (by decide) ?_
                                      refine gf_lsub [1, 0, 4, 5, 6, 7, 8, 9, 10, 11] rfl ?_
                                      exact ih77_3 r184 x215 m127 (by
                                              refine ⟨by omega, by omega, by omega, ?_, e127, fun j h0 h1 h2 => ?_, fun a b h1 h2 => by rw [o127 a b h2]; exact hvf a b h1 h2⟩
                                              · have hs : ∀ a' b' v' : Int, (a' < a ∨ (a' = a ∧ (b' < b ∨ (b' = b ∧ v' < x215)))) → (a' < a ∨ (a' = a ∧ (b' < b ∨ (b' = b ∧ v' < v)))) ∨ (a' = a ∧ b' = b ∧ v' = v) := fun a' b' v' h => by omega
                                                first
                                                | (have hnc : ¬ gm_C1 μ i c a b v := fun h => by
                                                     have h1 := h.2.2.2.1
                                                     have h2 := h.2.2.2.2
                                                     first | omega | (rw [← hre] at h2; omega)
                                                   exact gm_lm_no hvl hnc hs)
                                                | (have hcc : gm_C1 μ i c a b v := ⟨⟨by omega, by omega⟩, by omega, ⟨by omega, by omega⟩, by omega, by rw [← hre]; omega⟩
                                                   refine gm_lm_yes hvl hcc (by omega) ?_ hs
                                                   rw [← hnum]
                                                   first | (rw [if_pos (by omega)]; done) | (rw [if_neg (by omega)]; done))
                                              · rw [f127 j h0 h1]
                                                unfold gm_y1
                                                rw [if_neg h2]) (by omega)
                                    · skip
                                      refine gf_iload C dd_Mo_leastWith_199 0 rfl ?_
                                      refine gf_iload C dd_Mo_leastWith_201 2 rfl ?_
                                      refine gf_icmp_ge 211 C dd_Mo_leastWith_203 (by decide) (by omega) (by omega) (fun h203 => ?_) (fun h203 => ?_)
                                      · skip
                                        refine gf_iload C dd_Mo_leastWith_211 2 rfl ?_
                                        refine gf_istore (lv' := [(4, .int (gf_i L3)), (11, .int (gf_i r184)), (10, .int (gf_i 1)), (9, .int (gf_i v)), (0, .ref (gf_ad E 65)), (1, .int (gf_i i)), (2, .int (gf_i c)), (3, .int (gf_i 1)), (5, .int (gf_i a)), (6, .int (gf_i b)), (7, .int (gf_i x63)), (8, .int (gf_i x72))]) C dd_Mo_leastWith_213 (by decide) rfl ?_
                                        obtain ⟨x215, hx215⟩ : ∃ y : Int, y = v + 1 := ⟨_, rfl⟩
                                        refine gf_iinc (q := 3) (v := x215) (lv' := [(9, .int (gf_i x215)), (4, .int (gf_i L3)), (11, .int (gf_i r184)), (10, .int (gf_i 1)), (0, .ref (gf_ad E 65)), (1, .int (gf_i i)), (2, .int (gf_i c)), (3, .int (gf_i 1)), (5, .int (gf_i a)), (6, .int (gf_i b)), (7, .int (gf_i x63)), (8, .int (gf_i x72))]) C dd_Mo_leastWith_215 rfl hx215 (by decide) rfl ?_
                                        refine gf_goto 77 C dd_Mo_leastWith_218 (by decide) ?_
                                        refine gf_lsub [1, 0, 4, 5, 6, 7, 8, 9, 10, 11] rfl ?_
                                        exact ih77_3 L3 x215 m127 (by
                                                refine ⟨by omega, by omega, by omega, ?_, e127, fun j h0 h1 h2 => ?_, fun a b h1 h2 => by rw [o127 a b h2]; exact hvf a b h1 h2⟩
                                                · have hs : ∀ a' b' v' : Int, (a' < a ∨ (a' = a ∧ (b' < b ∨ (b' = b ∧ v' < x215)))) → (a' < a ∨ (a' = a ∧ (b' < b ∨ (b' = b ∧ v' < v)))) ∨ (a' = a ∧ b' = b ∧ v' = v) := fun a' b' v' h => by omega
                                                  first
                                                  | (have hnc : ¬ gm_C1 μ i c a b v := fun h => by
                                                       have h1 := h.2.2.2.1
                                                       have h2 := h.2.2.2.2
                                                       first | omega | (rw [← hre] at h2; omega)
                                                     exact gm_lm_no hvl hnc hs)
                                                  | (have hcc : gm_C1 μ i c a b v := ⟨⟨by omega, by omega⟩, by omega, ⟨by omega, by omega⟩, by omega, by rw [← hre]; omega⟩
                                                     refine gm_lm_yes hvl hcc (by omega) ?_ hs
                                                     rw [← hnum]
                                                     first | (rw [if_pos (by omega)]; done) | (rw [if_neg (by omega)]; done))
                                                · rw [f127 j h0 h1]
                                                  unfold gm_y1
                                                  rw [if_neg h2]) (by omega)
                                      · skip
                                        refine gf_iload C dd_Mo_leastWith_206 0 rfl ?_
                                        refine gf_goto 213 C dd_Mo_leastWith_208 (by decide) ?_
                                        refine gf_istore (lv' := [(4, .int (gf_i r184)), (11, .int (gf_i r184)), (10, .int (gf_i 1)), (9, .int (gf_i v)), (0, .ref (gf_ad E 65)), (1, .int (gf_i i)), (2, .int (gf_i c)), (3, .int (gf_i 1)), (5, .int (gf_i a)), (6, .int (gf_i b)), (7, .int (gf_i x63)), (8, .int (gf_i x72))]) C dd_Mo_leastWith_213 (by decide) rfl ?_
                                        obtain ⟨x215, hx215⟩ : ∃ y : Int, y = v + 1 := ⟨_, rfl⟩
                                        refine gf_iinc (q := 3) (v := x215) (lv' := [(9, .int (gf_i x215)), (4, .int (gf_i r184)), (11, .int (gf_i r184)), (10, .int (gf_i 1)), (0, .ref (gf_ad E 65)), (1, .int (gf_i i)), (2, .int (gf_i c)), (3, .int (gf_i 1)), (5, .int (gf_i a)), (6, .int (gf_i b)), (7, .int (gf_i x63)), (8, .int (gf_i x72))]) C dd_Mo_leastWith_215 rfl hx215 (by decide) rfl ?_
                                        refine gf_goto 77 C dd_Mo_leastWith_218 (by decide) ?_
                                        refine gf_lsub [1, 0, 4, 5, 6, 7, 8, 9, 10, 11] rfl ?_
                                        exact ih77_3 r184 x215 m127 (by
                                                refine ⟨by omega, by omega, by omega, ?_, e127, fun j h0 h1 h2 => ?_, fun a b h1 h2 => by rw [o127 a b h2]; exact hvf a b h1 h2⟩
                                                · have hs : ∀ a' b' v' : Int, (a' < a ∨ (a' = a ∧ (b' < b ∨ (b' = b ∧ v' < x215)))) → (a' < a ∨ (a' = a ∧ (b' < b ∨ (b' = b ∧ v' < v)))) ∨ (a' = a ∧ b' = b ∧ v' = v) := fun a' b' v' h => by omega
                                                  first
                                                  | (have hnc : ¬ gm_C1 μ i c a b v := fun h => by
                                                       have h1 := h.2.2.2.1
                                                       have h2 := h.2.2.2.2
                                                       first | omega | (rw [← hre] at h2; omega)
                                                     exact gm_lm_no hvl hnc hs)
                                                  | (have hcc : gm_C1 μ i c a b v := ⟨⟨by omega, by omega⟩, by omega, ⟨by omega, by omega⟩, by omega, by rw [← hre]; omega⟩
                                                     refine gm_lm_yes hvl hcc (by omega) ?_ hs
                                                     rw [← hnum]
                                                     first | (rw [if_pos (by omega)]; done) | (rw [if_neg (by omega)]; done))
                                                · rw [f127 j h0 h1]
                                                  unfold gm_y1
                                                  rw [if_neg h2]) (by omega)
                  refine gf_lsub [3, 0, 5, 6, 7, 8, 9, 4, 2, 1] rfl ?_
                  exact L77_3 _ L2 0 m2 (⟨by omega, by omega, hbR, gm_lm_sub hbl (fun a' b' v' hd hc => by
                            rcases hd with h | ⟨h, h2⟩
                            · exact Or.inl h
                            · rcases h2 with h2 | ⟨h2, h3⟩
                              · exact Or.inr ⟨h, h2⟩
                              · exfalso
                                have h4 := hc.2.2.1
                                omega), hb15, fun j h0 h1 _ => hb73 j h0 h1, hbf⟩) (Nat.lt_succ_self _)
          refine gf_lsub [1, 0, 3, 4, 5, 6, 2] rfl ?_
          exact L35_2 _ L a m (⟨by omega, haR, gm_lm_sub hal (fun a' b' v' hd hc => by
                    rcases hd with h | h
                    · exact h
                    · exfalso
                      have h2 := hc.1
                      have h3 := hc.2.1
                      omega), ha15, ha73, haf⟩) (Nat.lt_succ_self _)
  refine gf_lsub [1, 0, 2, 3, 4, 5] rfl ?_
  exact L10_1 _ (-1) 0 m1 (⟨by omega, by omega, by omega, Or.inl ⟨rfl, fun a b v hd hc => by have := hc.1; omega⟩, hw15, hw73, hwf⟩) (Nat.lt_succ_self _)
