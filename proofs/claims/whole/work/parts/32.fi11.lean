/-! the digest -/
theorem gf_l_lin {a b : Int} (h : gf_l a = gf_l b) (c : Int) : gf_l (31 * a + c) = gf_l (31 * b + c) := by
  unfold gf_l at h ⊢
  rw [Int64.ofInt_add, Int64.ofInt_mul, h, ← Int64.ofInt_mul, ← Int64.ofInt_add]
theorem pf_dig_l {a b : Int} {f : Int → Int} (h : gf_l a = gf_l b) : ∀ n : Nat, gf_l (pf_dig a f n) = gf_l (pf_dig b f n)
  | 0 => h
  | n + 1 => gf_l_lin (pf_dig_l h n) _
theorem pf_dig_congr {h : Int} {f g : Int → Int} : ∀ n : Nat, (∀ j : Int, 0 ≤ j → j < n → f j = g j) → pf_dig h f n = pf_dig h g n
  | 0, _ => rfl
  | n + 1, e => by
    show 31 * pf_dig h f n + f n = 31 * pf_dig h g n + g n
    rw [pf_dig_congr n (fun j h0 h1 => e j h0 (by omega)), e n (by omega) (by omega)]
def pf_dgG (μ : gf_M) (h : Int) : Nat → Int
  | 0 => h
  | i + 1 => pf_dig (pf_dgG μ h i) (pf_og μ i) 5
def pf_dgR (μ : gf_M) (b h : Int) : Nat → Int
  | 0 => h
  | r + 1 => pf_dig (31 * pf_dgR μ b h r + μ (b + 2 * r) 1) (μ (b + 2 * r + 1)) (μ (b + 2 * r) 1).toNat
def pf_kd (μ : gf_M) (k : Int) : Int := if μ (32 + 3 * k) 4 = 0 then -1 else μ (32 + 3 * k) 2
noncomputable def pf_H1 (μ : gf_M) : Int := pf_dig 17 (pf_cn μ) 11
noncomputable def pf_H2 (μ : gf_M) : Int := pf_dgG μ (pf_H1 μ) (μ 0 3).toNat
noncomputable def pf_H3 (μ : gf_M) : Int := pf_dig (pf_H2 μ) (pf_kd μ) 3
noncomputable def pf_H4 (μ : gf_M) : Int := pf_dgR μ 2 (pf_H3 μ) 6
noncomputable def pf_digest (μ : gf_M) : Int := pf_dgR μ 15 (pf_H4 μ) 4
theorem gf_sc_ok {m μ : gf_M} (h : gf_sc m μ) (hc7 : 0 ≤ μ 0 3 ∧ μ 0 3 ≤ 7) (hG : gf_okGs μ (μ 0 3)) (hs : 0 ≤ μ 41 1 ∧ μ 41 1 ≤ 8) (hF : gf_okF μ 42 (μ 41 1)) : (0 ≤ m 0 3 ∧ m 0 3 ≤ 7) ∧ gf_okGs m (m 0 3) ∧ (0 ≤ m 41 1 ∧ m 41 1 ≤ 8) ∧ gf_okF m 42 (m 41 1) := by
  rw [h 0 3 (by decide), h 41 1 (by decide)]
  refine ⟨hc7, fun i h0 h1 => ?_, hs, fun j h0 h1 => ?_⟩
  · have := hG i h0 h1
    unfold gf_okG at this ⊢
    rw [h _ 0 (by omega), h _ 1 (by omega), h _ 2 (by omega)]
    exact this
  · rw [h 42 j (by decide)]; exact hF j h0 h1
theorem pf_unS_sc {m μ : gf_M} (h : gf_sc m μ) {i : Nat} (hi : i < 7) : pf_unS m i = pf_unS μ i := by
  unfold pf_unS pf_no
  rw [h 41 1 (by decide), show m 42 = μ 42 from funext fun y => h 42 y (by decide), h (24 + i) 0 (by omega), h (24 + i) 1 (by omega), h (24 + i) 2 (by omega)]
theorem pf_og_sc {m μ : gf_M} (h : gf_sc m μ) {i w : Int} (hi : 0 ≤ i ∧ i < 7) : pf_og m i w = pf_og μ i w := by
  unfold pf_og
  rw [h 41 1 (by decide), show m 42 = μ 42 from funext fun y => h 42 y (by decide), h (24 + i) 0 (by omega), h (24 + i) 1 (by omega), h (24 + i) 2 (by omega), pf_unS_sc h (by omega)]
theorem pf_cn_sc {m μ : gf_M} (h : gf_sc m μ) (hc7 : 0 ≤ μ 0 3 ∧ μ 0 3 ≤ 7) {w : Int} : pf_cn m w = pf_cn μ w := by
  unfold pf_cn
  rw [h 0 3 (by decide), h 41 1 (by decide), h 41 2 (by decide), show m 42 = μ 42 from funext fun y => h 42 y (by decide),
    pf_sumf_congr (h := fun j => pf_reck (μ (24 + j) 0) (μ (24 + j) 1) (μ (24 + j) 2) (μ 42) (μ 41 1)) (μ 0 3).toNat (fun j h0 h1 => by
      show pf_reck (m (24 + j) 0) (m (24 + j) 1) (m (24 + j) 2) (μ 42) (μ 41 1) = _
      rw [h (24 + j) 0 (by omega), h (24 + j) 1 (by omega), h (24 + j) 2 (by omega)]),
    pf_set_congr (q := fun j => (pf_unS μ j.toNat).isEmpty) (μ 0 3).toNat (fun j h0 h1 => by
      show (pf_unS m j.toNat).isEmpty = _
      rw [pf_unS_sc h (by omega)]),
    pf_cnt_congr (q := fun j => decide (μ (2 + 2 * j) 1 ≠ -1)) 6 (fun j h0 h1 => by
      show decide (m (2 + 2 * j) 1 ≠ -1) = _
      rw [h (2 + 2 * j) 1 (by omega)]),
    pf_cnt_congr (q := fun j => decide (μ (15 + 2 * j) 1 ≠ -1)) 4 (fun j h0 h1 => by
      show decide (m (15 + 2 * j) 1 ≠ -1) = _
      rw [h (15 + 2 * j) 1 (by omega)]),
    pf_cnt_congr (q := fun j => decide (μ (32 + 3 * j) 4 ≠ 0)) 3 (fun j h0 h1 => by
      show decide (m (32 + 3 * j) 4 ≠ 0) = _
      rw [h (32 + 3 * j) 4 (by omega)]),
    pf_cnt_congr (p := fun j => @decide (pf_is (m (24 + j) 0) 1) (Classical.propDecidable _)) (q := fun j => @decide (pf_is (μ (24 + j) 0) 1) (Classical.propDecidable _)) (μ 0 3).toNat (fun j h0 h1 => by
      show @decide (pf_is (m (24 + j) 0) 1) (Classical.propDecidable _) = _
      rw [h (24 + j) 0 (by omega)]),
    pf_cnt_congr (p := fun j => @decide (pf_is (m (24 + j) 0) 2) (Classical.propDecidable _)) (q := fun j => @decide (pf_is (μ (24 + j) 0) 2) (Classical.propDecidable _)) (μ 0 3).toNat (fun j h0 h1 => by
      show @decide (pf_is (m (24 + j) 0) 2) (Classical.propDecidable _) = _
      rw [h (24 + j) 0 (by omega)])]
theorem dd_Fi_digest_0 : decode cc_Fi_digest 0 = .ok (.ldc2_w 294, 3) := by decide +kernel
theorem dd_Fi_digest_3 : decode cc_Fi_digest 3 = .ok (.lstore_n 1, 1) := by decide +kernel
theorem dd_Fi_digest_4 : decode cc_Fi_digest 4 = .ok (.iconst 0, 1) := by decide +kernel
theorem dd_Fi_digest_5 : decode cc_Fi_digest 5 = .ok (.istore_n 3, 1) := by decide +kernel
theorem dd_Fi_digest_6 : decode cc_Fi_digest 6 = .ok (.iload_n 3, 1) := by decide +kernel
theorem dd_Fi_digest_7 : decode cc_Fi_digest 7 = .ok (.bipush 11, 2) := by decide +kernel
theorem dd_Fi_digest_9 : decode cc_Fi_digest 9 = .ok (.if_icmp .ge 22, 3) := by decide +kernel
theorem dd_Fi_digest_12 : decode cc_Fi_digest 12 = .ok (.ldc2_w 296, 3) := by decide +kernel
theorem dd_Fi_digest_15 : decode cc_Fi_digest 15 = .ok (.lload_n 1, 1) := by decide +kernel
theorem dd_Fi_digest_16 : decode cc_Fi_digest 16 = .ok (.lmul, 1) := by decide +kernel
theorem dd_Fi_digest_17 : decode cc_Fi_digest 17 = .ok (.aload_n 0, 1) := by decide +kernel
theorem dd_Fi_digest_18 : decode cc_Fi_digest 18 = .ok (.iload_n 3, 1) := by decide +kernel
theorem dd_Fi_digest_19 : decode cc_Fi_digest 19 = .ok (.invokevirtual 288, 3) := by decide +kernel
theorem dd_Fi_digest_22 : decode cc_Fi_digest 22 = .ok (.i2l, 1) := by decide +kernel
theorem dd_Fi_digest_23 : decode cc_Fi_digest 23 = .ok (.ladd, 1) := by decide +kernel
theorem dd_Fi_digest_24 : decode cc_Fi_digest 24 = .ok (.lstore_n 1, 1) := by decide +kernel
theorem dd_Fi_digest_25 : decode cc_Fi_digest 25 = .ok (.iinc 3 1, 3) := by decide +kernel
theorem dd_Fi_digest_28 : decode cc_Fi_digest 28 = .ok (.goto (-22), 3) := by decide +kernel
theorem dd_Fi_digest_31 : decode cc_Fi_digest 31 = .ok (.iconst 0, 1) := by decide +kernel
theorem dd_Fi_digest_32 : decode cc_Fi_digest 32 = .ok (.istore_n 3, 1) := by decide +kernel
theorem dd_Fi_digest_33 : decode cc_Fi_digest 33 = .ok (.iload_n 3, 1) := by decide +kernel
theorem dd_Fi_digest_34 : decode cc_Fi_digest 34 = .ok (.aload_n 0, 1) := by decide +kernel
theorem dd_Fi_digest_35 : decode cc_Fi_digest 35 = .ok (.getfield 131, 3) := by decide +kernel
theorem dd_Fi_digest_38 : decode cc_Fi_digest 38 = .ok (.if_icmp .ge 39, 3) := by decide +kernel
theorem dd_Fi_digest_41 : decode cc_Fi_digest 41 = .ok (.iconst 0, 1) := by decide +kernel
theorem dd_Fi_digest_42 : decode cc_Fi_digest 42 = .ok (.istore 4, 2) := by decide +kernel
theorem dd_Fi_digest_44 : decode cc_Fi_digest 44 = .ok (.iload 4, 2) := by decide +kernel
theorem dd_Fi_digest_46 : decode cc_Fi_digest 46 = .ok (.iconst 5, 1) := by decide +kernel
theorem dd_Fi_digest_47 : decode cc_Fi_digest 47 = .ok (.if_icmp .ge 24, 3) := by decide +kernel
theorem dd_Fi_digest_50 : decode cc_Fi_digest 50 = .ok (.ldc2_w 296, 3) := by decide +kernel
theorem dd_Fi_digest_53 : decode cc_Fi_digest 53 = .ok (.lload_n 1, 1) := by decide +kernel
theorem dd_Fi_digest_54 : decode cc_Fi_digest 54 = .ok (.lmul, 1) := by decide +kernel
theorem dd_Fi_digest_55 : decode cc_Fi_digest 55 = .ok (.aload_n 0, 1) := by decide +kernel
theorem dd_Fi_digest_56 : decode cc_Fi_digest 56 = .ok (.iload_n 3, 1) := by decide +kernel
theorem dd_Fi_digest_57 : decode cc_Fi_digest 57 = .ok (.iload 4, 2) := by decide +kernel
theorem dd_Fi_digest_59 : decode cc_Fi_digest 59 = .ok (.invokevirtual 147, 3) := by decide +kernel
theorem dd_Fi_digest_62 : decode cc_Fi_digest 62 = .ok (.i2l, 1) := by decide +kernel
theorem dd_Fi_digest_63 : decode cc_Fi_digest 63 = .ok (.ladd, 1) := by decide +kernel
theorem dd_Fi_digest_64 : decode cc_Fi_digest 64 = .ok (.lstore_n 1, 1) := by decide +kernel
theorem dd_Fi_digest_65 : decode cc_Fi_digest 65 = .ok (.iinc 4 1, 3) := by decide +kernel
theorem dd_Fi_digest_68 : decode cc_Fi_digest 68 = .ok (.goto (-24), 3) := by decide +kernel
theorem dd_Fi_digest_71 : decode cc_Fi_digest 71 = .ok (.iinc 3 1, 3) := by decide +kernel
theorem dd_Fi_digest_74 : decode cc_Fi_digest 74 = .ok (.goto (-41), 3) := by decide +kernel
theorem dd_Fi_digest_77 : decode cc_Fi_digest 77 = .ok (.iconst 0, 1) := by decide +kernel
theorem dd_Fi_digest_78 : decode cc_Fi_digest 78 = .ok (.istore_n 3, 1) := by decide +kernel
theorem dd_Fi_digest_79 : decode cc_Fi_digest 79 = .ok (.iload_n 3, 1) := by decide +kernel
theorem dd_Fi_digest_80 : decode cc_Fi_digest 80 = .ok (.iconst 3, 1) := by decide +kernel
theorem dd_Fi_digest_81 : decode cc_Fi_digest 81 = .ok (.if_icmp .ge 42, 3) := by decide +kernel
theorem dd_Fi_digest_84 : decode cc_Fi_digest 84 = .ok (.ldc2_w 296, 3) := by decide +kernel
theorem dd_Fi_digest_87 : decode cc_Fi_digest 87 = .ok (.lload_n 1, 1) := by decide +kernel
theorem dd_Fi_digest_88 : decode cc_Fi_digest 88 = .ok (.lmul, 1) := by decide +kernel
theorem dd_Fi_digest_89 : decode cc_Fi_digest 89 = .ok (.aload_n 0, 1) := by decide +kernel
theorem dd_Fi_digest_90 : decode cc_Fi_digest 90 = .ok (.getfield 30, 3) := by decide +kernel
theorem dd_Fi_digest_93 : decode cc_Fi_digest 93 = .ok (.iload_n 3, 1) := by decide +kernel
theorem dd_Fi_digest_94 : decode cc_Fi_digest 94 = .ok (.aaload, 1) := by decide +kernel
theorem dd_Fi_digest_95 : decode cc_Fi_digest 95 = .ok (.getfield 140, 3) := by decide +kernel
theorem dd_Fi_digest_98 : decode cc_Fi_digest 98 = .ok (.ifCond .eq 15, 3) := by decide +kernel
theorem dd_Fi_digest_101 : decode cc_Fi_digest 101 = .ok (.aload_n 0, 1) := by decide +kernel
theorem dd_Fi_digest_102 : decode cc_Fi_digest 102 = .ok (.getfield 30, 3) := by decide +kernel
theorem dd_Fi_digest_105 : decode cc_Fi_digest 105 = .ok (.iload_n 3, 1) := by decide +kernel
theorem dd_Fi_digest_106 : decode cc_Fi_digest 106 = .ok (.aaload, 1) := by decide +kernel
theorem dd_Fi_digest_107 : decode cc_Fi_digest 107 = .ok (.getfield 172, 3) := by decide +kernel
theorem dd_Fi_digest_110 : decode cc_Fi_digest 110 = .ok (.goto 4, 3) := by decide +kernel
theorem dd_Fi_digest_113 : decode cc_Fi_digest 113 = .ok (.iconst (-1), 1) := by decide +kernel
theorem dd_Fi_digest_114 : decode cc_Fi_digest 114 = .ok (.i2l, 1) := by decide +kernel
theorem dd_Fi_digest_115 : decode cc_Fi_digest 115 = .ok (.ladd, 1) := by decide +kernel
theorem dd_Fi_digest_116 : decode cc_Fi_digest 116 = .ok (.lstore_n 1, 1) := by decide +kernel
theorem dd_Fi_digest_117 : decode cc_Fi_digest 117 = .ok (.iinc 3 1, 3) := by decide +kernel
theorem dd_Fi_digest_120 : decode cc_Fi_digest 120 = .ok (.goto (-41), 3) := by decide +kernel
theorem dd_Fi_digest_123 : decode cc_Fi_digest 123 = .ok (.iconst 0, 1) := by decide +kernel
theorem dd_Fi_digest_124 : decode cc_Fi_digest 124 = .ok (.istore_n 3, 1) := by decide +kernel
theorem dd_Fi_digest_125 : decode cc_Fi_digest 125 = .ok (.iload_n 3, 1) := by decide +kernel
theorem dd_Fi_digest_126 : decode cc_Fi_digest 126 = .ok (.bipush 6, 2) := by decide +kernel
theorem dd_Fi_digest_128 : decode cc_Fi_digest 128 = .ok (.if_icmp .ge 20, 3) := by decide +kernel
theorem dd_Fi_digest_131 : decode cc_Fi_digest 131 = .ok (.aload_n 0, 1) := by decide +kernel
theorem dd_Fi_digest_132 : decode cc_Fi_digest 132 = .ok (.getfield 11, 3) := by decide +kernel
theorem dd_Fi_digest_135 : decode cc_Fi_digest 135 = .ok (.iload_n 3, 1) := by decide +kernel
theorem dd_Fi_digest_136 : decode cc_Fi_digest 136 = .ok (.aaload, 1) := by decide +kernel
theorem dd_Fi_digest_137 : decode cc_Fi_digest 137 = .ok (.lload_n 1, 1) := by decide +kernel
theorem dd_Fi_digest_138 : decode cc_Fi_digest 138 = .ok (.invokevirtual 298, 3) := by decide +kernel
theorem dd_Fi_digest_141 : decode cc_Fi_digest 141 = .ok (.lstore_n 1, 1) := by decide +kernel
theorem dd_Fi_digest_142 : decode cc_Fi_digest 142 = .ok (.iinc 3 1, 3) := by decide +kernel
theorem dd_Fi_digest_145 : decode cc_Fi_digest 145 = .ok (.goto (-20), 3) := by decide +kernel
theorem dd_Fi_digest_148 : decode cc_Fi_digest 148 = .ok (.iconst 0, 1) := by decide +kernel
theorem dd_Fi_digest_149 : decode cc_Fi_digest 149 = .ok (.istore_n 3, 1) := by decide +kernel
theorem dd_Fi_digest_150 : decode cc_Fi_digest 150 = .ok (.iload_n 3, 1) := by decide +kernel
theorem dd_Fi_digest_151 : decode cc_Fi_digest 151 = .ok (.iconst 4, 1) := by decide +kernel
theorem dd_Fi_digest_152 : decode cc_Fi_digest 152 = .ok (.if_icmp .ge 20, 3) := by decide +kernel
theorem dd_Fi_digest_155 : decode cc_Fi_digest 155 = .ok (.aload_n 0, 1) := by decide +kernel
theorem dd_Fi_digest_156 : decode cc_Fi_digest 156 = .ok (.getfield 18, 3) := by decide +kernel
theorem dd_Fi_digest_159 : decode cc_Fi_digest 159 = .ok (.iload_n 3, 1) := by decide +kernel
theorem dd_Fi_digest_160 : decode cc_Fi_digest 160 = .ok (.aaload, 1) := by decide +kernel
theorem dd_Fi_digest_161 : decode cc_Fi_digest 161 = .ok (.lload_n 1, 1) := by decide +kernel
theorem dd_Fi_digest_162 : decode cc_Fi_digest 162 = .ok (.invokevirtual 298, 3) := by decide +kernel
theorem dd_Fi_digest_165 : decode cc_Fi_digest 165 = .ok (.lstore_n 1, 1) := by decide +kernel
theorem dd_Fi_digest_166 : decode cc_Fi_digest 166 = .ok (.iinc 3 1, 3) := by decide +kernel
theorem dd_Fi_digest_169 : decode cc_Fi_digest 169 = .ok (.goto (-19), 3) := by decide +kernel
theorem dd_Fi_digest_172 : decode cc_Fi_digest 172 = .ok (.lload_n 1, 1) := by decide +kernel
theorem dd_Fi_digest_173 : decode cc_Fi_digest 173 = .ok (.lreturn, 1) := by decide +kernel
set_option maxRecDepth 100000 in
set_option maxHeartbeats 4000000 in
theorem ct_Fi_digest (l : Launch) (E : gf_E) (μ : gf_M) (hc7 : 0 ≤ μ 0 3 ∧ μ 0 3 ≤ 7) (hG : gf_okGs μ (μ 0 3)) (hs : 0 ≤ μ 41 1 ∧ μ 41 1 ≤ 8) (hd : 0 ≤ μ 41 2 ∧ μ 41 2 ≤ 40) (hF : gf_okF μ 42 (μ 41 1)) (hrw : ∀ r : Int, 0 ≤ r → r < 6 → -1 ≤ μ (2 + 2 * r) 1 ∧ μ (2 + 2 * r) 1 ≤ 40)(htx : ∀ t : Int, 0 ≤ t → t < 4 → -1 ≤ μ (15 + 2 * t) 1 ∧ μ (15 + 2 * t) 1 ≤ 60) : gf_Ml l E yy_Fi_digest cc_Fi_digest 5 (gf_rm 6 138) 81 gf_ref μ [.ref (gf_ad E 0)] (fun q μ' => gf_l q = gf_l (pf_digest μ) ∧ gf_sc μ' μ) := by
  refine gf_ml (by decide +kernel) (Nat.le_of_ble_eq_true rfl) (by decide) (fun X Q hlx C hQ => ?_)
  subst hlx
  replace C : gf_C X E cc_Fi_digest 5 "GuardFigures" (gf_rm 6 138) := C
  show gf_G X E Q 5 gf_φ μ 0 [(0, .ref (gf_ad E 0))] []
  refine gf_ldc2 17 C dd_Fi_digest_0 ck_Fi_294 (by decide +kernel) ?_
  refine gf_lstore_n (lv' := [(1, .long (gf_l 17)), (0, .ref (gf_ad E 0))]) C dd_Fi_digest_3 (by decide) rfl ?_
  refine gf_iconst C dd_Fi_digest_4 ?_
  refine gf_istore_n (lv' := [(3, .int (gf_i 0)), (1, .long (gf_l 17)), (0, .ref (gf_ad E 0))]) C dd_Fi_digest_5 (by decide) rfl ?_
  have L6_1 : ∀ (N : Nat) (h w : Int) (m : gf_M) , (0 ≤ w ∧ w ≤ 11 ∧ h = pf_dig 17 (pf_cn μ) w.toNat ∧ gf_sc m μ) → (11 - w).toNat < N → gf_G X E Q 5 gf_φ m 6 [(1, .long (gf_l h)), (3, .int (gf_i w)), (0, .ref (gf_ad E 0))] [] := by
    intro N
    induction N with
    | zero => intro h w m hinv hN; exact absurd hN (Nat.not_lt_zero _)
    | succ N ih6_1 =>
      intro h w m hinv hN
      have hinv0 := hinv
      obtain ⟨hw0, hw1, hh, hsc⟩ := hinv
      have hok := gf_sc_ok hsc hc7 hG hs hF
      refine gf_iload_n C dd_Fi_digest_6 1 rfl ?_
      refine gf_bipush C dd_Fi_digest_7 (by decide +kernel) ?_
      refine gf_icmp_ge 31 C dd_Fi_digest_9 (by decide) (by omega) (by omega) (fun h9 => ?_) (fun h9 => ?_)
      · skip
        refine gf_iconst C dd_Fi_digest_31 ?_
        refine gf_istore_n (lv' := [(3, .int (gf_i 0)), (1, .long (gf_l h)), (0, .ref (gf_ad E 0))]) C dd_Fi_digest_32 (by decide) rfl ?_
        have L33_2 : ∀ (N : Nat) (h i : Int) (m : gf_M) , (0 ≤ i ∧ i ≤ μ 0 3 ∧ h = pf_dgG μ (pf_H1 μ) i.toNat ∧ gf_sc m μ) → (7 - i).toNat < N → gf_G X E Q 5 gf_φ m 33 [(1, .long (gf_l h)), (3, .int (gf_i i)), (0, .ref (gf_ad E 0))] [] := by
          intro N
          induction N with
          | zero => intro h i m hinv hN; exact absurd hN (Nat.not_lt_zero _)
          | succ N ih33_2 =>
            intro h i m hinv hN
            have hinv0 := hinv
            obtain ⟨hi0, hi1, hh, hsc⟩ := hinv
            have e03 : m 0 3 = μ 0 3 := hsc 0 3 (by decide)
            refine gf_iload_n C dd_Fi_digest_33 1 rfl ?_
            refine gf_aload_n C dd_Fi_digest_34 2 rfl ?_
            refine gf_getI (z := 3) C gf_cl6 fl_Fi_131 dd_Fi_digest_35 rfl rfl (show gf_is 81 0 0 6 17 by decide) (fun hv35 => ?_)
            refine gf_icmp_ge 77 C dd_Fi_digest_38 (by decide) (by omega) (by omega) (fun h38 => ?_) (fun h38 => ?_)
            · skip
              refine gf_iconst C dd_Fi_digest_77 ?_
              refine gf_istore_n (lv' := [(3, .int (gf_i 0)), (1, .long (gf_l h)), (0, .ref (gf_ad E 0))]) C dd_Fi_digest_78 (by decide) rfl ?_
              have L79_3 : ∀ (N : Nat) (h k : Int) , (0 ≤ k ∧ k ≤ 3 ∧ h = pf_dig (pf_H2 μ) (pf_kd μ) k.toNat) → (3 - k).toNat < N → gf_G X E Q 5 gf_φ m 79 [(1, .long (gf_l h)), (3, .int (gf_i k)), (0, .ref (gf_ad E 0))] [] := by
                intro N
                induction N with
                | zero => intro h k hinv hN; exact absurd hN (Nat.not_lt_zero _)
                | succ N ih79_3 =>
                  intro h k hinv hN
                  have hinv0 := hinv
                  obtain ⟨hk0, hk1, hk⟩ := hinv
                  have f4 : k < 3 → m (32 + 3 * k) 4 = μ (32 + 3 * k) 4 := fun h => hsc _ _ (by omega)
                  have f2 : k < 3 → m (32 + 3 * k) 2 = μ (32 + 3 * k) 2 := fun h => hsc _ _ (by omega)
                  refine gf_iload_n C dd_Fi_digest_79 1 rfl ?_
                  refine gf_iconst C dd_Fi_digest_80 ?_
                  refine gf_icmp_ge 123 C dd_Fi_digest_81 (by decide) (by omega) (by omega) (fun h81 => ?_) (fun h81 => ?_)
                  · skip
                    have hk3 : k.toNat = 3 := by omega
                    rw [hk3] at hk
                    replace hk : h = pf_H3 μ := hk
                    refine gf_iconst C dd_Fi_digest_123 ?_
                    refine gf_istore_n (lv' := [(3, .int (gf_i 0)), (1, .long (gf_l h)), (0, .ref (gf_ad E 0))]) C dd_Fi_digest_124 (by decide) rfl ?_
                    have L125_4 : ∀ (N : Nat) (h r : Int) , (0 ≤ r ∧ r ≤ 6 ∧ gf_l h = gf_l (pf_dgR μ 2 (pf_H3 μ) r.toNat)) → (7 - r).toNat < N → gf_G X E Q 5 gf_φ m 125 [(1, .long (gf_l h)), (3, .int (gf_i r)), (0, .ref (gf_ad E 0))] [] := by
                      intro N
                      induction N with
                      | zero => intro h r hinv hN; exact absurd hN (Nat.not_lt_zero _)
                      | succ N ih125_4 =>
                        intro h r hinv hN
                        have hinv0 := hinv
                        obtain ⟨hr0, hr1, hh2⟩ := hinv
                        have hsr : r < 6 → -1 ≤ m (2 + 2 * r) 1 ∧ m (2 + 2 * r) 1 ≤ 40 := fun h => by rw [hsc _ _ (by omega)]; exact hrw r hr0 h
                        skip
                        refine gf_iload_n C dd_Fi_digest_125 1 rfl ?_
                        refine gf_bipush C dd_Fi_digest_126 (by decide +kernel) ?_
                        refine gf_icmp_ge 148 C dd_Fi_digest_128 (by decide) (by omega) (by omega) (fun h128 => ?_) (fun h128 => ?_)
                        · skip
                          refine gf_iconst C dd_Fi_digest_148 ?_
                          refine gf_istore_n (lv' := [(3, .int (gf_i 0)), (1, .long (gf_l h)), (0, .ref (gf_ad E 0))]) C dd_Fi_digest_149 (by decide) rfl ?_
                          have L150_5 : ∀ (N : Nat) (h r : Int) , (0 ≤ r ∧ r ≤ 4 ∧ gf_l h = gf_l (pf_dgR μ 15 (pf_H4 μ) r.toNat)) → (7 - r).toNat < N → gf_G X E Q 5 gf_φ m 150 [(1, .long (gf_l h)), (3, .int (gf_i r)), (0, .ref (gf_ad E 0))] [] := by
                            intro N
                            induction N with
                            | zero => intro h r hinv hN; exact absurd hN (Nat.not_lt_zero _)
                            | succ N ih150_5 =>
                              intro h r hinv hN
                              have hinv0 := hinv
                              obtain ⟨hr0, hr1, hh15⟩ := hinv
                              have hsr : r < 4 → -1 ≤ m (15 + 2 * r) 1 ∧ m (15 + 2 * r) 1 ≤ 60 := fun h => by rw [hsc _ _ (by omega)]; exact htx r hr0 h
                              refine gf_iload_n C dd_Fi_digest_150 1 rfl ?_
                              refine gf_iconst C dd_Fi_digest_151 ?_
                              refine gf_icmp_ge 172 C dd_Fi_digest_152 (by decide) (by omega) (by omega) (fun h152 => ?_) (fun h152 => ?_)
                              · skip
                                refine gf_lload_n C dd_Fi_digest_172 0 rfl ?_
                                refine gf_lretw C hQ dd_Fi_digest_173 ?_
                                rw [show r.toNat = 4 by omega] at hh15
                                exact ⟨by rw [gf_wl_l]; exact hh15, hsc⟩
                              · skip
                                refine gf_aload_n C dd_Fi_digest_155 2 rfl ?_
                                refine gf_getA (r := 14) C gf_cl6 fl_Fi_18 dd_Fi_digest_156 rfl (show gf_is 81 0 0 6 17 by decide) (by decide) (by decide) ?_
                                refine gf_iload_n C dd_Fi_digest_159 1 rfl ?_
                                have ha160 := gf_text_of (r := r) (by omega)
                                refine gf_aald C dd_Fi_digest_160 (show gf_is 81 14 4 3 4 by decide) (by decide) (by omega) ha160.1 (by first | omega | exact ha160.2.1.1 | exact ha160.2.1) ?_
                                refine gf_lload_n C dd_Fi_digest_161 0 rfl ?_
                                refine gf_callVl (st := []) (As := [.long (gf_l h)]) C wk_Fi_298 gf_cl3 ha160.2.1 (ct_Ro_digestOn (gf_xl X) E (15 + 2 * r) 60 m ha160.2 h (hsr (by omega)) (by decide)) rfl ⟨rfl, rfl, rfl, rfl⟩ (Nat.le_of_ble_eq_true rfl) rfl dd_Fi_digest_162 (fun r162 m162 hR162 hp162 => ?_)
                                have hr162 := hp162.1
                                refine gf_pm hp162.2 ?_
                                refine gf_lstore_n (lv' := [(1, .long (gf_l r162)), (3, .int (gf_i r)), (0, .ref (gf_ad E 0))]) C dd_Fi_digest_165 (by decide) rfl ?_
                                obtain ⟨x166, hx166⟩ : ∃ y : Int, y = r + 1 := ⟨_, rfl⟩
                                refine gf_iinc (q := 1) (v := x166) (lv' := [(3, .int (gf_i x166)), (1, .long (gf_l r162)), (0, .ref (gf_ad E 0))]) C dd_Fi_digest_166 rfl hx166 (by decide) rfl ?_
                                refine gf_goto 150 C dd_Fi_digest_169 (by decide) ?_
                                refine gf_lsub [1, 0, 2] rfl ?_
                                exact ih150_5 r162 x166 (by
                                        refine ⟨by omega, by omega, ?_⟩
                                        rw [show x166.toNat = r.toNat + 1 by omega]
                                        show _ = gf_l (pf_dig (31 * pf_dgR μ 15 (pf_H4 μ) r.toNat + μ (15 + 2 * ((r.toNat : Nat) : Int)) 1) (μ (15 + 2 * ((r.toNat : Nat) : Int) + 1)) (μ (15 + 2 * ((r.toNat : Nat) : Int)) 1).toNat)
                                        rw [show ((r.toNat : Nat) : Int) = r by omega, hr162, hsc (15 + 2 * r) 1 (by omega), show m (15 + 2 * r + 1) = μ (15 + 2 * r + 1) from funext fun y => hsc _ y (by omega)]
                                        exact pf_dig_l (gf_l_lin hh15 _) _) (by omega)
                          refine gf_lsub [1, 0, 2] rfl ?_
                          exact L150_5 _ h 0 (⟨by omega, by omega, by rw [show pf_H4 μ = pf_dgR μ 2 (pf_H3 μ) 6 from rfl, ← show r.toNat = 6 by omega]; exact hh2⟩) (Nat.lt_succ_self _)
                        · skip
                          refine gf_aload_n C dd_Fi_digest_131 2 rfl ?_
                          refine gf_getA (r := 1) C gf_cl6 fl_Fi_11 dd_Fi_digest_132 rfl (show gf_is 81 0 0 6 17 by decide) (by decide) (by decide) ?_
                          refine gf_iload_n C dd_Fi_digest_135 1 rfl ?_
                          have ha136 := gf_row_of (r := r) (by omega)
                          refine gf_aald C dd_Fi_digest_136 (show gf_is 81 1 4 3 6 by decide) (by decide) (by omega) ha136.1 (by first | omega | exact ha136.2.1.1 | exact ha136.2.1) ?_
                          refine gf_lload_n C dd_Fi_digest_137 0 rfl ?_
                          refine gf_callVl (st := []) (As := [.long (gf_l h)]) C wk_Fi_298 gf_cl3 ha136.2.1 (ct_Ro_digestOn (gf_xl X) E (2 + 2 * r) 40 m ha136.2 h (hsr (by omega)) (by decide)) rfl ⟨rfl, rfl, rfl, rfl⟩ (Nat.le_of_ble_eq_true rfl) rfl dd_Fi_digest_138 (fun r138 m138 hR138 hp138 => ?_)
                          have hr138 := hp138.1
                          refine gf_pm hp138.2 ?_
                          refine gf_lstore_n (lv' := [(1, .long (gf_l r138)), (3, .int (gf_i r)), (0, .ref (gf_ad E 0))]) C dd_Fi_digest_141 (by decide) rfl ?_
                          obtain ⟨x142, hx142⟩ : ∃ y : Int, y = r + 1 := ⟨_, rfl⟩
                          refine gf_iinc (q := 1) (v := x142) (lv' := [(3, .int (gf_i x142)), (1, .long (gf_l r138)), (0, .ref (gf_ad E 0))]) C dd_Fi_digest_142 rfl hx142 (by decide) rfl ?_
                          refine gf_goto 125 C dd_Fi_digest_145 (by decide) ?_
                          refine gf_lsub [1, 0, 2] rfl ?_
                          exact ih125_4 r138 x142 (by
                                  refine ⟨by omega, by omega, ?_⟩
                                  rw [show x142.toNat = r.toNat + 1 by omega]
                                  show _ = gf_l (pf_dig (31 * pf_dgR μ 2 (pf_H3 μ) r.toNat + μ (2 + 2 * ((r.toNat : Nat) : Int)) 1) (μ (2 + 2 * ((r.toNat : Nat) : Int) + 1)) (μ (2 + 2 * ((r.toNat : Nat) : Int)) 1).toNat)
                                  rw [show ((r.toNat : Nat) : Int) = r by omega, hr138, hsc (2 + 2 * r) 1 (by omega), show m (2 + 2 * r + 1) = μ (2 + 2 * r + 1) from funext fun y => hsc _ y (by omega)]
                                  exact pf_dig_l (gf_l_lin hh2 _) _) (by omega)
                    refine gf_lsub [1, 0, 2] rfl ?_
                    exact L125_4 _ h 0 (⟨by omega, by omega, congrArg gf_l hk⟩) (Nat.lt_succ_self _)
                  · skip
                    refine gf_ldc2 31 C dd_Fi_digest_84 ck_Fi_296 (by decide +kernel) ?_
                    refine gf_lload_n C dd_Fi_digest_87 0 rfl ?_
                    refine gf_lmul C dd_Fi_digest_88 ?_
                    refine gf_aload_n C dd_Fi_digest_89 2 rfl ?_
                    refine gf_getA (r := 31) C gf_cl6 fl_Fi_30 dd_Fi_digest_90 rfl (show gf_is 81 0 0 6 17 by decide) (by decide) (by decide) ?_
                    refine gf_iload_n C dd_Fi_digest_93 1 rfl ?_
                    have ha94 := gf_kept_of (r := k) (by omega)
                    refine gf_aald C dd_Fi_digest_94 (show gf_is 81 31 4 5 3 by decide) (by decide) (by omega) ha94.1 (by first | omega | exact ha94.2.1.1 | exact ha94.2.1) ?_
                    refine gf_getI (z := 4) C gf_cl5 fl_Fi_140 dd_Fi_digest_95 rfl rfl ha94.2.1 (fun hv95 => ?_)
                    refine gf_if_eq 113 C dd_Fi_digest_98 (by decide) (by omega) (fun h98 => ?_) (fun h98 => ?_)
                    · skip
                      refine gf_iconst C dd_Fi_digest_113 ?_
                      refine gf_gi2l C dd_Fi_digest_114 (by omega) ?_
                      refine gf_ladd C dd_Fi_digest_115 ?_
                      refine gf_nml (fun x116 hx116 => ?_)
                      refine gf_lstore_n (lv' := [(1, .long (gf_l x116)), (3, .int (gf_i k)), (0, .ref (gf_ad E 0))]) C dd_Fi_digest_116 (by decide) rfl ?_
                      obtain ⟨x117, hx117⟩ : ∃ y : Int, y = k + 1 := ⟨_, rfl⟩
                      refine gf_iinc (q := 1) (v := x117) (lv' := [(3, .int (gf_i x117)), (1, .long (gf_l x116)), (0, .ref (gf_ad E 0))]) C dd_Fi_digest_117 rfl hx117 (by decide) rfl ?_
                      refine gf_goto 79 C dd_Fi_digest_120 (by decide) ?_
                      refine gf_lsub [1, 0, 2] rfl ?_
                      exact ih79_3 x116 x117 (by
                              refine ⟨by omega, by omega, ?_⟩
                              rw [show x117.toNat = k.toNat + 1 by omega]
                              show _ = 31 * pf_dig (pf_H2 μ) (pf_kd μ) k.toNat + pf_kd μ ((k.toNat : Nat) : Int)
                              rw [← hk, show ((k.toNat : Nat) : Int) = k by omega, hx116]
                              unfold pf_kd
                              rw [← f4 (by omega), ← f2 (by omega)]
                              first | (rw [if_pos h98]; done) | (rw [if_neg h98]; done)) (by omega)
                    · skip
                      refine gf_aload_n C dd_Fi_digest_101 2 rfl ?_
                      refine gf_getA (r := 31) C gf_cl6 fl_Fi_30 dd_Fi_digest_102 rfl (show gf_is 81 0 0 6 17 by decide) (by decide) (by decide) ?_
                      refine gf_iload_n C dd_Fi_digest_105 1 rfl ?_
                      have ha106 := gf_kept_of (r := k) (by omega)
                      refine gf_aald C dd_Fi_digest_106 (show gf_is 81 31 4 5 3 by decide) (by decide) (by omega) ha106.1 (by first | omega | exact ha106.2.1.1 | exact ha106.2.1) ?_
                      refine gf_getI (z := 2) C gf_cl5 fl_Fi_172 dd_Fi_digest_107 rfl rfl ha106.2.1 (fun hv107 => ?_)
                      refine gf_goto 114 C dd_Fi_digest_110 (by decide) ?_
                      refine gf_gi2l C dd_Fi_digest_114 (by omega) ?_
                      refine gf_ladd C dd_Fi_digest_115 ?_
                      refine gf_nml (fun x116 hx116 => ?_)
                      refine gf_lstore_n (lv' := [(1, .long (gf_l x116)), (3, .int (gf_i k)), (0, .ref (gf_ad E 0))]) C dd_Fi_digest_116 (by decide) rfl ?_
                      obtain ⟨x117, hx117⟩ : ∃ y : Int, y = k + 1 := ⟨_, rfl⟩
                      refine gf_iinc (q := 1) (v := x117) (lv' := [(3, .int (gf_i x117)), (1, .long (gf_l x116)), (0, .ref (gf_ad E 0))]) C dd_Fi_digest_117 rfl hx117 (by decide) rfl ?_
                      refine gf_goto 79 C dd_Fi_digest_120 (by decide) ?_
                      refine gf_lsub [1, 0, 2] rfl ?_
                      exact ih79_3 x116 x117 (by
                              refine ⟨by omega, by omega, ?_⟩
                              rw [show x117.toNat = k.toNat + 1 by omega]
                              show _ = 31 * pf_dig (pf_H2 μ) (pf_kd μ) k.toNat + pf_kd μ ((k.toNat : Nat) : Int)
                              rw [← hk, show ((k.toNat : Nat) : Int) = k by omega, hx116]
                              unfold pf_kd
                              rw [← f4 (by omega), ← f2 (by omega)]
                              first | (rw [if_pos h98]; done) | (rw [if_neg h98]; done)) (by omega)
              refine gf_lsub [1, 0, 2] rfl ?_
              exact L79_3 _ h 0 (⟨by omega, by omega, by rw [hh, show i.toNat = (μ 0 3).toNat by omega]; rfl⟩) (Nat.lt_succ_self _)
            · skip
              refine gf_iconst C dd_Fi_digest_41 ?_
              refine gf_istore (lv' := [(4, .int (gf_i 0)), (1, .long (gf_l h)), (3, .int (gf_i i)), (0, .ref (gf_ad E 0))]) C dd_Fi_digest_42 (by decide) rfl ?_
              have L44_6 : ∀ (N : Nat) (h2 w : Int) (m2 : gf_M) , (0 ≤ w ∧ w ≤ 5 ∧ h2 = pf_dig h (pf_og μ i) w.toNat ∧ gf_sc m2 μ) → (5 - w).toNat < N → gf_G X E Q 5 gf_φ m2 44 [(1, .long (gf_l h2)), (4, .int (gf_i w)), (3, .int (gf_i i)), (0, .ref (gf_ad E 0))] [] := by
                intro N
                induction N with
                | zero => intro h2 w m2 hinv hN; exact absurd hN (Nat.not_lt_zero _)
                | succ N ih44_6 =>
                  intro h2 w m2 hinv hN
                  have hinv0 := hinv
                  obtain ⟨hw0, hw1, hh2, hsc2⟩ := hinv
                  have hok2 := gf_sc_ok hsc2 hc7 hG hs hF
                  refine gf_iload C dd_Fi_digest_44 1 rfl ?_
                  refine gf_iconst C dd_Fi_digest_46 ?_
                  refine gf_icmp_ge 71 C dd_Fi_digest_47 (by decide) (by omega) (by omega) (fun h47 => ?_) (fun h47 => ?_)
                  · skip
                    obtain ⟨x71, hx71⟩ : ∃ y : Int, y = i + 1 := ⟨_, rfl⟩
                    refine gf_iinc (q := 2) (v := x71) (lv' := [(3, .int (gf_i x71)), (1, .long (gf_l h2)), (4, .int (gf_i w)), (0, .ref (gf_ad E 0))]) C dd_Fi_digest_71 rfl hx71 (by decide) rfl ?_
                    refine gf_goto 33 C dd_Fi_digest_74 (by decide) ?_
                    refine gf_lsub [1, 0, 3] rfl ?_
                    exact ih33_2 h2 x71 m2 (by
                            refine ⟨by omega, by omega, ?_, hsc2⟩
                            rw [show x71.toNat = i.toNat + 1 by omega, hh2, show w.toNat = 5 by omega]
                            show _ = pf_dig (pf_dgG μ (pf_H1 μ) i.toNat) (pf_og μ ((i.toNat : Nat) : Int)) 5
                            rw [← hh, show ((i.toNat : Nat) : Int) = i by omega]) (by omega)
                  · skip
                    refine gf_ldc2 31 C dd_Fi_digest_50 ck_Fi_296 (by decide +kernel) ?_
                    refine gf_lload_n C dd_Fi_digest_53 0 rfl ?_
                    refine gf_lmul C dd_Fi_digest_54 ?_
                    refine gf_aload_n C dd_Fi_digest_55 3 rfl ?_
                    refine gf_iload_n C dd_Fi_digest_56 2 rfl ?_
                    refine gf_iload C dd_Fi_digest_57 1 rfl ?_
                    refine gf_callVi (st := [.long (gf_l (31 * h2))]) (As := [.int (gf_i i), .int (gf_i w)]) C wk_Fi_147 gf_cl6 (show gf_is 81 0 0 6 17 by decide) (ct_Fi_ofGuard (gf_xl X) E i w m2 (by rw [hsc2 0 3 (by decide)]; omega) (by omega) hok2.1 hok2.2.1 hok2.2.2.1 hok2.2.2.2) rfl ⟨rfl, rfl, rfl, rfl⟩ (Nat.le_of_ble_eq_true rfl) rfl dd_Fi_digest_59 (fun r59 m59 hR59 hp59 => ?_)
                    refine gf_gi2l C dd_Fi_digest_62 (by have := hp59.1; omega) ?_
                    refine gf_ladd C dd_Fi_digest_63 ?_
                    refine gf_nml (fun x64 hx64 => ?_)
                    refine gf_lstore_n (lv' := [(1, .long (gf_l x64)), (4, .int (gf_i w)), (3, .int (gf_i i)), (0, .ref (gf_ad E 0))]) C dd_Fi_digest_64 (by decide) rfl ?_
                    obtain ⟨x65, hx65⟩ : ∃ y : Int, y = w + 1 := ⟨_, rfl⟩
                    refine gf_iinc (q := 1) (v := x65) (lv' := [(4, .int (gf_i x65)), (1, .long (gf_l x64)), (3, .int (gf_i i)), (0, .ref (gf_ad E 0))]) C dd_Fi_digest_65 rfl hx65 (by decide) rfl ?_
                    refine gf_goto 44 C dd_Fi_digest_68 (by decide) ?_
                    refine gf_lsub [1, 0, 2, 3] rfl ?_
                    exact ih44_6 x64 x65 m59 (by
                            refine ⟨by omega, by omega, ?_, fun a b h => by rw [hp59.2 a b h]; exact hsc2 a b h⟩
                            rw [show x65.toNat = w.toNat + 1 by omega]
                            show _ = 31 * pf_dig h (pf_og μ i) w.toNat + pf_og μ i ((w.toNat : Nat) : Int)
                            rw [← hh2, show ((w.toNat : Nat) : Int) = w by omega, ← pf_og_sc hsc2 (by omega)]
                            have e : r59 = pf_og m2 i w := hp59.1.1
                            rw [← e]
                            exact hx64) (by omega)
              refine gf_lsub [1, 0, 2, 3] rfl ?_
              exact L44_6 _ h 0 m (⟨by omega, by omega, rfl, hsc⟩) (Nat.lt_succ_self _)
        refine gf_lsub [1, 0, 2] rfl ?_
        exact L33_2 _ h 0 m (⟨by omega, by omega, by rw [hh, show w.toNat = 11 by omega]; rfl, hsc⟩) (Nat.lt_succ_self _)
      · skip
        refine gf_ldc2 31 C dd_Fi_digest_12 ck_Fi_296 (by decide +kernel) ?_
        refine gf_lload_n C dd_Fi_digest_15 0 rfl ?_
        refine gf_lmul C dd_Fi_digest_16 ?_
        refine gf_aload_n C dd_Fi_digest_17 2 rfl ?_
        refine gf_iload_n C dd_Fi_digest_18 1 rfl ?_
        refine gf_callVi (st := [.long (gf_l (31 * h))]) (As := [.int (gf_i w)]) C wk_Fi_288 gf_cl6 (show gf_is 81 0 0 6 17 by decide) (ct_Fi_counted (gf_xl X) E w m (by omega) hok.1 hok.2.1 hok.2.2.1 hok.2.2.2 (by rw [hsc 41 2 (by decide)]; exact hd)) rfl ⟨rfl, rfl, rfl, rfl⟩ (Nat.le_of_ble_eq_true rfl) rfl dd_Fi_digest_19 (fun r19 m19 hR19 hp19 => ?_)
        refine gf_gi2l C dd_Fi_digest_22 (by have := hp19.1; omega) ?_
        refine gf_ladd C dd_Fi_digest_23 ?_
        refine gf_nml (fun x24 hx24 => ?_)
        refine gf_lstore_n (lv' := [(1, .long (gf_l x24)), (3, .int (gf_i w)), (0, .ref (gf_ad E 0))]) C dd_Fi_digest_24 (by decide) rfl ?_
        obtain ⟨x25, hx25⟩ : ∃ y : Int, y = w + 1 := ⟨_, rfl⟩
        refine gf_iinc (q := 1) (v := x25) (lv' := [(3, .int (gf_i x25)), (1, .long (gf_l x24)), (0, .ref (gf_ad E 0))]) C dd_Fi_digest_25 rfl hx25 (by decide) rfl ?_
        refine gf_goto 6 C dd_Fi_digest_28 (by decide) ?_
        refine gf_lsub [1, 0, 2] rfl ?_
        exact ih6_1 x24 x25 m19 (by
                refine ⟨by omega, by omega, ?_, fun a b h => by rw [hp19.2 a b h]; exact hsc a b h⟩
                rw [show x25.toNat = w.toNat + 1 by omega]
                show _ = 31 * pf_dig 17 (pf_cn μ) w.toNat + pf_cn μ ((w.toNat : Nat) : Int)
                rw [← hh, show ((w.toNat : Nat) : Int) = w by omega, ← pf_cn_sc hsc hc7, ← hp19.1.1]
                exact hx24) (by omega)
  refine gf_lsub [1, 0, 2] rfl ?_
  exact L6_1 _ 17 0 μ (⟨by omega, by omega, rfl, gf_sc_rf⟩) (Nat.lt_succ_self _)
