/-! the fewest others, the ways to fill -/
theorem gf_up_o {μ : gf_M} {k j v a b : Int} (h : ¬ (a = k ∧ b = j)) : gf_up μ k j v a b = μ a b := by simp [gf_up, h]
theorem pf_oth_congr {K F S n : Int} {x x' : Int → Int} {k s f : Int} {nx nx' : Int → Int} (hx : x k = x' k) (h : ∀ z : Int, 0 ≤ z → z ≤ 10 → nx z = nx' z) : pf_oth K F S n x k s f nx = pf_oth K F S n x' k s f nx' := by
  have hz := pf_fol_R K F S s k f n
  unfold pf_oth
  rw [hx, h _ hz.1 hz.2]
def pf_pkN (K F S n c : Int) (x : Int → Int) (k s : Int) : Int := pf_pick (fun f => decide (pf_oth K F S n x k s f (pf_VN K F S n c x (n - 1 - k).toNat) = pf_VN K F S n c x (n - k).toNat s)) 9 0
theorem pf_pkN_R (K F S n c : Int) (x : Int → Int) (k s : Int) : 0 ≤ pf_pkN K F S n c x k s ∧ pf_pkN K F S n c x k s ≤ 9 := by
  have := pf_pick_R (fun f => decide (pf_oth K F S n x k s f (pf_VN K F S n c x (n - 1 - k).toNat) = pf_VN K F S n c x (n - k).toNat s)) 9 0
  unfold pf_pkN
  omega
/-- y the figures, -1 where smeared -/
def pf_way (K F S n : Int) (y : Int → Int) (k s f : Int) (nx : Int → Int) : Int := if y k ≠ -1 ∧ y k ≠ f then 0 else nx (pf_fol K F S s k f n)
def pf_sumf (g : Int → Int) : Nat → Int
  | 0 => 0
  | f + 1 => pf_sumf g f + g f
theorem pf_sumf_congr {g h : Int → Int} : ∀ n : Nat, (∀ f : Int, 0 ≤ f → f < n → g f = h f) → pf_sumf g n = pf_sumf h n
  | 0, _ => rfl
  | n + 1, e => by unfold pf_sumf; rw [pf_sumf_congr n (fun f h0 h1 => e f h0 (by omega)), e n (by omega) (by omega)]
theorem pf_sumf_R {g : Int → Int} {B : Int} : ∀ n : Nat, (∀ f : Int, 0 ≤ f → f < n → 0 ≤ g f ∧ g f ≤ B) → 0 ≤ pf_sumf g n ∧ pf_sumf g n ≤ B * n
  | 0, _ => by simp [pf_sumf]
  | n + 1, h => by
    have ih := pf_sumf_R n (fun f h0 h1 => h f h0 (by omega))
    have := h n (by omega) (by omega)
    unfold pf_sumf
    have e : B * ((n + 1 : Nat) : Int) = B * n + B := by rw [Int.natCast_add, Int.mul_add]; simp
    omega
def pf_stW (K F S n : Int) (y : Int → Int) (r : Nat) (s : Int) (nx : Int → Int) : Int := pf_sumf (fun f => pf_way K F S n y (n - 1 - r) s f nx) 10
def pf_VW (K F S n c : Int) (y : Int → Int) : Nat → Int → Int := pf_dp (pf_stW K F S n y) (pf_eC K n c 1 0)
theorem pf_VW_R (K F S n c : Int) (y : Int → Int) : ∀ (r : Nat) (s : Int), 0 ≤ s ∧ s ≤ 10 → 0 ≤ pf_VW K F S n c y r s ∧ pf_VW K F S n c y r s ≤ 10 ^ r
  | 0, s, _ => by unfold pf_VW pf_dp pf_eC; split <;> simp
  | r + 1, s, _ => by
    show 0 ≤ pf_sumf _ 10 ∧ pf_sumf _ 10 ≤ 10 ^ (r + 1)
    have := pf_sumf_R (g := fun f => pf_way K F S n y (n - 1 - r) s f (pf_VW K F S n c y r)) (B := 10 ^ r) 10 (fun f h0 h1 => by
      have h2 := pf_VW_R K F S n c y r (pf_fol K F S s (n - 1 - r) f n) (pf_fol_R _ _ _ _ _ _ _)
      show 0 ≤ pf_way _ _ _ _ _ _ _ _ _ ∧ pf_way _ _ _ _ _ _ _ _ _ ≤ _
      unfold pf_way
      split <;> omega)
    rw [Int.pow_succ]
    exact this
theorem pf_way_congr {K F S n : Int} {y y' : Int → Int} {k s f : Int} {nx nx' : Int → Int} (hx : y k = y' k) (h : ∀ z : Int, 0 ≤ z → z ≤ 10 → nx z = nx' z) : pf_way K F S n y k s f nx = pf_way K F S n y' k s f nx' := by
  have hz := pf_fol_R K F S s k f n
  unfold pf_way
  rw [hx, h _ hz.1 hz.2]
def pf_pkW (K F S n c : Int) (y : Int → Int) (k s : Int) : Int := pf_pick (fun f => decide (pf_way K F S n y k s f (pf_VW K F S n c y (n - 1 - k).toNat) ≠ 0)) 9 0
theorem pf_pkW_R (K F S n c : Int) (y : Int → Int) (k s : Int) : 0 ≤ pf_pkW K F S n c y k s ∧ pf_pkW K F S n c y k s ≤ 9 := by
  have := pf_pick_R (fun f => decide (pf_way K F S n y k s f (pf_VW K F S n c y (n - 1 - k).toNat) ≠ 0)) 9 0
  unfold pf_pkW
  omega
theorem dd_Ou_fewestOthers_0 : decode cc_Ou_fewestOthers 0 = .ok (.aload_n 2, 1) := by decide +kernel
theorem dd_Ou_fewestOthers_1 : decode cc_Ou_fewestOthers 1 = .ok (.getfield 15, 3) := by decide +kernel
theorem dd_Ou_fewestOthers_4 : decode cc_Ou_fewestOthers 4 = .ok (.istore 4, 2) := by decide +kernel
theorem dd_Ou_fewestOthers_6 : decode cc_Ou_fewestOthers 6 = .ok (.aload_n 0, 1) := by decide +kernel
theorem dd_Ou_fewestOthers_7 : decode cc_Ou_fewestOthers 7 = .ok (.aload_n 1, 1) := by decide +kernel
theorem dd_Ou_fewestOthers_8 : decode cc_Ou_fewestOthers 8 = .ok (.iload 4, 2) := by decide +kernel
theorem dd_Ou_fewestOthers_10 : decode cc_Ou_fewestOthers 10 = .ok (.iload_n 3, 1) := by decide +kernel
theorem dd_Ou_fewestOthers_11 : decode cc_Ou_fewestOthers 11 = .ok (.iconst 0, 1) := by decide +kernel
theorem dd_Ou_fewestOthers_12 : decode cc_Ou_fewestOthers 12 = .ok (.bipush 100, 2) := by decide +kernel
theorem dd_Ou_fewestOthers_14 : decode cc_Ou_fewestOthers 14 = .ok (.invokevirtual 21, 3) := by decide +kernel
theorem dd_Ou_fewestOthers_17 : decode cc_Ou_fewestOthers 17 = .ok (.iload 4, 2) := by decide +kernel
theorem dd_Ou_fewestOthers_19 : decode cc_Ou_fewestOthers 19 = .ok (.iconst 1, 1) := by decide +kernel
theorem dd_Ou_fewestOthers_20 : decode cc_Ou_fewestOthers 20 = .ok (.isub, 1) := by decide +kernel
theorem dd_Ou_fewestOthers_21 : decode cc_Ou_fewestOthers 21 = .ok (.istore 5, 2) := by decide +kernel
theorem dd_Ou_fewestOthers_23 : decode cc_Ou_fewestOthers 23 = .ok (.iload 5, 2) := by decide +kernel
theorem dd_Ou_fewestOthers_25 : decode cc_Ou_fewestOthers 25 = .ok (.ifCond .lt 75, 3) := by decide +kernel
theorem dd_Ou_fewestOthers_28 : decode cc_Ou_fewestOthers 28 = .ok (.iconst 0, 1) := by decide +kernel
theorem dd_Ou_fewestOthers_29 : decode cc_Ou_fewestOthers 29 = .ok (.istore 6, 2) := by decide +kernel
theorem dd_Ou_fewestOthers_31 : decode cc_Ou_fewestOthers 31 = .ok (.iload 6, 2) := by decide +kernel
theorem dd_Ou_fewestOthers_33 : decode cc_Ou_fewestOthers 33 = .ok (.bipush 11, 2) := by decide +kernel
theorem dd_Ou_fewestOthers_35 : decode cc_Ou_fewestOthers 35 = .ok (.if_icmp .ge 59, 3) := by decide +kernel
theorem dd_Ou_fewestOthers_38 : decode cc_Ou_fewestOthers 38 = .ok (.ldc2_w 25, 3) := by decide +kernel
theorem dd_Ou_fewestOthers_41 : decode cc_Ou_fewestOthers 41 = .ok (.lstore 7, 2) := by decide +kernel
theorem dd_Ou_fewestOthers_43 : decode cc_Ou_fewestOthers 43 = .ok (.iconst 0, 1) := by decide +kernel
theorem dd_Ou_fewestOthers_44 : decode cc_Ou_fewestOthers 44 = .ok (.istore 9, 2) := by decide +kernel
theorem dd_Ou_fewestOthers_46 : decode cc_Ou_fewestOthers 46 = .ok (.iload 9, 2) := by decide +kernel
theorem dd_Ou_fewestOthers_48 : decode cc_Ou_fewestOthers 48 = .ok (.bipush 10, 2) := by decide +kernel
theorem dd_Ou_fewestOthers_50 : decode cc_Ou_fewestOthers 50 = .ok (.if_icmp .ge 28, 3) := by decide +kernel
theorem dd_Ou_fewestOthers_53 : decode cc_Ou_fewestOthers 53 = .ok (.lload 7, 2) := by decide +kernel
theorem dd_Ou_fewestOthers_55 : decode cc_Ou_fewestOthers 55 = .ok (.aload_n 0, 1) := by decide +kernel
theorem dd_Ou_fewestOthers_56 : decode cc_Ou_fewestOthers 56 = .ok (.aload_n 1, 1) := by decide +kernel
theorem dd_Ou_fewestOthers_57 : decode cc_Ou_fewestOthers 57 = .ok (.aload_n 2, 1) := by decide +kernel
theorem dd_Ou_fewestOthers_58 : decode cc_Ou_fewestOthers 58 = .ok (.iload 5, 2) := by decide +kernel
theorem dd_Ou_fewestOthers_60 : decode cc_Ou_fewestOthers 60 = .ok (.iload 6, 2) := by decide +kernel
theorem dd_Ou_fewestOthers_62 : decode cc_Ou_fewestOthers 62 = .ok (.iload 9, 2) := by decide +kernel
theorem dd_Ou_fewestOthers_64 : decode cc_Ou_fewestOthers 64 = .ok (.invokevirtual 27, 3) := by decide +kernel
theorem dd_Ou_fewestOthers_67 : decode cc_Ou_fewestOthers 67 = .ok (.invokestatic 31, 3) := by decide +kernel
theorem dd_Ou_fewestOthers_70 : decode cc_Ou_fewestOthers 70 = .ok (.lstore 7, 2) := by decide +kernel
theorem dd_Ou_fewestOthers_72 : decode cc_Ou_fewestOthers 72 = .ok (.iinc 9 1, 3) := by decide +kernel
theorem dd_Ou_fewestOthers_75 : decode cc_Ou_fewestOthers 75 = .ok (.goto (-29), 3) := by decide +kernel
theorem dd_Ou_fewestOthers_78 : decode cc_Ou_fewestOthers 78 = .ok (.aload_n 0, 1) := by decide +kernel
theorem dd_Ou_fewestOthers_79 : decode cc_Ou_fewestOthers 79 = .ok (.iload 5, 2) := by decide +kernel
theorem dd_Ou_fewestOthers_81 : decode cc_Ou_fewestOthers 81 = .ok (.iload 6, 2) := by decide +kernel
theorem dd_Ou_fewestOthers_83 : decode cc_Ou_fewestOthers 83 = .ok (.lload 7, 2) := by decide +kernel
theorem dd_Ou_fewestOthers_85 : decode cc_Ou_fewestOthers 85 = .ok (.invokevirtual 37, 3) := by decide +kernel
theorem dd_Ou_fewestOthers_88 : decode cc_Ou_fewestOthers 88 = .ok (.iinc 6 1, 3) := by decide +kernel
theorem dd_Ou_fewestOthers_91 : decode cc_Ou_fewestOthers 91 = .ok (.goto (-60), 3) := by decide +kernel
theorem dd_Ou_fewestOthers_94 : decode cc_Ou_fewestOthers 94 = .ok (.iinc 5 (-1), 3) := by decide +kernel
theorem dd_Ou_fewestOthers_97 : decode cc_Ou_fewestOthers 97 = .ok (.goto (-74), 3) := by decide +kernel
theorem dd_Ou_fewestOthers_100 : decode cc_Ou_fewestOthers 100 = .ok (.aload_n 0, 1) := by decide +kernel
theorem dd_Ou_fewestOthers_101 : decode cc_Ou_fewestOthers 101 = .ok (.iconst 0, 1) := by decide +kernel
theorem dd_Ou_fewestOthers_102 : decode cc_Ou_fewestOthers 102 = .ok (.putfield 41, 3) := by decide +kernel
theorem dd_Ou_fewestOthers_105 : decode cc_Ou_fewestOthers 105 = .ok (.iconst 0, 1) := by decide +kernel
theorem dd_Ou_fewestOthers_106 : decode cc_Ou_fewestOthers 106 = .ok (.istore 5, 2) := by decide +kernel
theorem dd_Ou_fewestOthers_108 : decode cc_Ou_fewestOthers 108 = .ok (.iconst 0, 1) := by decide +kernel
theorem dd_Ou_fewestOthers_109 : decode cc_Ou_fewestOthers 109 = .ok (.istore 6, 2) := by decide +kernel
theorem dd_Ou_fewestOthers_111 : decode cc_Ou_fewestOthers 111 = .ok (.iload 6, 2) := by decide +kernel
theorem dd_Ou_fewestOthers_113 : decode cc_Ou_fewestOthers 113 = .ok (.iload 4, 2) := by decide +kernel
theorem dd_Ou_fewestOthers_115 : decode cc_Ou_fewestOthers 115 = .ok (.if_icmp .ge 77, 3) := by decide +kernel
theorem dd_Ou_fewestOthers_118 : decode cc_Ou_fewestOthers 118 = .ok (.iconst 0, 1) := by decide +kernel
theorem dd_Ou_fewestOthers_119 : decode cc_Ou_fewestOthers 119 = .ok (.istore 7, 2) := by decide +kernel
theorem dd_Ou_fewestOthers_121 : decode cc_Ou_fewestOthers 121 = .ok (.iload 7, 2) := by decide +kernel
theorem dd_Ou_fewestOthers_123 : decode cc_Ou_fewestOthers 123 = .ok (.bipush 9, 2) := by decide +kernel
theorem dd_Ou_fewestOthers_125 : decode cc_Ou_fewestOthers 125 = .ok (.if_icmp .ge 33, 3) := by decide +kernel
theorem dd_Ou_fewestOthers_128 : decode cc_Ou_fewestOthers 128 = .ok (.aload_n 0, 1) := by decide +kernel
theorem dd_Ou_fewestOthers_129 : decode cc_Ou_fewestOthers 129 = .ok (.aload_n 1, 1) := by decide +kernel
theorem dd_Ou_fewestOthers_130 : decode cc_Ou_fewestOthers 130 = .ok (.aload_n 2, 1) := by decide +kernel
theorem dd_Ou_fewestOthers_131 : decode cc_Ou_fewestOthers 131 = .ok (.iload 6, 2) := by decide +kernel
theorem dd_Ou_fewestOthers_133 : decode cc_Ou_fewestOthers 133 = .ok (.iload 5, 2) := by decide +kernel
theorem dd_Ou_fewestOthers_135 : decode cc_Ou_fewestOthers 135 = .ok (.iload 7, 2) := by decide +kernel
theorem dd_Ou_fewestOthers_137 : decode cc_Ou_fewestOthers 137 = .ok (.invokevirtual 27, 3) := by decide +kernel
theorem dd_Ou_fewestOthers_140 : decode cc_Ou_fewestOthers 140 = .ok (.aload_n 0, 1) := by decide +kernel
theorem dd_Ou_fewestOthers_141 : decode cc_Ou_fewestOthers 141 = .ok (.iload 6, 2) := by decide +kernel
theorem dd_Ou_fewestOthers_143 : decode cc_Ou_fewestOthers 143 = .ok (.iload 5, 2) := by decide +kernel
theorem dd_Ou_fewestOthers_145 : decode cc_Ou_fewestOthers 145 = .ok (.invokevirtual 44, 3) := by decide +kernel
theorem dd_Ou_fewestOthers_148 : decode cc_Ou_fewestOthers 148 = .ok (.lcmp, 1) := by decide +kernel
theorem dd_Ou_fewestOthers_149 : decode cc_Ou_fewestOthers 149 = .ok (.ifCond .eq 9, 3) := by decide +kernel
theorem dd_Ou_fewestOthers_152 : decode cc_Ou_fewestOthers 152 = .ok (.iinc 7 1, 3) := by decide +kernel
theorem dd_Ou_fewestOthers_155 : decode cc_Ou_fewestOthers 155 = .ok (.goto (-34), 3) := by decide +kernel
theorem dd_Ou_fewestOthers_158 : decode cc_Ou_fewestOthers 158 = .ok (.aload_n 0, 1) := by decide +kernel
theorem dd_Ou_fewestOthers_159 : decode cc_Ou_fewestOthers 159 = .ok (.aload_n 0, 1) := by decide +kernel
theorem dd_Ou_fewestOthers_160 : decode cc_Ou_fewestOthers 160 = .ok (.getfield 41, 3) := by decide +kernel
theorem dd_Ou_fewestOthers_163 : decode cc_Ou_fewestOthers 163 = .ok (.bipush 10, 2) := by decide +kernel
theorem dd_Ou_fewestOthers_165 : decode cc_Ou_fewestOthers 165 = .ok (.imul, 1) := by decide +kernel
theorem dd_Ou_fewestOthers_166 : decode cc_Ou_fewestOthers 166 = .ok (.iload 7, 2) := by decide +kernel
theorem dd_Ou_fewestOthers_168 : decode cc_Ou_fewestOthers 168 = .ok (.iadd, 1) := by decide +kernel
theorem dd_Ou_fewestOthers_169 : decode cc_Ou_fewestOthers 169 = .ok (.putfield 41, 3) := by decide +kernel
theorem dd_Ou_fewestOthers_172 : decode cc_Ou_fewestOthers 172 = .ok (.aload_n 1, 1) := by decide +kernel
theorem dd_Ou_fewestOthers_173 : decode cc_Ou_fewestOthers 173 = .ok (.iload 5, 2) := by decide +kernel
theorem dd_Ou_fewestOthers_175 : decode cc_Ou_fewestOthers 175 = .ok (.iload 6, 2) := by decide +kernel
theorem dd_Ou_fewestOthers_177 : decode cc_Ou_fewestOthers 177 = .ok (.iload 7, 2) := by decide +kernel
theorem dd_Ou_fewestOthers_179 : decode cc_Ou_fewestOthers 179 = .ok (.iload 4, 2) := by decide +kernel
theorem dd_Ou_fewestOthers_181 : decode cc_Ou_fewestOthers 181 = .ok (.invokevirtual 48, 3) := by decide +kernel
theorem dd_Ou_fewestOthers_184 : decode cc_Ou_fewestOthers 184 = .ok (.istore 5, 2) := by decide +kernel
theorem dd_Ou_fewestOthers_186 : decode cc_Ou_fewestOthers 186 = .ok (.iinc 6 1, 3) := by decide +kernel
theorem dd_Ou_fewestOthers_189 : decode cc_Ou_fewestOthers 189 = .ok (.goto (-78), 3) := by decide +kernel
theorem dd_Ou_fewestOthers_192 : decode cc_Ou_fewestOthers 192 = .ok (.aload_n 0, 1) := by decide +kernel
theorem dd_Ou_fewestOthers_193 : decode cc_Ou_fewestOthers 193 = .ok (.iconst 0, 1) := by decide +kernel
theorem dd_Ou_fewestOthers_194 : decode cc_Ou_fewestOthers 194 = .ok (.iconst 0, 1) := by decide +kernel
theorem dd_Ou_fewestOthers_195 : decode cc_Ou_fewestOthers 195 = .ok (.invokevirtual 44, 3) := by decide +kernel
theorem dd_Ou_fewestOthers_198 : decode cc_Ou_fewestOthers 198 = .ok (.l2i, 1) := by decide +kernel
theorem dd_Ou_fewestOthers_199 : decode cc_Ou_fewestOthers 199 = .ok (.ireturn, 1) := by decide +kernel
set_option maxRecDepth 100000 in
set_option maxHeartbeats 4000000 in
theorem ct_Ou_fewestOthers (l : Launch) (E : gf_E) (g : Int) (μ : gf_M) (hg : gf_oGd g) (hg58 : g ≤ 58) (hG : gf_okG μ g) (c : Int) (hc : gf_R c) (hs : 0 ≤ μ 41 1 ∧ μ 41 1 ≤ 8) (hF : gf_okF μ 42 (μ 41 1)) : gf_Mi l E yy_Ou_fewestOthers cc_Ou_fewestOthers 10 .int (gf_rm 3 72) 81 gf_ref μ [.ref (gf_ad E 59), .ref (gf_ad E g), .ref (gf_ad E 41), .int (gf_i c)] (fun r μ' => (r = pf_VN (μ g 0) (μ g 1) (μ g 2) (μ 41 1) c (μ 42) (μ 41 1).toNat 0 ∧ 0 ≤ r ∧ r ≤ 100) ∧ (μ' 59 1 = (pf_run (μ g 0) (μ g 1) (μ g 2) (μ 41 1) (pf_pkN (μ g 0) (μ g 1) (μ g 2) (μ 41 1) c (μ 42)) (μ 41 1).toNat).2 ∧ ∀ x y : Int, x ≠ 60 → ¬ (x = 59 ∧ y = 1) → μ' x y = μ x y)) := by
  refine gf_mi (by decide +kernel) (Nat.le_of_ble_eq_true rfl) (by decide) (fun X Q hlx C hQ => ?_)
  subst hlx
  replace C : gf_C X E cc_Ou_fewestOthers 10 "GuardFigures$Outlook" (gf_rm 3 72) := C
  show gf_G X E Q 10 gf_φ μ 0 [(0, .ref (gf_ad E 59)), (1, .ref (gf_ad E g)), (2, .ref (gf_ad E 41)), (3, .int (gf_i c))] []
  obtain ⟨VV, hVV⟩ : ∃ z, z = pf_VN (μ g 0) (μ g 1) (μ g 2) (μ 41 1) c (μ 42) := ⟨_, rfl⟩
  have hVR : ∀ (r : Nat) (s : Int), 0 ≤ s → s ≤ 10 → 0 ≤ VV r s ∧ VV r s ≤ 100 := fun r s h0 h1 => by rw [hVV]; exact pf_VN_R _ _ _ _ _ _ r s ⟨h0, h1⟩
  have hVS : ∀ (k s : Int), 0 ≤ k → k < μ 41 1 → VV (μ 41 1 - k).toNat s = pf_minf (fun f => pf_oth (μ g 0) (μ g 1) (μ g 2) (μ 41 1) (μ 42) k s f (VV (μ 41 1 - 1 - k).toNat)) 10 := fun k s h0 h1 => by
    rw [show (μ 41 1 - k).toNat = (μ 41 1 - 1 - k).toNat + 1 by omega, hVV]
    show pf_minf (fun f => pf_oth _ _ _ _ _ (μ 41 1 - 1 - ((μ 41 1 - 1 - k).toNat : Nat)) s f _) 10 = _
    rw [show (μ 41 1 - 1 - ((μ 41 1 - 1 - k).toNat : Nat) : Int) = k by omega]
    rfl
  refine gf_aload_n C dd_Ou_fewestOthers_0 2 rfl ?_
  refine gf_getI (z := 1) C gf_cl5 fl_Ou_15 dd_Ou_fewestOthers_1 rfl rfl (show gf_is 81 41 0 5 5 by decide) (fun hv1 => ?_)
  refine gf_nm (fun x4 hx4 => ?_)
  refine gf_istore (lv' := [(4, .int (gf_i x4)), (0, .ref (gf_ad E 59)), (1, .ref (gf_ad E g)), (2, .ref (gf_ad E 41)), (3, .int (gf_i c))]) C dd_Ou_fewestOthers_4 (by decide) rfl ?_
  refine gf_aload_n C dd_Ou_fewestOthers_6 1 rfl ?_
  refine gf_aload_n C dd_Ou_fewestOthers_7 2 rfl ?_
  refine gf_iload C dd_Ou_fewestOthers_8 0 rfl ?_
  refine gf_iload_n C dd_Ou_fewestOthers_10 4 rfl ?_
  refine gf_iconst C dd_Ou_fewestOthers_11 ?_
  refine gf_bipush C dd_Ou_fewestOthers_12 (by decide +kernel) ?_
  refine gf_callVv (st := []) (As := [.ref (gf_ad E g), .int (gf_i x4), .int (gf_i c), .int (gf_i 0), .int (gf_i 100)]) C wk_Ou_21 gf_cl1 (show gf_is 81 59 0 1 2 by decide) (ct_Ou_endWithCheck (gf_xl X) E g μ hg hg58 hG x4 c 0 100 (by omega) hc (by decide) (by decide)) rfl ⟨rfl, rfl, rfl, rfl⟩ (Nat.le_of_ble_eq_true rfl) rfl dd_Ou_fewestOthers_14 (fun m14 hp14 => ?_)
  obtain ⟨hp14a, hp14b⟩ := hp14
  refine gf_iload C dd_Ou_fewestOthers_17 0 rfl ?_
  refine gf_iconst C dd_Ou_fewestOthers_19 ?_
  refine gf_isub C dd_Ou_fewestOthers_20 ?_
  refine gf_nm (fun x21 hx21 => ?_)
  refine gf_istore (lv' := [(5, .int (gf_i x21)), (4, .int (gf_i x4)), (0, .ref (gf_ad E 59)), (1, .ref (gf_ad E g)), (2, .ref (gf_ad E 41)), (3, .int (gf_i c))]) C dd_Ou_fewestOthers_21 (by decide) rfl ?_
  have L23_1 : ∀ (N : Nat) (k : Int) (m : gf_M) , (-1 ≤ k ∧ k < μ 41 1 ∧ gf_tb m (μ 41 1) VV (k + 1) ∧ ∀ x y : Int, x ≠ 60 → m x y = μ x y) → (k + 1).toNat < N → gf_G X E Q 10 gf_φ m 23 [(5, .int (gf_i k)), (0, .ref (gf_ad E 59)), (1, .ref (gf_ad E g)), (2, .ref (gf_ad E 41)), (3, .int (gf_i c)), (4, .int (gf_i x4))] [] := by
    intro N
    induction N with
    | zero => intro k m hinv hN; exact absurd hN (Nat.not_lt_zero _)
    | succ N ih23_1 =>
      intro k m hinv hN
      have hinv0 := hinv
      obtain ⟨hk0, hk1, hk2, hk3⟩ := hinv
      refine gf_iload C dd_Ou_fewestOthers_23 0 rfl ?_
      refine gf_if_lt 100 C dd_Ou_fewestOthers_25 (by decide) (by omega) (fun h25 => ?_) (fun h25 => ?_)
      · skip
        have hk1 : k = -1 := by omega
        have htb0 : gf_tb m (μ 41 1) VV 0 := by have := hk2; rw [hk1] at this; exact this
        refine gf_aload_n C dd_Ou_fewestOthers_100 1 rfl ?_
        refine gf_iconst C dd_Ou_fewestOthers_101 ?_
        refine gf_putI (z := 1) C gf_cl1 fl_Ou_41 dd_Ou_fewestOthers_102 rfl rfl rfl (by decide +kernel) (show gf_is 81 59 0 1 2 by decide) (by omega) ?_
        refine gf_nmM (fun m102 hm102 => ?_)
        refine gf_iconst C dd_Ou_fewestOthers_105 ?_
        refine gf_istore (lv' := [(5, .int (gf_i 0)), (0, .ref (gf_ad E 59)), (1, .ref (gf_ad E g)), (2, .ref (gf_ad E 41)), (3, .int (gf_i c)), (4, .int (gf_i x4))]) C dd_Ou_fewestOthers_106 (by decide) rfl ?_
        refine gf_iconst C dd_Ou_fewestOthers_108 ?_
        refine gf_istore (lv' := [(6, .int (gf_i 0)), (5, .int (gf_i 0)), (0, .ref (gf_ad E 59)), (1, .ref (gf_ad E g)), (2, .ref (gf_ad E 41)), (3, .int (gf_i c)), (4, .int (gf_i x4))]) C dd_Ou_fewestOthers_109 (by decide) rfl ?_
        have L111_2 : ∀ (N : Nat) (s k : Int) (m : gf_M) , (0 ≤ k ∧ k ≤ μ 41 1 ∧ s = (pf_run (μ g 0) (μ g 1) (μ g 2) (μ 41 1) (pf_pkN (μ g 0) (μ g 1) (μ g 2) (μ 41 1) c (μ 42)) k.toNat).1 ∧ m 59 1 = (pf_run (μ g 0) (μ g 1) (μ g 2) (μ 41 1) (pf_pkN (μ g 0) (μ g 1) (μ g 2) (μ 41 1) c (μ 42)) k.toNat).2 ∧ gf_tb m (μ 41 1) VV 0 ∧ ∀ x y : Int, x ≠ 60 → ¬ (x = 59 ∧ y = 1) → m x y = μ x y) → (8 - k).toNat < N → gf_G X E Q 10 gf_φ m 111 [(5, .int (gf_i s)), (6, .int (gf_i k)), (0, .ref (gf_ad E 59)), (1, .ref (gf_ad E g)), (2, .ref (gf_ad E 41)), (3, .int (gf_i c)), (4, .int (gf_i x4))] [] := by
          intro N
          induction N with
          | zero => intro s k m hinv hN; exact absurd hN (Nat.not_lt_zero _)
          | succ N ih111_2 =>
            intro s k m hinv hN
            have hinv0 := hinv
            obtain ⟨hk0, hk1, hrs, hrl, htc, ef111⟩ := hinv
            have hsR := pf_run_R (μ g 0) (μ g 1) (μ g 2) (μ 41 1) (pf_pkN (μ g 0) (μ g 1) (μ g 2) (μ 41 1) c (μ 42)) k.toNat
            rw [← hrs] at hsR
            have hlB := pf_run_B (K := μ g 0) (F := μ g 1) (S := μ g 2) (n := μ 41 1) (pk := pf_pkN (μ g 0) (μ g 1) (μ g 2) (μ 41 1) c (μ 42)) (fun a b => pf_pkN_R _ _ _ _ _ _ a b) k.toNat
            rw [← hrl] at hlB
            have h108 := pf_10_8 (k := k.toNat) (by omega)
            have e41c : m 41 1 = μ 41 1 := ef111 41 1 (by decide) (by decide)
            have hG111 : gf_okG m g := by unfold gf_okG; rw [ef111 g 0 (by omega) (by omega), ef111 g 1 (by omega) (by omega), ef111 g 2 (by omega) (by omega)]; exact hG
            refine gf_iload C dd_Ou_fewestOthers_111 1 rfl ?_
            refine gf_iload C dd_Ou_fewestOthers_113 6 rfl ?_
            refine gf_icmp_ge 192 C dd_Ou_fewestOthers_115 (by decide) (by omega) (by omega) (fun h115 => ?_) (fun h115 => ?_)
            · skip
              refine gf_aload_n C dd_Ou_fewestOthers_192 2 rfl ?_
              refine gf_iconst C dd_Ou_fewestOthers_193 ?_
              refine gf_iconst C dd_Ou_fewestOthers_194 ?_
              skip
              refine gf_callVl (st := []) (As := [.int (gf_i 0), .int (gf_i 0)]) C wk_Ou_44 gf_cl1 (show gf_is 81 59 0 1 2 by decide) (ct_Ou_valueOf (gf_xl X) E 0 0 m (by omega) (by omega)) rfl ⟨rfl, rfl, rfl, rfl⟩ (Nat.le_of_ble_eq_true rfl) rfl dd_Ou_fewestOthers_195 (fun r195 m195 hR195 hp195 => ?_)
              have hr195 := hp195.1
              refine gf_pm hp195.2 ?_
              have hv00 := hVR (μ 41 1).toNat 0 (by omega) (by omega)
              have hr195b : r195 = VV (μ 41 1).toNat 0 := by rw [hr195, htc 0 0 (by omega) (by omega) (by omega) (by omega), show μ 41 1 - 0 = μ 41 1 by omega]
              refine gf_gl2i C dd_Ou_fewestOthers_198 ?_
              refine gf_iret C hQ dd_Ou_fewestOthers_199 (by omega) ?_
              have hkn : k = μ 41 1 := by omega
              refine ⟨⟨?_, by omega, by omega⟩, ?_, ef111⟩
              · rw [hr195]
                have := htc 0 0 (by omega) (by omega) (by omega) (by omega)
                rw [show (0 : Int) * 11 + 0 = 0 * 11 + 0 by rfl, this, hVV, show μ 41 1 - 0 = μ 41 1 by omega]
              · rw [hrl, hkn]
            · skip
              refine gf_iconst C dd_Ou_fewestOthers_118 ?_
              refine gf_istore (lv' := [(7, .int (gf_i 0)), (5, .int (gf_i s)), (6, .int (gf_i k)), (0, .ref (gf_ad E 59)), (1, .ref (gf_ad E g)), (2, .ref (gf_ad E 41)), (3, .int (gf_i c)), (4, .int (gf_i x4))]) C dd_Ou_fewestOthers_119 (by decide) rfl ?_
              have L121_3 : ∀ (N : Nat) (f : Int) , (0 ≤ f ∧ f ≤ 9 ∧ pf_pkN (μ g 0) (μ g 1) (μ g 2) (μ 41 1) c (μ 42) k s = pf_pick (fun f => decide (pf_oth (μ g 0) (μ g 1) (μ g 2) (μ 41 1) (μ 42) k s f (VV (μ 41 1 - 1 - k).toNat) = VV (μ 41 1 - k).toNat s)) (9 - f).toNat f) → (9 - f).toNat < N → gf_G X E Q 10 gf_φ m 121 [(7, .int (gf_i f)), (5, .int (gf_i s)), (6, .int (gf_i k)), (0, .ref (gf_ad E 59)), (1, .ref (gf_ad E g)), (2, .ref (gf_ad E 41)), (3, .int (gf_i c)), (4, .int (gf_i x4))] [] := by
                intro N
                induction N with
                | zero => intro f hinv hN; exact absurd hN (Nat.not_lt_zero _)
                | succ N ih121_3 =>
                  intro f hinv hN
                  have hinv0 := hinv
                  obtain ⟨hf0, hf1, hf2⟩ := hinv
                  have hvc : ∀ z : Int, 0 ≤ z → z ≤ 10 → 0 ≤ m 60 ((k + 1) * 11 + z) ∧ m 60 ((k + 1) * 11 + z) ≤ 100 := fun z h0 h1 => by rw [htc (k + 1) z (by omega) (by omega) h0 h1]; exact hVR _ z h0 h1
                  refine gf_iload C dd_Ou_fewestOthers_121 0 rfl ?_
                  refine gf_bipush C dd_Ou_fewestOthers_123 (by decide +kernel) ?_
                  refine gf_icmp_ge 158 C dd_Ou_fewestOthers_125 (by decide) (by omega) (by omega) (fun h125 => ?_) (fun h125 => ?_)
                  · skip
                    have hpick : f = pf_pkN (μ g 0) (μ g 1) (μ g 2) (μ 41 1) c (μ 42) k s := by
                      rw [hf2]
                      first
                      | (rw [show (9 - f).toNat = 0 by omega]; rfl)
                      | (rw [show (9 - f).toNat = (9 - (f + 1)).toNat + 1 by omega]
                         show _ = if decide _ = true then _ else _
                         rw [if_pos (by rw [decide_eq_true_eq, ← hoe, ← hve]; omega)])
                    refine gf_aload_n C dd_Ou_fewestOthers_158 3 rfl ?_
                    refine gf_aload_n C dd_Ou_fewestOthers_159 3 rfl ?_
                    refine gf_getI (z := 1) C gf_cl1 fl_Ou_41 dd_Ou_fewestOthers_160 rfl rfl (show gf_is 81 59 0 1 2 by decide) (fun hv160 => ?_)
                    refine gf_bipush C dd_Ou_fewestOthers_163 (by decide +kernel) ?_
                    refine gf_imul C dd_Ou_fewestOthers_165 ?_
                    refine gf_iload C dd_Ou_fewestOthers_166 0 rfl ?_
                    refine gf_iadd C dd_Ou_fewestOthers_168 ?_
                    refine gf_putI (z := 1) C gf_cl1 fl_Ou_41 dd_Ou_fewestOthers_169 rfl rfl rfl (by decide +kernel) (show gf_is 81 59 0 1 2 by decide) (by omega) ?_
                    refine gf_nmM (fun m169 hm169 => ?_)
                    have hG169 : gf_okG m169 g := by unfold gf_okG; rw [hm169, gf_up_k (by omega), gf_up_k (by omega), gf_up_k (by omega)]; exact hG111
                    refine gf_aload_n C dd_Ou_fewestOthers_172 4 rfl ?_
                    refine gf_iload C dd_Ou_fewestOthers_173 1 rfl ?_
                    refine gf_iload C dd_Ou_fewestOthers_175 2 rfl ?_
                    refine gf_iload C dd_Ou_fewestOthers_177 0 rfl ?_
                    refine gf_iload C dd_Ou_fewestOthers_179 7 rfl ?_
                    refine gf_callVi (st := []) (As := [.int (gf_i s), .int (gf_i k), .int (gf_i f), .int (gf_i x4)]) C wk_Ou_48 gf_cl0 hg (ct_Gd_follow (gf_xl X) E g s k f x4 m169 hg (hG169) (by omega) (by omega) (by omega)) rfl ⟨rfl, rfl, rfl, rfl⟩ (Nat.le_of_ble_eq_true rfl) rfl dd_Ou_fewestOthers_181 (fun r181 m181 hR181 hp181 => ?_)
                    have hr181 := hp181.1
                    refine gf_pm hp181.2 ?_
                    refine gf_istore (lv' := [(5, .int (gf_i r181)), (7, .int (gf_i f)), (6, .int (gf_i k)), (0, .ref (gf_ad E 59)), (1, .ref (gf_ad E g)), (2, .ref (gf_ad E 41)), (3, .int (gf_i c)), (4, .int (gf_i x4))]) C dd_Ou_fewestOthers_184 (by decide) rfl ?_
                    obtain ⟨x186, hx186⟩ : ∃ y : Int, y = k + 1 := ⟨_, rfl⟩
                    refine gf_iinc (q := 2) (v := x186) (lv' := [(6, .int (gf_i x186)), (5, .int (gf_i r181)), (7, .int (gf_i f)), (0, .ref (gf_ad E 59)), (1, .ref (gf_ad E g)), (2, .ref (gf_ad E 41)), (3, .int (gf_i c)), (4, .int (gf_i x4))]) C dd_Ou_fewestOthers_186 rfl hx186 (by decide) rfl ?_
                    refine gf_goto 111 C dd_Ou_fewestOthers_189 (by decide) ?_
                    refine gf_lsub [1, 0, 3, 4, 5, 6, 7] rfl ?_
                    exact ih111_2 r181 x186 m169 (by
                              have hpk : f = pf_pkN (μ g 0) (μ g 1) (μ g 2) (μ 41 1) c (μ 42) k s := hpick
                              have e1 : (k + 1).toNat = k.toNat + 1 := by omega
                              have eK : ((k.toNat : Nat) : Int) = k := by omega
                              have hfo := hr181.1
                              rw [hm169, gf_up_k (by omega), gf_up_k (by omega), gf_up_k (by omega), ef111 g 0 (by omega) (by omega), ef111 g 1 (by omega) (by omega), ef111 g 2 (by omega) (by omega), hx4] at hfo
                              refine ⟨by omega, by omega, ?_, ?_, fun j z h0 h1 h2 h3 => by rw [hm169, gf_up_k (by decide)]; exact htc j z h0 h1 h2 h3, fun x y h h2 => by rw [hm169, gf_up_o h2]; exact ef111 x y h h2⟩
                              · rw [hx186, e1]
                                show _ = pf_fol _ _ _ (pf_run _ _ _ _ _ k.toNat).1 ((k.toNat : Nat) : Int) (pf_pkN _ _ _ _ _ _ ((k.toNat : Nat) : Int) (pf_run _ _ _ _ _ k.toNat).1) _
                                rw [← hrs, eK, ← hpk]
                                exact hfo
                              · rw [hx186, e1, hm169, gf_up_s, hrl]
                                show _ = (pf_run _ _ _ _ _ k.toNat).2 * 10 + pf_pkN _ _ _ _ _ _ ((k.toNat : Nat) : Int) (pf_run _ _ _ _ _ k.toNat).1
                                rw [← hrs, eK, ← hpk]) (by omega)
                  · skip
                    refine gf_aload_n C dd_Ou_fewestOthers_128 3 rfl ?_
                    refine gf_aload_n C dd_Ou_fewestOthers_129 4 rfl ?_
                    refine gf_aload_n C dd_Ou_fewestOthers_130 5 rfl ?_
                    refine gf_iload C dd_Ou_fewestOthers_131 2 rfl ?_
                    refine gf_iload C dd_Ou_fewestOthers_133 1 rfl ?_
                    refine gf_iload C dd_Ou_fewestOthers_135 0 rfl ?_
                    refine gf_callVl (st := []) (As := [.ref (gf_ad E g), .ref (gf_ad E 41), .int (gf_i k), .int (gf_i s), .int (gf_i f)]) C wk_Ou_27 gf_cl1 (show gf_is 81 59 0 1 2 by decide) (ct_Ou_othersWith (gf_xl X) E g m hg hg58 hG111 k s f (by rw [e41c]; omega) (by omega) (by omega) hvc) rfl ⟨rfl, rfl, rfl, rfl⟩ (Nat.le_of_ble_eq_true rfl) rfl dd_Ou_fewestOthers_137 (fun r137 m137 hR137 hp137 => ?_)
                    have hr137 := hp137.1
                    refine gf_pm hp137.2 ?_
                    have hoe : r137 = pf_oth (μ g 0) (μ g 1) (μ g 2) (μ 41 1) (μ 42) k s f (VV (μ 41 1 - 1 - k).toNat) := by
                      rw [hr137.1, ef111 g 0 (by omega) (by omega), ef111 g 1 (by omega) (by omega), ef111 g 2 (by omega) (by omega), e41c]
                      refine pf_oth_congr (ef111 42 k (by decide) (by omega)) (fun z h0 h1 => ?_)
                      rw [htc (k + 1) z (by omega) (by omega) h0 h1]
                      congr 1
                      omega
                    refine gf_aload_n C dd_Ou_fewestOthers_140 3 rfl ?_
                    refine gf_iload C dd_Ou_fewestOthers_141 2 rfl ?_
                    refine gf_iload C dd_Ou_fewestOthers_143 1 rfl ?_
                    refine gf_callVl (st := [.long (gf_l r137)]) (As := [.int (gf_i k), .int (gf_i s)]) C wk_Ou_44 gf_cl1 (show gf_is 81 59 0 1 2 by decide) (ct_Ou_valueOf (gf_xl X) E k s m (by omega) (by omega)) rfl ⟨rfl, rfl, rfl, rfl⟩ (Nat.le_of_ble_eq_true rfl) rfl dd_Ou_fewestOthers_145 (fun r145 m145 hR145 hp145 => ?_)
                    have hr145 := hp145.1
                    refine gf_pm hp145.2 ?_
                    have hve : r145 = VV (μ 41 1 - k).toNat s := by rw [hr145, htc k s (by omega) (by omega) (by omega) (by omega)]
                    have hvr := hVR (μ 41 1 - k).toNat s (by omega) (by omega)
                    refine gf_lcmp C dd_Ou_fewestOthers_148 (by omega) (by omega) (fun c148 hc148a hc148b hc148c => ?_)
                    refine gf_if_eq 158 C dd_Ou_fewestOthers_149 (by decide) (by omega) (fun h149 => ?_) (fun h149 => ?_)
                    · skip
                      have hpick : f = pf_pkN (μ g 0) (μ g 1) (μ g 2) (μ 41 1) c (μ 42) k s := by
                        rw [hf2]
                        first
                        | (rw [show (9 - f).toNat = 0 by omega]; rfl)
                        | (rw [show (9 - f).toNat = (9 - (f + 1)).toNat + 1 by omega]
                           show _ = if decide _ = true then _ else _
                           rw [if_pos (by rw [decide_eq_true_eq, ← hoe, ← hve]; omega)])
                      refine gf_aload_n C dd_Ou_fewestOthers_158 3 rfl ?_
                      refine gf_aload_n C dd_Ou_fewestOthers_159 3 rfl ?_
                      refine gf_getI (z := 1) C gf_cl1 fl_Ou_41 dd_Ou_fewestOthers_160 rfl rfl (show gf_is 81 59 0 1 2 by decide) (fun hv160 => ?_)
                      refine gf_bipush C dd_Ou_fewestOthers_163 (by decide +kernel) ?_
                      refine gf_imul C dd_Ou_fewestOthers_165 ?_
                      refine gf_iload C dd_Ou_fewestOthers_166 0 rfl ?_
                      refine gf_iadd C dd_Ou_fewestOthers_168 ?_
                      refine gf_putI (z := 1) C gf_cl1 fl_Ou_41 dd_Ou_fewestOthers_169 rfl rfl rfl (by decide +kernel) (show gf_is 81 59 0 1 2 by decide) (by omega) ?_
                      refine gf_nmM (fun m169 hm169 => ?_)
                      have hG169 : gf_okG m169 g := by unfold gf_okG; rw [hm169, gf_up_k (by omega), gf_up_k (by omega), gf_up_k (by omega)]; exact hG111
                      refine gf_aload_n C dd_Ou_fewestOthers_172 4 rfl ?_
                      refine gf_iload C dd_Ou_fewestOthers_173 1 rfl ?_
                      refine gf_iload C dd_Ou_fewestOthers_175 2 rfl ?_
                      refine gf_iload C dd_Ou_fewestOthers_177 0 rfl ?_
                      refine gf_iload C dd_Ou_fewestOthers_179 7 rfl ?_
                      refine gf_callVi (st := []) (As := [.int (gf_i s), .int (gf_i k), .int (gf_i f), .int (gf_i x4)]) C wk_Ou_48 gf_cl0 hg (ct_Gd_follow (gf_xl X) E g s k f x4 m169 hg (hG169) (by omega) (by omega) (by omega)) rfl ⟨rfl, rfl, rfl, rfl⟩ (Nat.le_of_ble_eq_true rfl) rfl dd_Ou_fewestOthers_181 (fun r181 m181 hR181 hp181 => ?_)
                      have hr181 := hp181.1
                      refine gf_pm hp181.2 ?_
                      refine gf_istore (lv' := [(5, .int (gf_i r181)), (7, .int (gf_i f)), (6, .int (gf_i k)), (0, .ref (gf_ad E 59)), (1, .ref (gf_ad E g)), (2, .ref (gf_ad E 41)), (3, .int (gf_i c)), (4, .int (gf_i x4))]) C dd_Ou_fewestOthers_184 (by decide) rfl ?_
                      obtain ⟨x186, hx186⟩ : ∃ y : Int, y = k + 1 := ⟨_, rfl⟩
                      refine gf_iinc (q := 2) (v := x186) (lv' := [(6, .int (gf_i x186)), (5, .int (gf_i r181)), (7, .int (gf_i f)), (0, .ref (gf_ad E 59)), (1, .ref (gf_ad E g)), (2, .ref (gf_ad E 41)), (3, .int (gf_i c)), (4, .int (gf_i x4))]) C dd_Ou_fewestOthers_186 rfl hx186 (by decide) rfl ?_
                      refine gf_goto 111 C dd_Ou_fewestOthers_189 (by decide) ?_
                      refine gf_lsub [1, 0, 3, 4, 5, 6, 7] rfl ?_
                      exact ih111_2 r181 x186 m169 (by
                                have hpk : f = pf_pkN (μ g 0) (μ g 1) (μ g 2) (μ 41 1) c (μ 42) k s := hpick
                                have e1 : (k + 1).toNat = k.toNat + 1 := by omega
                                have eK : ((k.toNat : Nat) : Int) = k := by omega
                                have hfo := hr181.1
                                rw [hm169, gf_up_k (by omega), gf_up_k (by omega), gf_up_k (by omega), ef111 g 0 (by omega) (by omega), ef111 g 1 (by omega) (by omega), ef111 g 2 (by omega) (by omega), hx4] at hfo
                                refine ⟨by omega, by omega, ?_, ?_, fun j z h0 h1 h2 h3 => by rw [hm169, gf_up_k (by decide)]; exact htc j z h0 h1 h2 h3, fun x y h h2 => by rw [hm169, gf_up_o h2]; exact ef111 x y h h2⟩
                                · rw [hx186, e1]
                                  show _ = pf_fol _ _ _ (pf_run _ _ _ _ _ k.toNat).1 ((k.toNat : Nat) : Int) (pf_pkN _ _ _ _ _ _ ((k.toNat : Nat) : Int) (pf_run _ _ _ _ _ k.toNat).1) _
                                  rw [← hrs, eK, ← hpk]
                                  exact hfo
                                · rw [hx186, e1, hm169, gf_up_s, hrl]
                                  show _ = (pf_run _ _ _ _ _ k.toNat).2 * 10 + pf_pkN _ _ _ _ _ _ ((k.toNat : Nat) : Int) (pf_run _ _ _ _ _ k.toNat).1
                                  rw [← hrs, eK, ← hpk]) (by omega)
                    · skip
                      obtain ⟨x152, hx152⟩ : ∃ y : Int, y = f + 1 := ⟨_, rfl⟩
                      refine gf_iinc (q := 0) (v := x152) (lv' := [(7, .int (gf_i x152)), (5, .int (gf_i s)), (6, .int (gf_i k)), (0, .ref (gf_ad E 59)), (1, .ref (gf_ad E g)), (2, .ref (gf_ad E 41)), (3, .int (gf_i c)), (4, .int (gf_i x4))]) C dd_Ou_fewestOthers_152 rfl hx152 (by decide) rfl ?_
                      refine gf_goto 121 C dd_Ou_fewestOthers_155 (by decide) ?_
                      refine gf_lsub [0, 1, 2, 3, 4, 5, 6, 7] rfl ?_
                      exact ih121_3 x152 (by
                                  refine ⟨by omega, by omega, ?_⟩
                                  rw [hf2, hx152, show (9 - f).toNat = (9 - (f + 1)).toNat + 1 by omega]
                                  show (if decide _ = true then _ else _) = _
                                  rw [if_neg (by rw [decide_eq_true_eq, ← hoe, ← hve]; omega)]) (by omega)
              refine gf_lsub [0, 1, 2, 3, 4, 5, 6, 7] rfl ?_
              exact L121_3 _ 0 (⟨by omega, by omega, by rw [hVV]; rfl⟩) (Nat.lt_succ_self _)
        refine gf_lsub [1, 0, 2, 3, 4, 5, 6] rfl ?_
        exact L111_2 _ 0 0 m102 (⟨by omega, by omega, rfl, by rw [hm102]; exact gf_up_s, fun j z h0 h1 h2 h3 => by rw [hm102, gf_up_k (by decide)]; exact htb0 j z h0 h1 h2 h3, fun x y h h2 => by rw [hm102, gf_up_o h2]; exact hk3 x y h⟩) (Nat.lt_succ_self _)
      · skip
        refine gf_iconst C dd_Ou_fewestOthers_28 ?_
        refine gf_istore (lv' := [(6, .int (gf_i 0)), (5, .int (gf_i k)), (0, .ref (gf_ad E 59)), (1, .ref (gf_ad E g)), (2, .ref (gf_ad E 41)), (3, .int (gf_i c)), (4, .int (gf_i x4))]) C dd_Ou_fewestOthers_29 (by decide) rfl ?_
        have L31_4 : ∀ (N : Nat) (s : Int) (m' : gf_M) , (0 ≤ s ∧ s ≤ 11 ∧ gf_tb m' (μ 41 1) VV (k + 1) ∧ gf_tr m' (μ 41 1) VV k s ∧ ∀ x y : Int, x ≠ 60 → m' x y = μ x y) → (11 - s).toNat < N → gf_G X E Q 10 gf_φ m' 31 [(6, .int (gf_i s)), (0, .ref (gf_ad E 59)), (1, .ref (gf_ad E g)), (2, .ref (gf_ad E 41)), (3, .int (gf_i c)), (4, .int (gf_i x4)), (5, .int (gf_i k))] [] := by
          intro N
          induction N with
          | zero => intro s m' hinv hN; exact absurd hN (Nat.not_lt_zero _)
          | succ N ih31_4 =>
            intro s m' hinv hN
            have hinv0 := hinv
            obtain ⟨hs0, hs1, htb, htr, ef31⟩ := hinv
            have e41b : m' 41 1 = μ 41 1 := ef31 41 1 (by decide)
            have hG31 : gf_okG m' g := by unfold gf_okG; rw [ef31 g 0 (by omega), ef31 g 1 (by omega), ef31 g 2 (by omega)]; exact hG
            have hvb : ∀ z : Int, 0 ≤ z → z ≤ 10 → 0 ≤ m' 60 ((k + 1) * 11 + z) ∧ m' 60 ((k + 1) * 11 + z) ≤ 100 := fun z h0 h1 => by rw [htb (k + 1) z (by omega) (by omega) h0 h1]; exact hVR _ z h0 h1
            refine gf_iload C dd_Ou_fewestOthers_31 0 rfl ?_
            refine gf_bipush C dd_Ou_fewestOthers_33 (by decide +kernel) ?_
            refine gf_icmp_ge 94 C dd_Ou_fewestOthers_35 (by decide) (by omega) (by omega) (fun h35 => ?_) (fun h35 => ?_)
            · skip
              obtain ⟨x94, hx94⟩ : ∃ y : Int, y = k + (-1) := ⟨_, rfl⟩
              refine gf_iinc (q := 6) (v := x94) (lv' := [(5, .int (gf_i x94)), (6, .int (gf_i s)), (0, .ref (gf_ad E 59)), (1, .ref (gf_ad E g)), (2, .ref (gf_ad E 41)), (3, .int (gf_i c)), (4, .int (gf_i x4))]) C dd_Ou_fewestOthers_94 rfl hx94 (by decide) rfl ?_
              refine gf_goto 23 C dd_Ou_fewestOthers_97 (by decide) ?_
              refine gf_lsub [0, 2, 3, 4, 5, 6] rfl ?_
              exact ih23_1 x94 m' (⟨by omega, by omega, by rw [hx94, show k + -1 + 1 = k by omega]; exact gf_tb_row htb (by rw [show (11 : Int) = s by omega]; exact htr), ef31⟩) (by omega)
            · skip
              refine gf_ldc2 100 C dd_Ou_fewestOthers_38 ck_Ou_25 (by decide +kernel) ?_
              refine gf_lstore (lv' := [(7, .long (gf_l 100)), (6, .int (gf_i s)), (0, .ref (gf_ad E 59)), (1, .ref (gf_ad E g)), (2, .ref (gf_ad E 41)), (3, .int (gf_i c)), (4, .int (gf_i x4)), (5, .int (gf_i k))]) C dd_Ou_fewestOthers_41 (by decide) rfl ?_
              refine gf_iconst C dd_Ou_fewestOthers_43 ?_
              refine gf_istore (lv' := [(9, .int (gf_i 0)), (7, .long (gf_l 100)), (6, .int (gf_i s)), (0, .ref (gf_ad E 59)), (1, .ref (gf_ad E g)), (2, .ref (gf_ad E 41)), (3, .int (gf_i c)), (4, .int (gf_i x4)), (5, .int (gf_i k))]) C dd_Ou_fewestOthers_44 (by decide) rfl ?_
              have L46_5 : ∀ (N : Nat) (v f : Int) , (0 ≤ f ∧ f ≤ 10 ∧ v = pf_minf (fun f => pf_oth (μ g 0) (μ g 1) (μ g 2) (μ 41 1) (μ 42) k s f (VV (μ 41 1 - 1 - k).toNat)) f.toNat) → (10 - f).toNat < N → gf_G X E Q 10 gf_φ m' 46 [(7, .long (gf_l v)), (9, .int (gf_i f)), (6, .int (gf_i s)), (0, .ref (gf_ad E 59)), (1, .ref (gf_ad E g)), (2, .ref (gf_ad E 41)), (3, .int (gf_i c)), (4, .int (gf_i x4)), (5, .int (gf_i k))] [] := by
                intro N
                induction N with
                | zero => intro v f hinv hN; exact absurd hN (Nat.not_lt_zero _)
                | succ N ih46_5 =>
                  intro v f hinv hN
                  have hinv0 := hinv
                  obtain ⟨hf0, hf1, hv7⟩ := hinv
                  have hvR : 0 ≤ v ∧ v ≤ 100 := by
                    rw [hv7]
                    refine pf_minf_R _ (fun f h0 h1 => ?_)
                    have hz := pf_fol_R (μ g 0) (μ g 1) (μ g 2) s k f (μ 41 1)
                    have := hVR (μ 41 1 - 1 - k).toNat _ hz.1 hz.2
                    show 0 ≤ pf_oth _ _ _ _ _ _ _ _ _
                    unfold pf_oth
                    split <;> omega
                  refine gf_iload C dd_Ou_fewestOthers_46 1 rfl ?_
                  refine gf_bipush C dd_Ou_fewestOthers_48 (by decide +kernel) ?_
                  refine gf_icmp_ge 78 C dd_Ou_fewestOthers_50 (by decide) (by omega) (by omega) (fun h50 => ?_) (fun h50 => ?_)
                  · skip
                    refine gf_aload_n C dd_Ou_fewestOthers_78 3 rfl ?_
                    refine gf_iload C dd_Ou_fewestOthers_79 8 rfl ?_
                    refine gf_iload C dd_Ou_fewestOthers_81 2 rfl ?_
                    refine gf_lload C dd_Ou_fewestOthers_83 0 rfl ?_
                    refine gf_callVv (st := []) (As := [.int (gf_i k), .int (gf_i s), .long (gf_l v)]) C wk_Ou_37 gf_cl1 (show gf_is 81 59 0 1 2 by decide) (ct_Ou_keepValue (gf_xl X) E k s v m' (by omega) (by omega) (by omega)) rfl ⟨rfl, rfl, rfl, rfl⟩ (Nat.le_of_ble_eq_true rfl) rfl dd_Ou_fewestOthers_85 (fun m85 hp85 => ?_)
                    obtain ⟨x88, hx88⟩ : ∃ y : Int, y = s + 1 := ⟨_, rfl⟩
                    refine gf_iinc (q := 2) (v := x88) (lv' := [(6, .int (gf_i x88)), (7, .long (gf_l v)), (9, .int (gf_i f)), (0, .ref (gf_ad E 59)), (1, .ref (gf_ad E g)), (2, .ref (gf_ad E 41)), (3, .int (gf_i c)), (4, .int (gf_i x4)), (5, .int (gf_i k))]) C dd_Ou_fewestOthers_88 rfl hx88 (by decide) rfl ?_
                    refine gf_goto 31 C dd_Ou_fewestOthers_91 (by decide) ?_
                    refine gf_lsub [0, 3, 4, 5, 6, 7, 8] rfl ?_
                    exact ih31_4 x88 m85 (by
                                have hkp := gf_tb_keep (by omega) hp85 htb htr (by rw [hVS k s (by omega) (by omega), hv7, show f.toNat = 10 by omega])
                                exact ⟨by omega, by omega, hkp.1, by rw [hx88]; exact hkp.2, fun x y h => by rw [hp85, gf_up_k h]; exact ef31 x y h⟩) (by omega)
                  · skip
                    refine gf_lload C dd_Ou_fewestOthers_53 0 rfl ?_
                    refine gf_aload_n C dd_Ou_fewestOthers_55 3 rfl ?_
                    refine gf_aload_n C dd_Ou_fewestOthers_56 4 rfl ?_
                    refine gf_aload_n C dd_Ou_fewestOthers_57 5 rfl ?_
                    refine gf_iload C dd_Ou_fewestOthers_58 8 rfl ?_
                    refine gf_iload C dd_Ou_fewestOthers_60 2 rfl ?_
                    refine gf_iload C dd_Ou_fewestOthers_62 1 rfl ?_
                    refine gf_callVl (st := [.long (gf_l v)]) (As := [.ref (gf_ad E g), .ref (gf_ad E 41), .int (gf_i k), .int (gf_i s), .int (gf_i f)]) C wk_Ou_27 gf_cl1 (show gf_is 81 59 0 1 2 by decide) (ct_Ou_othersWith (gf_xl X) E g m' hg hg58 hG31 k s f (by rw [e41b]; omega) (by omega) (by omega) hvb) rfl ⟨rfl, rfl, rfl, rfl⟩ (Nat.le_of_ble_eq_true rfl) rfl dd_Ou_fewestOthers_64 (fun r64 m64 hR64 hp64 => ?_)
                    have hr64 := hp64.1
                    refine gf_pm hp64.2 ?_
                    have hoe : r64 = pf_oth (μ g 0) (μ g 1) (μ g 2) (μ 41 1) (μ 42) k s f (VV (μ 41 1 - 1 - k).toNat) := by
                      rw [hr64.1, ef31 g 0 (by omega), ef31 g 1 (by omega), ef31 g 2 (by omega), e41b]
                      refine pf_oth_congr (ef31 42 k (by decide)) (fun z h0 h1 => ?_)
                      rw [htb (k + 1) z (by omega) (by omega) h0 h1]
                      congr 1
                      omega
                    refine gf_mminl C (gf_mem 604 (by decide +kernel) (by decide +kernel)) dd_Ou_fewestOthers_67 (by omega) ⟨by decide, Nat.le_of_ble_eq_true rfl, rfl, rfl⟩ ?_
                    refine gf_nml (fun x70 hx70 => ?_)
                    refine gf_lstore (lv' := [(7, .long (gf_l x70)), (9, .int (gf_i f)), (6, .int (gf_i s)), (0, .ref (gf_ad E 59)), (1, .ref (gf_ad E g)), (2, .ref (gf_ad E 41)), (3, .int (gf_i c)), (4, .int (gf_i x4)), (5, .int (gf_i k))]) C dd_Ou_fewestOthers_70 (by decide) rfl ?_
                    obtain ⟨x72, hx72⟩ : ∃ y : Int, y = f + 1 := ⟨_, rfl⟩
                    refine gf_iinc (q := 1) (v := x72) (lv' := [(9, .int (gf_i x72)), (7, .long (gf_l x70)), (6, .int (gf_i s)), (0, .ref (gf_ad E 59)), (1, .ref (gf_ad E g)), (2, .ref (gf_ad E 41)), (3, .int (gf_i c)), (4, .int (gf_i x4)), (5, .int (gf_i k))]) C dd_Ou_fewestOthers_72 rfl hx72 (by decide) rfl ?_
                    refine gf_goto 46 C dd_Ou_fewestOthers_75 (by decide) ?_
                    refine gf_lsub [1, 0, 2, 3, 4, 5, 6, 7, 8] rfl ?_
                    exact ih46_5 x70 x72 (by
                                  refine ⟨by omega, by omega, ?_⟩
                                  rw [hx70, hx72, hv7, show (f + 1).toNat = f.toNat + 1 by omega, hoe]
                                  show _ = gf_min _ (pf_oth _ _ _ _ _ _ _ ((f.toNat : Nat) : Int) _)
                                  rw [show ((f.toNat : Nat) : Int) = f by omega]) (by omega)
              refine gf_lsub [1, 0, 2, 3, 4, 5, 6, 7, 8] rfl ?_
              exact L46_5 _ 100 0 (⟨by omega, by omega, rfl⟩) (Nat.lt_succ_self _)
        refine gf_lsub [0, 2, 3, 4, 5, 6, 1] rfl ?_
        exact L31_4 _ 0 m (⟨by omega, by omega, hk2, fun z h0 h1 => by omega, hk3⟩) (Nat.lt_succ_self _)
  refine gf_lsub [0, 2, 3, 4, 5, 1] rfl ?_
  exact L23_1 _ x21 m14 (⟨by omega, by omega, fun j z h0 h1 h2 h3 => by rw [show j = x4 by omega, hp14a z h2 h3, show (μ 41 1 - x4).toNat = 0 by omega, hVV, hx4]; rfl, hp14b⟩) (Nat.lt_succ_self _)
