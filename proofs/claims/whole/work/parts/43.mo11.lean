/-! the reference: who notices all -/
def gm_sa (μ m : gf_M) : Prop := m 65 15 = μ 71 1 ∧ (∀ i : Int, 0 ≤ i → i < μ 71 0 → m 77 i = gm_rk μ i (gm_x μ) (μ 71 1)) ∧ ∀ a b : Int, ¬ (a = 65 ∧ (b = 15 ∨ b = 21)) → a ≠ 73 → a ≠ 76 → a ≠ 77 → m a b = μ a b
theorem gm_sa_71 {μ m : gf_M} (h : gm_sa μ m) (b : Int) : m 71 b = μ 71 b := h.2.2 71 b (by omega) (by omega) (by omega) (by omega)
theorem gm_see {μ m : gf_M} {c : Int → Int} (h : gm_sa μ m) (hf : ∀ j : Int, 0 ≤ j → j < μ 71 1 → m 73 j = c j) : pf_set (fun i => decide (gm_rk m i (m 73) (m 65 15) ≠ m 77 i)) (m 71 0).toNat = gm_mk μ c := by
  have q := gm_sa_71 h
  unfold gm_mk
  rw [q 0, h.1]
  refine pf_set_congr _ (fun i h0 h1 => ?_)
  show decide (gm_rk m i (m 73) (μ 71 1) ≠ m 77 i) = decide (gm_rk μ i c (μ 71 1) ≠ gm_rk μ i (gm_x μ) (μ 71 1))
  rw [gm_rk_f q, h.2.1 i h0 (by omega), gm_rk_congr hf]
theorem gm_sa_f {μ m m' : gf_M} (h : gm_sa μ m) (h2 : ∀ a b : Int, ¬ (a = 65 ∧ b = 21) → a ≠ 76 → a ≠ 73 → m' a b = m a b) : gm_sa μ m' := by
  refine ⟨by rw [h2 65 15 (by omega) (by omega) (by omega)]; exact h.1, fun i h0 h1 => by rw [h2 77 i (by omega) (by omega) (by omega)]; exact h.2.1 i h0 h1, fun a b p1 p2 p3 p4 => ?_⟩
  rw [h2 a b (by omega) p3 p2]
  exact h.2.2 a b p1 p2 p3 p4
theorem gm_sa_g {μ m : gf_M} (h : gm_sa μ m) (hok : gm_ok μ) : (0 ≤ m 71 0 ∧ m 71 0 ≤ 7) ∧ (∀ i : Int, 0 ≤ i → i < m 71 0 → gm_okg m i) ∧ (0 ≤ m 65 15 ∧ m 65 15 ≤ 8) := by
  have q := gm_sa_71 h
  rw [q 0, h.1]
  exact ⟨hok.1, fun i h0 h1 => gm_okg_f (gm_ok_g hok ⟨h0, h1⟩) q, hok.2.2.1⟩
def gm_mS (μ : gf_M) (k : Int) : Int := gm_mk μ (pf_cps (gm_x μ) k)
def gm_mX (μ : gf_M) (o k : Int) : Int := gm_mk μ (pf_cpx (gm_x μ) k o)
def gm_LT (μ : gf_M) (o : Int) : List Int := (pf_sl (gm_x μ) (μ 71 1).toNat).map (gm_mS μ) ++ (if 2 ≤ o then (pf_ex (gm_x μ) 1 (μ 71 1 - 1).toNat).map (gm_mX μ 1) else []) ++ (if 3 ≤ o then (pf_ex (gm_x μ) 2 (μ 71 1 - 2).toNat).map (gm_mX μ 2) else [])
theorem gm_LT_1 (μ : gf_M) : gm_LT μ 1 = (pf_sl (gm_x μ) (μ 71 1).toNat).map (gm_mS μ) := by
  unfold gm_LT
  rw [if_neg (by decide), if_neg (by decide), List.append_nil, List.append_nil]
theorem gm_LT_2 (μ : gf_M) : gm_LT μ 2 = gm_LT μ 1 ++ (pf_ex (gm_x μ) 1 (μ 71 1 - 1).toNat).map (gm_mX μ 1) := by
  rw [gm_LT_1]
  unfold gm_LT
  rw [if_pos (by decide), if_neg (by decide), List.append_nil]
theorem gm_LT_3 (μ : gf_M) : gm_LT μ 3 = gm_LT μ 2 ++ (pf_ex (gm_x μ) 2 (μ 71 1 - 2).toNat).map (gm_mX μ 2) := by
  rw [gm_LT_2, gm_LT_1]
  unfold gm_LT
  rw [if_pos (by decide), if_pos (by decide)]
theorem gm_LT_T (μ : gf_M) : gm_LT μ 3 = (pf_T (gm_x μ) (μ 71 1)).map (fun q => gm_mk μ q.2) := by
  rw [gm_LT_3, gm_LT_2, gm_LT_1]
  unfold pf_T
  rw [List.map_append, List.map_append, List.map_map, List.map_map, List.map_map]
  rfl
theorem gm_LT_len {μ : gf_M} (hn : 0 ≤ μ 71 1 ∧ μ 71 1 ≤ 8) (hx : ∀ j : Int, 0 ≤ j → j < μ 71 1 → 0 ≤ μ 71 (24 + j) ∧ μ 71 (24 + j) ≤ 9) {o : Int} (ho : o = 1 ∨ o = 2) : ((gm_LT μ o).length : Int) ≤ 65 + 7 * o := by
  have h1 := pf_sl_len (f := gm_x μ) (μ 71 1).toNat (fun j h0 h1 => hx j h0 (by omega))
  have h2 := pf_ex_len (gm_x μ) 1 (μ 71 1 - 1).toNat
  rcases ho with rfl | rfl
  · rw [gm_LT_1, List.length_map]; omega
  · rw [gm_LT_2, gm_LT_1, List.length_append, List.length_map, List.length_map]; omega
theorem gm_mk_R (μ : gf_M) (hc : 0 ≤ μ 71 0 ∧ μ 71 0 ≤ 7) (c : Int → Int) : 0 ≤ gm_mk μ c ∧ gm_mk μ c ≤ 128 := by
  have h := pf_set_R (fun i => decide (gm_rk μ i c (μ 71 1) ≠ gm_rk μ i (gm_x μ) (μ 71 1))) (μ 71 0).toNat
  have h2 : (2 : Int) ^ (μ 71 0).toNat ≤ 128 := (show ∀ n : Nat, n < 8 → (2 : Int) ^ n ≤ 128 by decide) _ (by omega)
  unfold gm_mk
  omega
theorem dd_Mo_seeAll_0 : decode cc_Mo_seeAll 0 = .ok (.aload_n 0, 1) := by decide +kernel
theorem dd_Mo_seeAll_1 : decode cc_Mo_seeAll 1 = .ok (.invokevirtual 149, 3) := by decide +kernel
theorem dd_Mo_seeAll_4 : decode cc_Mo_seeAll 4 = .ok (.aload_n 0, 1) := by decide +kernel
theorem dd_Mo_seeAll_5 : decode cc_Mo_seeAll 5 = .ok (.iconst 0, 1) := by decide +kernel
theorem dd_Mo_seeAll_6 : decode cc_Mo_seeAll 6 = .ok (.putfield 215, 3) := by decide +kernel
theorem dd_Mo_seeAll_9 : decode cc_Mo_seeAll 9 = .ok (.iconst 0, 1) := by decide +kernel
theorem dd_Mo_seeAll_10 : decode cc_Mo_seeAll 10 = .ok (.istore_n 1, 1) := by decide +kernel
theorem dd_Mo_seeAll_11 : decode cc_Mo_seeAll 11 = .ok (.iload_n 1, 1) := by decide +kernel
theorem dd_Mo_seeAll_12 : decode cc_Mo_seeAll 12 = .ok (.aload_n 0, 1) := by decide +kernel
theorem dd_Mo_seeAll_13 : decode cc_Mo_seeAll 13 = .ok (.getfield 30, 3) := by decide +kernel
theorem dd_Mo_seeAll_16 : decode cc_Mo_seeAll 16 = .ok (.iconst 0, 1) := by decide +kernel
theorem dd_Mo_seeAll_17 : decode cc_Mo_seeAll 17 = .ok (.iaload, 1) := by decide +kernel
theorem dd_Mo_seeAll_18 : decode cc_Mo_seeAll 18 = .ok (.if_icmp .ge 28, 3) := by decide +kernel
theorem dd_Mo_seeAll_21 : decode cc_Mo_seeAll 21 = .ok (.aload_n 0, 1) := by decide +kernel
theorem dd_Mo_seeAll_22 : decode cc_Mo_seeAll 22 = .ok (.getfield 48, 3) := by decide +kernel
theorem dd_Mo_seeAll_25 : decode cc_Mo_seeAll 25 = .ok (.iload_n 1, 1) := by decide +kernel
theorem dd_Mo_seeAll_26 : decode cc_Mo_seeAll 26 = .ok (.aload_n 0, 1) := by decide +kernel
theorem dd_Mo_seeAll_27 : decode cc_Mo_seeAll 27 = .ok (.iload_n 1, 1) := by decide +kernel
theorem dd_Mo_seeAll_28 : decode cc_Mo_seeAll 28 = .ok (.aload_n 0, 1) := by decide +kernel
theorem dd_Mo_seeAll_29 : decode cc_Mo_seeAll 29 = .ok (.getfield 36, 3) := by decide +kernel
theorem dd_Mo_seeAll_32 : decode cc_Mo_seeAll 32 = .ok (.aload_n 0, 1) := by decide +kernel
theorem dd_Mo_seeAll_33 : decode cc_Mo_seeAll 33 = .ok (.getfield 146, 3) := by decide +kernel
theorem dd_Mo_seeAll_36 : decode cc_Mo_seeAll 36 = .ok (.invokevirtual 152, 3) := by decide +kernel
theorem dd_Mo_seeAll_39 : decode cc_Mo_seeAll 39 = .ok (.iastore, 1) := by decide +kernel
theorem dd_Mo_seeAll_40 : decode cc_Mo_seeAll 40 = .ok (.iinc 1 1, 3) := by decide +kernel
theorem dd_Mo_seeAll_43 : decode cc_Mo_seeAll 43 = .ok (.goto (-32), 3) := by decide +kernel
theorem dd_Mo_seeAll_46 : decode cc_Mo_seeAll 46 = .ok (.iconst 0, 1) := by decide +kernel
theorem dd_Mo_seeAll_47 : decode cc_Mo_seeAll 47 = .ok (.istore_n 1, 1) := by decide +kernel
theorem dd_Mo_seeAll_48 : decode cc_Mo_seeAll 48 = .ok (.iload_n 1, 1) := by decide +kernel
theorem dd_Mo_seeAll_49 : decode cc_Mo_seeAll 49 = .ok (.aload_n 0, 1) := by decide +kernel
theorem dd_Mo_seeAll_50 : decode cc_Mo_seeAll 50 = .ok (.getfield 146, 3) := by decide +kernel
theorem dd_Mo_seeAll_53 : decode cc_Mo_seeAll 53 = .ok (.if_icmp .ge 53, 3) := by decide +kernel
theorem dd_Mo_seeAll_56 : decode cc_Mo_seeAll 56 = .ok (.aload_n 0, 1) := by decide +kernel
theorem dd_Mo_seeAll_57 : decode cc_Mo_seeAll 57 = .ok (.getfield 36, 3) := by decide +kernel
theorem dd_Mo_seeAll_60 : decode cc_Mo_seeAll 60 = .ok (.iload_n 1, 1) := by decide +kernel
theorem dd_Mo_seeAll_61 : decode cc_Mo_seeAll 61 = .ok (.iaload, 1) := by decide +kernel
theorem dd_Mo_seeAll_62 : decode cc_Mo_seeAll 62 = .ok (.istore_n 2, 1) := by decide +kernel
theorem dd_Mo_seeAll_63 : decode cc_Mo_seeAll 63 = .ok (.iconst 0, 1) := by decide +kernel
theorem dd_Mo_seeAll_64 : decode cc_Mo_seeAll 64 = .ok (.istore_n 3, 1) := by decide +kernel
theorem dd_Mo_seeAll_65 : decode cc_Mo_seeAll 65 = .ok (.iload_n 3, 1) := by decide +kernel
theorem dd_Mo_seeAll_66 : decode cc_Mo_seeAll 66 = .ok (.bipush 10, 2) := by decide +kernel
theorem dd_Mo_seeAll_68 : decode cc_Mo_seeAll 68 = .ok (.if_icmp .ge 25, 3) := by decide +kernel
theorem dd_Mo_seeAll_71 : decode cc_Mo_seeAll 71 = .ok (.aload_n 0, 1) := by decide +kernel
theorem dd_Mo_seeAll_72 : decode cc_Mo_seeAll 72 = .ok (.getfield 36, 3) := by decide +kernel
theorem dd_Mo_seeAll_75 : decode cc_Mo_seeAll 75 = .ok (.iload_n 1, 1) := by decide +kernel
theorem dd_Mo_seeAll_76 : decode cc_Mo_seeAll 76 = .ok (.iload_n 3, 1) := by decide +kernel
theorem dd_Mo_seeAll_77 : decode cc_Mo_seeAll 77 = .ok (.iastore, 1) := by decide +kernel
theorem dd_Mo_seeAll_78 : decode cc_Mo_seeAll 78 = .ok (.iload_n 3, 1) := by decide +kernel
theorem dd_Mo_seeAll_79 : decode cc_Mo_seeAll 79 = .ok (.iload_n 2, 1) := by decide +kernel
theorem dd_Mo_seeAll_80 : decode cc_Mo_seeAll 80 = .ok (.if_icmp .eq 7, 3) := by decide +kernel
theorem dd_Mo_seeAll_83 : decode cc_Mo_seeAll 83 = .ok (.aload_n 0, 1) := by decide +kernel
theorem dd_Mo_seeAll_84 : decode cc_Mo_seeAll 84 = .ok (.invokevirtual 218, 3) := by decide +kernel
theorem dd_Mo_seeAll_87 : decode cc_Mo_seeAll 87 = .ok (.iinc 3 1, 3) := by decide +kernel
theorem dd_Mo_seeAll_90 : decode cc_Mo_seeAll 90 = .ok (.goto (-25), 3) := by decide +kernel
theorem dd_Mo_seeAll_93 : decode cc_Mo_seeAll 93 = .ok (.aload_n 0, 1) := by decide +kernel
theorem dd_Mo_seeAll_94 : decode cc_Mo_seeAll 94 = .ok (.getfield 36, 3) := by decide +kernel
theorem dd_Mo_seeAll_97 : decode cc_Mo_seeAll 97 = .ok (.iload_n 1, 1) := by decide +kernel
theorem dd_Mo_seeAll_98 : decode cc_Mo_seeAll 98 = .ok (.iload_n 2, 1) := by decide +kernel
theorem dd_Mo_seeAll_99 : decode cc_Mo_seeAll 99 = .ok (.iastore, 1) := by decide +kernel
theorem dd_Mo_seeAll_100 : decode cc_Mo_seeAll 100 = .ok (.iinc 1 1, 3) := by decide +kernel
theorem dd_Mo_seeAll_103 : decode cc_Mo_seeAll 103 = .ok (.goto (-55), 3) := by decide +kernel
theorem dd_Mo_seeAll_106 : decode cc_Mo_seeAll 106 = .ok (.iconst 1, 1) := by decide +kernel
theorem dd_Mo_seeAll_107 : decode cc_Mo_seeAll 107 = .ok (.istore_n 1, 1) := by decide +kernel
theorem dd_Mo_seeAll_108 : decode cc_Mo_seeAll 108 = .ok (.iload_n 1, 1) := by decide +kernel
theorem dd_Mo_seeAll_109 : decode cc_Mo_seeAll 109 = .ok (.iconst 3, 1) := by decide +kernel
theorem dd_Mo_seeAll_110 : decode cc_Mo_seeAll 110 = .ok (.if_icmp .ge 64, 3) := by decide +kernel
theorem dd_Mo_seeAll_113 : decode cc_Mo_seeAll 113 = .ok (.iconst 0, 1) := by decide +kernel
theorem dd_Mo_seeAll_114 : decode cc_Mo_seeAll 114 = .ok (.istore_n 2, 1) := by decide +kernel
theorem dd_Mo_seeAll_115 : decode cc_Mo_seeAll 115 = .ok (.iload_n 2, 1) := by decide +kernel
theorem dd_Mo_seeAll_116 : decode cc_Mo_seeAll 116 = .ok (.iload_n 1, 1) := by decide +kernel
theorem dd_Mo_seeAll_117 : decode cc_Mo_seeAll 117 = .ok (.iadd, 1) := by decide +kernel
theorem dd_Mo_seeAll_118 : decode cc_Mo_seeAll 118 = .ok (.aload_n 0, 1) := by decide +kernel
theorem dd_Mo_seeAll_119 : decode cc_Mo_seeAll 119 = .ok (.getfield 146, 3) := by decide +kernel
theorem dd_Mo_seeAll_122 : decode cc_Mo_seeAll 122 = .ok (.if_icmp .ge 46, 3) := by decide +kernel
theorem dd_Mo_seeAll_125 : decode cc_Mo_seeAll 125 = .ok (.aload_n 0, 1) := by decide +kernel
theorem dd_Mo_seeAll_126 : decode cc_Mo_seeAll 126 = .ok (.getfield 36, 3) := by decide +kernel
theorem dd_Mo_seeAll_129 : decode cc_Mo_seeAll 129 = .ok (.iload_n 2, 1) := by decide +kernel
theorem dd_Mo_seeAll_130 : decode cc_Mo_seeAll 130 = .ok (.iaload, 1) := by decide +kernel
theorem dd_Mo_seeAll_131 : decode cc_Mo_seeAll 131 = .ok (.aload_n 0, 1) := by decide +kernel
theorem dd_Mo_seeAll_132 : decode cc_Mo_seeAll 132 = .ok (.getfield 36, 3) := by decide +kernel
theorem dd_Mo_seeAll_135 : decode cc_Mo_seeAll 135 = .ok (.iload_n 2, 1) := by decide +kernel
theorem dd_Mo_seeAll_136 : decode cc_Mo_seeAll 136 = .ok (.iload_n 1, 1) := by decide +kernel
theorem dd_Mo_seeAll_137 : decode cc_Mo_seeAll 137 = .ok (.iadd, 1) := by decide +kernel
theorem dd_Mo_seeAll_138 : decode cc_Mo_seeAll 138 = .ok (.iaload, 1) := by decide +kernel
theorem dd_Mo_seeAll_139 : decode cc_Mo_seeAll 139 = .ok (.if_icmp .eq 23, 3) := by decide +kernel
theorem dd_Mo_seeAll_142 : decode cc_Mo_seeAll 142 = .ok (.aload_n 0, 1) := by decide +kernel
theorem dd_Mo_seeAll_143 : decode cc_Mo_seeAll 143 = .ok (.iload_n 2, 1) := by decide +kernel
theorem dd_Mo_seeAll_144 : decode cc_Mo_seeAll 144 = .ok (.iload_n 2, 1) := by decide +kernel
theorem dd_Mo_seeAll_145 : decode cc_Mo_seeAll 145 = .ok (.iload_n 1, 1) := by decide +kernel
theorem dd_Mo_seeAll_146 : decode cc_Mo_seeAll 146 = .ok (.iadd, 1) := by decide +kernel
theorem dd_Mo_seeAll_147 : decode cc_Mo_seeAll 147 = .ok (.invokevirtual 169, 3) := by decide +kernel
theorem dd_Mo_seeAll_150 : decode cc_Mo_seeAll 150 = .ok (.aload_n 0, 1) := by decide +kernel
theorem dd_Mo_seeAll_151 : decode cc_Mo_seeAll 151 = .ok (.invokevirtual 218, 3) := by decide +kernel
theorem dd_Mo_seeAll_154 : decode cc_Mo_seeAll 154 = .ok (.aload_n 0, 1) := by decide +kernel
theorem dd_Mo_seeAll_155 : decode cc_Mo_seeAll 155 = .ok (.iload_n 2, 1) := by decide +kernel
theorem dd_Mo_seeAll_156 : decode cc_Mo_seeAll 156 = .ok (.iload_n 2, 1) := by decide +kernel
theorem dd_Mo_seeAll_157 : decode cc_Mo_seeAll 157 = .ok (.iload_n 1, 1) := by decide +kernel
theorem dd_Mo_seeAll_158 : decode cc_Mo_seeAll 158 = .ok (.iadd, 1) := by decide +kernel
theorem dd_Mo_seeAll_159 : decode cc_Mo_seeAll 159 = .ok (.invokevirtual 169, 3) := by decide +kernel
theorem dd_Mo_seeAll_162 : decode cc_Mo_seeAll 162 = .ok (.iinc 2 1, 3) := by decide +kernel
theorem dd_Mo_seeAll_165 : decode cc_Mo_seeAll 165 = .ok (.goto (-50), 3) := by decide +kernel
theorem dd_Mo_seeAll_168 : decode cc_Mo_seeAll 168 = .ok (.iinc 1 1, 3) := by decide +kernel
theorem dd_Mo_seeAll_171 : decode cc_Mo_seeAll 171 = .ok (.goto (-63), 3) := by decide +kernel
theorem dd_Mo_seeAll_174 : decode cc_Mo_seeAll 174 = .ok (.return_, 1) := by decide +kernel
set_option maxRecDepth 100000 in
set_option maxHeartbeats 4000000 in
theorem ct_Mo_seeAll (l : Launch) (E : gf_E) (μ : gf_M) (hok : gm_ok μ)  : gf_Mv l E yy_Mo_seeAll cc_Mo_seeAll 4 (gf_rm 5 122) 81 gf_ref 0 0 81 gf_ref μ [.ref (gf_ad E 65)] (fun μ' => gm_sn μ' ((pf_T (gm_x μ) (μ 71 1)).map (fun q => gm_mk μ q.2)) ∧ gm_sa μ μ') := by
  refine gf_mv (by decide +kernel) (Nat.le_of_ble_eq_true rfl) (by decide) (fun X Q hlx C hname hQ => ?_)
  subst hlx
  replace C : gf_C X E cc_Mo_seeAll 4 "GuardFiguresModel" (gf_rm 5 122) := C
  show gf_G X E Q 4 gf_φ μ 0 [(0, .ref (gf_ad E 65))] []
  obtain ⟨hc, hgs, hn, hx, hd⟩ := id hok
  refine gf_aload_n C dd_Mo_seeAll_0 0 rfl ?_
  refine gf_callVv (st := []) (As := []) C wk_Mo_149 gf_cl7 (show gf_is 81 65 0 7 26 by decide) (ct_Mo_write (gf_xl X) E μ (by omega)) rfl ⟨rfl, rfl, rfl, rfl⟩ (Nat.le_of_ble_eq_true rfl) rfl dd_Mo_seeAll_1 (fun m1 hp1 => ?_)
  obtain ⟨hw15, hw73, hwf⟩ := hp1
  refine gf_aload_n C dd_Mo_seeAll_4 0 rfl ?_
  refine gf_iconst C dd_Mo_seeAll_5 ?_
  refine gf_putI (z := 21) C gf_cl7 fl_Mo_215 dd_Mo_seeAll_6 rfl rfl rfl (by decide +kernel) (show gf_is 81 65 0 7 26 by decide) (by omega) ?_
  refine gf_nmM (fun m6 hm6 => ?_)
  refine gf_iconst C dd_Mo_seeAll_9 ?_
  refine gf_istore_n (lv' := [(1, .int (gf_i 0)), (0, .ref (gf_ad E 65))]) C dd_Mo_seeAll_10 (by decide) rfl ?_
  have L11_1 : ∀ (N : Nat) (i : Int) (m : gf_M) , (0 ≤ i ∧ i ≤ μ 71 0 ∧ m 65 15 = μ 71 1 ∧ m 65 21 = 0 ∧ (∀ j : Int, 0 ≤ j → j < 8 → m 73 j = μ 71 (24 + j)) ∧ (∀ j : Int, 0 ≤ j → j < i → m 77 j = gm_rk μ j (gm_x μ) (μ 71 1)) ∧ ∀ a b : Int, ¬ (a = 65 ∧ (b = 15 ∨ b = 21)) → a ≠ 73 → a ≠ 77 → m a b = μ a b) → (7 - i).toNat < N → gf_G X E Q 4 gf_φ m 11 [(1, .int (gf_i i)), (0, .ref (gf_ad E 65))] [] := by
    intro N
    induction N with
    | zero => intro i m hinv hN; exact absurd hN (Nat.not_lt_zero _)
    | succ N ih11_1 =>
      intro i m hinv hN
      have hinv0 := hinv
      obtain ⟨hi0, hi1, hi15, hi21, hi73, hi77, hif⟩ := hinv
      have q71 : ∀ b : Int, m 71 b = μ 71 b := fun b => hif 71 b (by omega) (by omega) (by omega)
      have q0 := q71 0
      refine gf_iload_n C dd_Mo_seeAll_11 0 rfl ?_
      refine gf_aload_n C dd_Mo_seeAll_12 1 rfl ?_
      refine gf_getA (r := 71) C gf_cl7 fl_Mo_30 dd_Mo_seeAll_13 rfl (show gf_is 81 65 0 7 26 by decide) (by decide) (by decide) ?_
      refine gf_iconst C dd_Mo_seeAll_16 ?_
      refine gf_iald C dd_Mo_seeAll_17 (show gf_is 81 71 1 0 392 by decide) (by omega) (fun hv17 => ?_)
      refine gf_icmp_ge 46 C dd_Mo_seeAll_18 (by decide) (by omega) (by omega) (fun h18 => ?_) (fun h18 => ?_)
      · skip
        refine gf_iconst C dd_Mo_seeAll_46 ?_
        refine gf_istore_n (lv' := [(1, .int (gf_i 0)), (0, .ref (gf_ad E 65))]) C dd_Mo_seeAll_47 (by decide) rfl ?_
        have L48_2 : ∀ (N : Nat) (k : Int) (m : gf_M) , (0 ≤ k ∧ k ≤ μ 71 1 ∧ gm_sa μ m ∧ (∀ j : Int, 0 ≤ j → j < 8 → m 73 j = μ 71 (24 + j)) ∧ gm_sn m ((pf_sl (gm_x μ) k.toNat).map (gm_mS μ))) → (8 - k).toNat < N → gf_G X E Q 4 gf_φ m 48 [(1, .int (gf_i k)), (0, .ref (gf_ad E 65))] [] := by
          intro N
          induction N with
          | zero => intro k m hinv hN; exact absurd hN (Nat.not_lt_zero _)
          | succ N ih48_2 =>
            intro k m hinv hN
            have hinv0 := hinv
            obtain ⟨hk0, hk1, hka, hk73, hku⟩ := hinv
            have hk15 := hka.1
            refine gf_iload_n C dd_Mo_seeAll_48 0 rfl ?_
            refine gf_aload_n C dd_Mo_seeAll_49 1 rfl ?_
            refine gf_getI (z := 15) C gf_cl7 fl_Mo_146 dd_Mo_seeAll_50 rfl rfl (show gf_is 81 65 0 7 26 by decide) (fun hv50 => ?_)
            refine gf_icmp_ge 106 C dd_Mo_seeAll_53 (by decide) (by omega) (by omega) (fun h53 => ?_) (fun h53 => ?_)
            · skip
              refine gf_iconst C dd_Mo_seeAll_106 ?_
              refine gf_istore_n (lv' := [(1, .int (gf_i 1)), (0, .ref (gf_ad E 65))]) C dd_Mo_seeAll_107 (by decide) rfl ?_
              have L108_3 : ∀ (N : Nat) (o : Int) (m : gf_M) , (1 ≤ o ∧ o ≤ 3 ∧ gm_sa μ m ∧ (∀ j : Int, 0 ≤ j → j < 8 → m 73 j = μ 71 (24 + j)) ∧ gm_sn m (gm_LT μ o)) → (3 - o).toNat < N → gf_G X E Q 4 gf_φ m 108 [(1, .int (gf_i o)), (0, .ref (gf_ad E 65))] [] := by
                intro N
                induction N with
                | zero => intro o m hinv hN; exact absurd hN (Nat.not_lt_zero _)
                | succ N ih108_3 =>
                  intro o m hinv hN
                  have hinv0 := hinv
                  obtain ⟨ho0, ho1, hoa, ho73, hou⟩ := hinv
                  refine gf_iload_n C dd_Mo_seeAll_108 0 rfl ?_
                  refine gf_iconst C dd_Mo_seeAll_109 ?_
                  refine gf_icmp_ge 174 C dd_Mo_seeAll_110 (by decide) (by omega) (by omega) (fun h110 => ?_) (fun h110 => ?_)
                  · skip
                    refine gf_vret C hQ dd_Mo_seeAll_174 ?_
                    rw [show o = 3 by omega, gm_LT_T] at hou
                    exact ⟨hou, hoa⟩
                  · skip
                    refine gf_iconst C dd_Mo_seeAll_113 ?_
                    refine gf_istore_n (lv' := [(2, .int (gf_i 0)), (1, .int (gf_i o)), (0, .ref (gf_ad E 65))]) C dd_Mo_seeAll_114 (by decide) rfl ?_
                    have L115_4 : ∀ (N : Nat) (k : Int) (m3 : gf_M) , (0 ≤ k ∧ (k = 0 ∨ k + o ≤ μ 71 1) ∧ gm_sa μ m3 ∧ (∀ j : Int, 0 ≤ j → j < 8 → m3 73 j = μ 71 (24 + j)) ∧ gm_sn m3 (gm_LT μ o ++ (pf_ex (gm_x μ) o k.toNat).map (gm_mX μ o))) → (8 - k).toNat < N → gf_G X E Q 4 gf_φ m3 115 [(2, .int (gf_i k)), (0, .ref (gf_ad E 65)), (1, .int (gf_i o))] [] := by
                      intro N
                      induction N with
                      | zero => intro k m3 hinv hN; exact absurd hN (Nat.not_lt_zero _)
                      | succ N ih115_4 =>
                        intro k m3 hinv hN
                        have hinv0 := hinv
                        obtain ⟨hk0, hk1, hka, hk73, hku⟩ := hinv
                        have hk15 := hka.1
                        refine gf_iload_n C dd_Mo_seeAll_115 0 rfl ?_
                        refine gf_iload_n C dd_Mo_seeAll_116 2 rfl ?_
                        refine gf_iadd C dd_Mo_seeAll_117 ?_
                        refine gf_aload_n C dd_Mo_seeAll_118 1 rfl ?_
                        refine gf_getI (z := 15) C gf_cl7 fl_Mo_146 dd_Mo_seeAll_119 rfl rfl (show gf_is 81 65 0 7 26 by decide) (fun hv119 => ?_)
                        refine gf_icmp_ge 168 C dd_Mo_seeAll_122 (by decide) (by omega) (by omega) (fun h122 => ?_) (fun h122 => ?_)
                        · skip
                          obtain ⟨x168, hx168⟩ : ∃ y : Int, y = o + 1 := ⟨_, rfl⟩
                          refine gf_iinc (q := 2) (v := x168) (lv' := [(1, .int (gf_i x168)), (2, .int (gf_i k)), (0, .ref (gf_ad E 65))]) C dd_Mo_seeAll_168 rfl hx168 (by decide) rfl ?_
                          refine gf_goto 108 C dd_Mo_seeAll_171 (by decide) ?_
                          refine gf_lsub [0, 2] rfl ?_
                          exact ih108_3 x168 m3 (by
                                  refine ⟨by omega, by omega, hka, hk73, ?_⟩
                                  rw [show k.toNat = (μ 71 1 - o).toNat by omega] at hku
                                  rcases (show o = 1 ∨ o = 2 by omega) with h | h
                                  · rw [h] at hku; rw [show x168 = 2 by omega, gm_LT_2]; exact hku
                                  · rw [h] at hku; rw [show x168 = 3 by omega, gm_LT_3]; exact hku) (by omega)
                        · skip
                          refine gf_aload_n C dd_Mo_seeAll_125 1 rfl ?_
                          refine gf_getA (r := 73) C gf_cl7 fl_Mo_36 dd_Mo_seeAll_126 rfl (show gf_is 81 65 0 7 26 by decide) (by decide) (by decide) ?_
                          refine gf_iload_n C dd_Mo_seeAll_129 0 rfl ?_
                          refine gf_iald C dd_Mo_seeAll_130 (show gf_is 81 73 1 0 8 by decide) (by omega) (fun hv130 => ?_)
                          refine gf_aload_n C dd_Mo_seeAll_131 1 rfl ?_
                          refine gf_getA (r := 73) C gf_cl7 fl_Mo_36 dd_Mo_seeAll_132 rfl (show gf_is 81 65 0 7 26 by decide) (by decide) (by decide) ?_
                          refine gf_iload_n C dd_Mo_seeAll_135 0 rfl ?_
                          refine gf_iload_n C dd_Mo_seeAll_136 2 rfl ?_
                          refine gf_iadd C dd_Mo_seeAll_137 ?_
                          refine gf_iald C dd_Mo_seeAll_138 (show gf_is 81 73 1 0 8 by decide) (by omega) (fun hv138 => ?_)
                          refine gf_icmp_eq 162 C dd_Mo_seeAll_139 (by decide) (by omega) (by omega) (fun h139 => ?_) (fun h139 => ?_)
                          · skip
                            obtain ⟨x162, hx162⟩ : ∃ y : Int, y = k + 1 := ⟨_, rfl⟩
                            refine gf_iinc (q := 0) (v := x162) (lv' := [(2, .int (gf_i x162)), (0, .ref (gf_ad E 65)), (1, .int (gf_i o))]) C dd_Mo_seeAll_162 rfl hx162 (by decide) rfl ?_
                            refine gf_goto 115 C dd_Mo_seeAll_165 (by decide) ?_
                            refine gf_lsub [0, 1, 2] rfl ?_
                            exact ih115_4 x162 m3 (by
                                    have e1 : x162.toNat = k.toNat + 1 := by omega
                                    have e2 : pf_ex (gm_x μ) o (k.toNat + 1) = pf_ex (gm_x μ) o k.toNat ++ (if m3 73 k = m3 73 (k + o) then [] else [k]) := by
                                      show _ ++ (if gm_x μ ((k.toNat : Nat) : Int) = gm_x μ (((k.toNat : Nat) : Int) + o) then [] else [((k.toNat : Nat) : Int)]) = _
                                      rw [show ((k.toNat : Nat) : Int) = k by omega, hk73 k (by omega) (by omega), hk73 (k + o) (by omega) (by omega)]
                                      rfl
                                    first
                                    | (refine ⟨by omega, by omega, hka, hk73, ?_⟩
                                       rw [e1, e2, if_pos h139, List.append_nil]
                                       exact hku)
                                    | (obtain ⟨hua, hub⟩ := hp151
                                       have o159 : ∀ a b : Int, a ≠ 73 → m159 a b = m151 a b := fun a b h => by rw [hp159, gf_up_k h, gf_up_k h]
                                       refine ⟨by omega, by omega, gm_sa_f a147 (fun a b h1 h2 h3 => by rw [o159 a b h3]; exact hub a b h1 h2), fun j h0 h1 => ?_, gm_sn_f ?_ (o159 65 21 (by decide)) (fun b => o159 76 b (by decide))⟩
                                       · rw [hp159]
                                         by_cases ej : j = k + o
                                         · rw [ej, gf_up_s, hub 73 k (by omega) (by omega), hp147, gf_up_j (by omega), gf_up_s]
                                           exact hk73 (k + o) (by omega) (by omega)
                                         · rw [gf_up_j ej]
                                           by_cases ek : j = k
                                           · rw [ek, gf_up_s, hub 73 (k + o) (by omega) (by omega), hp147, gf_up_s]
                                             exact hk73 k (by omega) (by omega)
                                           · rw [gf_up_j ek, hub 73 j (by omega) (by omega), hp147, gf_up_j ej, gf_up_j ek]
                                             exact hk73 j h0 h1
                                       · rw [e1, e2, if_neg h139, List.map_append, ← List.append_assoc]
                                         rw [hmk] at hua
                                         exact hua)) (by omega)
                          · skip
                            refine gf_aload_n C dd_Mo_seeAll_142 1 rfl ?_
                            refine gf_iload_n C dd_Mo_seeAll_143 0 rfl ?_
                            refine gf_iload_n C dd_Mo_seeAll_144 0 rfl ?_
                            refine gf_iload_n C dd_Mo_seeAll_145 2 rfl ?_
                            refine gf_iadd C dd_Mo_seeAll_146 ?_
                            refine gf_callVv (st := []) (As := [.int (gf_i k), .int (gf_i (k + o))]) C wk_Mo_169 gf_cl7 (show gf_is 81 65 0 7 26 by decide) (ct_Mo_exchange (gf_xl X) E k (k + o) m3 (by omega) (by omega)) rfl ⟨rfl, rfl, rfl, rfl⟩ (Nat.le_of_ble_eq_true rfl) rfl dd_Mo_seeAll_147 (fun m147 hp147 => ?_)
                            have o147 : ∀ a b : Int, a ≠ 73 → m147 a b = m3 a b := fun a b h => by rw [hp147, gf_up_k h, gf_up_k h]
                            have f147 : ∀ j : Int, 0 ≤ j → j < 8 → m147 73 j = pf_cpx (gm_x μ) k o j := fun j h0 h1 => by
                              unfold pf_cpx
                              rw [hp147]
                              by_cases e1 : j = k + o
                              · rw [if_pos e1, e1, gf_up_s]; exact hk73 k (by omega) (by omega)
                              · rw [gf_up_j e1, if_neg e1]
                                by_cases e2 : j = k
                                · rw [if_pos e2, e2, gf_up_s]; exact hk73 (k + o) (by omega) (by omega)
                                · rw [gf_up_j e2, if_neg e2]; exact hk73 j h0 h1
                            have a147 : gm_sa μ m147 := gm_sa_f hka (fun a b _ _ h => o147 a b h)
                            have u147 : gm_sn m147 (gm_LT μ o ++ (pf_ex (gm_x μ) o k.toNat).map (gm_mX μ o)) := gm_sn_f hku (o147 65 21 (by decide)) (fun b => o147 76 b (by decide))
                            have hl1 := pf_ex_len (gm_x μ) o k.toNat
                            have hl2 := gm_LT_len hn hx (o := o) (by omega)
                            have hl3 : (gm_LT μ o ++ (pf_ex (gm_x μ) o k.toNat).map (gm_mX μ o)).length < 85 := by
                              rw [List.length_append, List.length_map]
                              omega
                            have hgg := gm_sa_g a147 hok
                            have hF147 : ∀ j : Int, 0 ≤ j → j < m147 65 15 → 0 ≤ m147 73 j ∧ m147 73 j ≤ 9 := fun j h0 h1 => by
                              rw [a147.1] at h1
                              rw [f147 j h0 (by omega)]
                              unfold pf_cpx
                              split
                              · exact hx k (by omega) (by omega)
                              · split
                                · exact hx (k + o) (by omega) (by omega)
                                · exact hx j h0 (by omega)
                            have hmk : pf_set (fun i => decide (gm_rk m147 i (m147 73) (m147 65 15) ≠ m147 77 i)) (m147 71 0).toNat = gm_mX μ o k := gm_see a147 (fun j h0 h1 => f147 j h0 (by omega))
                            refine gf_aload_n C dd_Mo_seeAll_150 1 rfl ?_
                            refine gf_callVv (st := []) (As := []) C wk_Mo_218 gf_cl7 (show gf_is 81 65 0 7 26 by decide) (ct_Mo_seeThing (gf_xl X) E _ m147 hgg.1 hgg.2.1 hgg.2.2 hF147 u147 hl3) rfl ⟨rfl, rfl, rfl, rfl⟩ (Nat.le_of_ble_eq_true rfl) rfl dd_Mo_seeAll_151 (fun m151 hp151 => ?_)
                            refine gf_aload_n C dd_Mo_seeAll_154 1 rfl ?_
                            refine gf_iload_n C dd_Mo_seeAll_155 0 rfl ?_
                            refine gf_iload_n C dd_Mo_seeAll_156 0 rfl ?_
                            refine gf_iload_n C dd_Mo_seeAll_157 2 rfl ?_
                            refine gf_iadd C dd_Mo_seeAll_158 ?_
                            refine gf_callVv (st := []) (As := [.int (gf_i k), .int (gf_i (k + o))]) C wk_Mo_169 gf_cl7 (show gf_is 81 65 0 7 26 by decide) (ct_Mo_exchange (gf_xl X) E k (k + o) m151 (by omega) (by omega)) rfl ⟨rfl, rfl, rfl, rfl⟩ (Nat.le_of_ble_eq_true rfl) rfl dd_Mo_seeAll_159 (fun m159 hp159 => ?_)
                            obtain ⟨x162, hx162⟩ : ∃ y : Int, y = k + 1 := ⟨_, rfl⟩
                            refine gf_iinc (q := 0) (v := x162) (lv' := [(2, .int (gf_i x162)), (0, .ref (gf_ad E 65)), (1, .int (gf_i o))]) C dd_Mo_seeAll_162 rfl hx162 (by decide) rfl ?_
                            refine gf_goto 115 C dd_Mo_seeAll_165 (by decide) ?_
                            refine gf_lsub [0, 1, 2] rfl ?_
                            exact ih115_4 x162 m159 (by
                                    have e1 : x162.toNat = k.toNat + 1 := by omega
                                    have e2 : pf_ex (gm_x μ) o (k.toNat + 1) = pf_ex (gm_x μ) o k.toNat ++ (if m3 73 k = m3 73 (k + o) then [] else [k]) := by
                                      show _ ++ (if gm_x μ ((k.toNat : Nat) : Int) = gm_x μ (((k.toNat : Nat) : Int) + o) then [] else [((k.toNat : Nat) : Int)]) = _
                                      rw [show ((k.toNat : Nat) : Int) = k by omega, hk73 k (by omega) (by omega), hk73 (k + o) (by omega) (by omega)]
                                      rfl
                                    first
                                    | (refine ⟨by omega, by omega, hka, hk73, ?_⟩
                                       rw [e1, e2, if_pos h139, List.append_nil]
                                       exact hku)
                                    | (obtain ⟨hua, hub⟩ := hp151
                                       have o159 : ∀ a b : Int, a ≠ 73 → m159 a b = m151 a b := fun a b h => by rw [hp159, gf_up_k h, gf_up_k h]
                                       refine ⟨by omega, by omega, gm_sa_f a147 (fun a b h1 h2 h3 => by rw [o159 a b h3]; exact hub a b h1 h2), fun j h0 h1 => ?_, gm_sn_f ?_ (o159 65 21 (by decide)) (fun b => o159 76 b (by decide))⟩
                                       · rw [hp159]
                                         by_cases ej : j = k + o
                                         · rw [ej, gf_up_s, hub 73 k (by omega) (by omega), hp147, gf_up_j (by omega), gf_up_s]
                                           exact hk73 (k + o) (by omega) (by omega)
                                         · rw [gf_up_j ej]
                                           by_cases ek : j = k
                                           · rw [ek, gf_up_s, hub 73 (k + o) (by omega) (by omega), hp147, gf_up_s]
                                             exact hk73 k (by omega) (by omega)
                                           · rw [gf_up_j ek, hub 73 j (by omega) (by omega), hp147, gf_up_j ej, gf_up_j ek]
                                             exact hk73 j h0 h1
                                       · rw [e1, e2, if_neg h139, List.map_append, ← List.append_assoc]
                                         rw [hmk] at hua
                                         exact hua)) (by omega)
                    refine gf_lsub [0, 2, 1] rfl ?_
                    exact L115_4 _ 0 m (⟨by omega, by omega, hoa, ho73, by rw [show pf_ex (gm_x μ) o (0 : Int).toNat = [] from rfl, List.map_nil, List.append_nil]; exact hou⟩) (Nat.lt_succ_self _)
              refine gf_lsub [0, 1] rfl ?_
              exact L108_3 _ 1 m (⟨by omega, by omega, hka, hk73, by rw [gm_LT_1, ← show k = μ 71 1 by omega]; exact hku⟩) (Nat.lt_succ_self _)
            · skip
              refine gf_aload_n C dd_Mo_seeAll_56 1 rfl ?_
              refine gf_getA (r := 73) C gf_cl7 fl_Mo_36 dd_Mo_seeAll_57 rfl (show gf_is 81 65 0 7 26 by decide) (by decide) (by decide) ?_
              refine gf_iload_n C dd_Mo_seeAll_60 0 rfl ?_
              refine gf_iald C dd_Mo_seeAll_61 (show gf_is 81 73 1 0 8 by decide) (by omega) (fun hv61 => ?_)
              refine gf_nm (fun x62 hx62 => ?_)
              refine gf_istore_n (lv' := [(2, .int (gf_i x62)), (1, .int (gf_i k)), (0, .ref (gf_ad E 65))]) C dd_Mo_seeAll_62 (by decide) rfl ?_
              refine gf_iconst C dd_Mo_seeAll_63 ?_
              refine gf_istore_n (lv' := [(3, .int (gf_i 0)), (2, .int (gf_i x62)), (1, .int (gf_i k)), (0, .ref (gf_ad E 65))]) C dd_Mo_seeAll_64 (by decide) rfl ?_
              have L65_5 : ∀ (N : Nat) (v : Int) (m3 : gf_M) , (0 ≤ v ∧ v ≤ 10 ∧ gm_sa μ m3 ∧ (∀ j : Int, 0 ≤ j → j < 8 → j ≠ k → m3 73 j = μ 71 (24 + j)) ∧ gm_sn m3 ((pf_sl (gm_x μ) k.toNat ++ pf_slr x62 k v.toNat).map (gm_mS μ))) → (10 - v).toNat < N → gf_G X E Q 4 gf_φ m3 65 [(3, .int (gf_i v)), (0, .ref (gf_ad E 65)), (1, .int (gf_i k)), (2, .int (gf_i x62))] [] := by
                intro N
                induction N with
                | zero => intro v m3 hinv hN; exact absurd hN (Nat.not_lt_zero _)
                | succ N ih65_5 =>
                  intro v m3 hinv hN
                  have hinv0 := hinv
                  obtain ⟨hv0, hv1, hva, hv3, hvu⟩ := hinv
                  refine gf_iload_n C dd_Mo_seeAll_65 0 rfl ?_
                  refine gf_bipush C dd_Mo_seeAll_66 (by decide +kernel) ?_
                  refine gf_icmp_ge 93 C dd_Mo_seeAll_68 (by decide) (by omega) (by omega) (fun h68 => ?_) (fun h68 => ?_)
                  · skip
                    refine gf_aload_n C dd_Mo_seeAll_93 1 rfl ?_
                    refine gf_getA (r := 73) C gf_cl7 fl_Mo_36 dd_Mo_seeAll_94 rfl (show gf_is 81 65 0 7 26 by decide) (by decide) (by decide) ?_
                    refine gf_iload_n C dd_Mo_seeAll_97 2 rfl ?_
                    refine gf_iload_n C dd_Mo_seeAll_98 3 rfl ?_
                    refine gf_iast C dd_Mo_seeAll_99 (show gf_is 81 73 1 0 8 by decide) (by omega) (by omega) ?_
                    refine gf_nmM (fun m99 hm99 => ?_)
                    obtain ⟨x100, hx100⟩ : ∃ y : Int, y = k + 1 := ⟨_, rfl⟩
                    refine gf_iinc (q := 2) (v := x100) (lv' := [(1, .int (gf_i x100)), (3, .int (gf_i v)), (0, .ref (gf_ad E 65)), (2, .int (gf_i x62))]) C dd_Mo_seeAll_100 rfl hx100 (by decide) rfl ?_
                    refine gf_goto 48 C dd_Mo_seeAll_103 (by decide) ?_
                    refine gf_lsub [0, 2] rfl ?_
                    exact ih48_2 x100 m99 (by
                            have o99 : ∀ a b : Int, a ≠ 73 → m99 a b = m3 a b := fun a b h => by rw [hm99]; exact gf_up_k h
                            refine ⟨by omega, by omega, gm_sa_f hva (fun a b _ _ h => o99 a b h), fun j h0 h1 => ?_, gm_sn_f ?_ (o99 65 21 (by decide)) (fun b => o99 76 b (by decide))⟩
                            · rw [hm99]
                              by_cases e : j = k
                              · rw [e, gf_up_s, hx62]; exact hk73 k (by omega) (by omega)
                              · rw [gf_up_j e]; exact hv3 j h0 h1 e
                            · rw [show x100.toNat = k.toNat + 1 by omega]
                              show gm_sn m3 ((pf_sl (gm_x μ) k.toNat ++ pf_slr (gm_x μ ((k.toNat : Nat) : Int)) ((k.toNat : Nat) : Int) 10).map (gm_mS μ))
                              rw [show ((k.toNat : Nat) : Int) = k by omega, show gm_x μ k = x62 by rw [hx62, hk73 k (by omega) (by omega)]; rfl, ← show v.toNat = 10 by omega]
                              exact hvu) (by omega)
                  · skip
                    refine gf_aload_n C dd_Mo_seeAll_71 1 rfl ?_
                    refine gf_getA (r := 73) C gf_cl7 fl_Mo_36 dd_Mo_seeAll_72 rfl (show gf_is 81 65 0 7 26 by decide) (by decide) (by decide) ?_
                    refine gf_iload_n C dd_Mo_seeAll_75 2 rfl ?_
                    refine gf_iload_n C dd_Mo_seeAll_76 0 rfl ?_
                    refine gf_iast C dd_Mo_seeAll_77 (show gf_is 81 73 1 0 8 by decide) (by omega) (by omega) ?_
                    refine gf_nmM (fun m77 hm77 => ?_)
                    have f77 : m77 73 k = v := by rw [hm77]; exact gf_up_s
                    have g77 : ∀ j : Int, 0 ≤ j → j < 8 → j ≠ k → m77 73 j = μ 71 (24 + j) := fun j h0 h1 h2 => by rw [hm77, gf_up_j h2]; exact hv3 j h0 h1 h2
                    have o77 : ∀ a b : Int, a ≠ 73 → m77 a b = m3 a b := fun a b h => by rw [hm77]; exact gf_up_k h
                    have a77 : gm_sa μ m77 := gm_sa_f hva (fun a b _ _ h => o77 a b h)
                    have u77 : gm_sn m77 ((pf_sl (gm_x μ) k.toNat ++ pf_slr x62 k v.toNat).map (gm_mS μ)) := gm_sn_f hvu (o77 65 21 (by decide)) (fun b => o77 76 b (by decide))
                    refine gf_iload_n C dd_Mo_seeAll_78 0 rfl ?_
                    refine gf_iload_n C dd_Mo_seeAll_79 3 rfl ?_
                    refine gf_icmp_eq 87 C dd_Mo_seeAll_80 (by decide) (by omega) (by omega) (fun h80 => ?_) (fun h80 => ?_)
                    · skip
                      obtain ⟨x87, hx87⟩ : ∃ y : Int, y = v + 1 := ⟨_, rfl⟩
                      refine gf_iinc (q := 0) (v := x87) (lv' := [(3, .int (gf_i x87)), (0, .ref (gf_ad E 65)), (1, .int (gf_i k)), (2, .int (gf_i x62))]) C dd_Mo_seeAll_87 rfl hx87 (by decide) rfl ?_
                      refine gf_goto 65 C dd_Mo_seeAll_90 (by decide) ?_
                      refine gf_lsub [0, 1, 2, 3] rfl ?_
                      exact ih65_5 x87 m77 (by
                              have e1 : x87.toNat = v.toNat + 1 := by omega
                              have e2 : pf_slr x62 k (v.toNat + 1) = pf_slr x62 k v.toNat ++ (if v = x62 then [] else [k * 10 + v]) := by
                                show _ ++ (if ((v.toNat : Nat) : Int) = x62 then [] else [k * 10 + ((v.toNat : Nat) : Int)]) = _
                                rw [show ((v.toNat : Nat) : Int) = v by omega]
                              first
                              | (refine ⟨by omega, by omega, a77, g77, ?_⟩
                                 rw [e1, e2, if_pos h80, List.append_nil]
                                 exact u77)
                              | (obtain ⟨hua, hub⟩ := hp84
                                 refine ⟨by omega, by omega, gm_sa_f a77 (fun a b h1 h2 _ => hub a b h1 h2), fun j h0 h1 h2 => by rw [hub 73 j (by omega) (by omega)]; exact g77 j h0 h1 h2, ?_⟩
                                 rw [e1, e2, if_neg h80, ← List.append_assoc, List.map_append]
                                 rw [hmk] at hua
                                 exact hua)) (by omega)
                    · skip
                      have hl1 := pf_sl_len (f := gm_x μ) k.toNat (fun j h0 h1 => hx j h0 (by omega))
                      have hl2 := (pf_slr_len x62 k v.toNat).1
                      have hl3 : ((pf_sl (gm_x μ) k.toNat ++ pf_slr x62 k v.toNat).map (gm_mS μ)).length < 85 := by
                        rw [List.length_map, List.length_append]
                        omega
                      have hgg := gm_sa_g a77 hok
                      have hF77 : ∀ j : Int, 0 ≤ j → j < m77 65 15 → 0 ≤ m77 73 j ∧ m77 73 j ≤ 9 := fun j h0 h1 => by
                        rw [a77.1] at h1
                        by_cases e : j = k
                        · rw [e, f77]; omega
                        · rw [g77 j h0 (by omega) e]; exact hx j h0 (by omega)
                      have hmk : pf_set (fun i => decide (gm_rk m77 i (m77 73) (m77 65 15) ≠ m77 77 i)) (m77 71 0).toNat = gm_mS μ (k * 10 + v) := by
                        refine gm_see a77 (fun j h0 h1 => ?_)
                        unfold pf_cps
                        rw [show (k * 10 + v) / 10 = k by omega, show (k * 10 + v) % 10 = v by omega]
                        by_cases e : j = k
                        · rw [if_pos e, e, f77]
                        · rw [if_neg e, g77 j h0 (by omega) e]; rfl
                      refine gf_aload_n C dd_Mo_seeAll_83 1 rfl ?_
                      refine gf_callVv (st := []) (As := []) C wk_Mo_218 gf_cl7 (show gf_is 81 65 0 7 26 by decide) (ct_Mo_seeThing (gf_xl X) E _ m77 hgg.1 hgg.2.1 hgg.2.2 hF77 u77 hl3) rfl ⟨rfl, rfl, rfl, rfl⟩ (Nat.le_of_ble_eq_true rfl) rfl dd_Mo_seeAll_84 (fun m84 hp84 => ?_)
                      obtain ⟨x87, hx87⟩ : ∃ y : Int, y = v + 1 := ⟨_, rfl⟩
                      refine gf_iinc (q := 0) (v := x87) (lv' := [(3, .int (gf_i x87)), (0, .ref (gf_ad E 65)), (1, .int (gf_i k)), (2, .int (gf_i x62))]) C dd_Mo_seeAll_87 rfl hx87 (by decide) rfl ?_
                      refine gf_goto 65 C dd_Mo_seeAll_90 (by decide) ?_
                      refine gf_lsub [0, 1, 2, 3] rfl ?_
                      exact ih65_5 x87 m84 (by
                              have e1 : x87.toNat = v.toNat + 1 := by omega
                              have e2 : pf_slr x62 k (v.toNat + 1) = pf_slr x62 k v.toNat ++ (if v = x62 then [] else [k * 10 + v]) := by
                                show _ ++ (if ((v.toNat : Nat) : Int) = x62 then [] else [k * 10 + ((v.toNat : Nat) : Int)]) = _
                                rw [show ((v.toNat : Nat) : Int) = v by omega]
                              first
                              | (refine ⟨by omega, by omega, a77, g77, ?_⟩
                                 rw [e1, e2, if_pos h80, List.append_nil]
                                 exact u77)
                              | (obtain ⟨hua, hub⟩ := hp84
                                 refine ⟨by omega, by omega, gm_sa_f a77 (fun a b h1 h2 _ => hub a b h1 h2), fun j h0 h1 h2 => by rw [hub 73 j (by omega) (by omega)]; exact g77 j h0 h1 h2, ?_⟩
                                 rw [e1, e2, if_neg h80, ← List.append_assoc, List.map_append]
                                 rw [hmk] at hua
                                 exact hua)) (by omega)
              refine gf_lsub [0, 3, 2, 1] rfl ?_
              exact L65_5 _ 0 m (⟨by omega, by omega, hka, fun j h0 h1 _ => hk73 j h0 h1, by rw [show pf_slr x62 k (0 : Int).toNat = [] from rfl, List.append_nil]; exact hku⟩) (Nat.lt_succ_self _)
        refine gf_lsub [0, 1] rfl ?_
        exact L48_2 _ 0 m (⟨by omega, by omega, ⟨hi15, fun j h0 h1 => hi77 j h0 (by omega), fun a b h1 h2 h3 h4 => hif a b h1 h2 h4⟩, hi73, ⟨hi21, fun t x h => by simp [pf_sl] at h⟩⟩) (Nat.lt_succ_self _)
      · skip
        refine gf_aload_n C dd_Mo_seeAll_21 1 rfl ?_
        refine gf_getA (r := 77) C gf_cl7 fl_Mo_48 dd_Mo_seeAll_22 rfl (show gf_is 81 65 0 7 26 by decide) (by decide) (by decide) ?_
        refine gf_iload_n C dd_Mo_seeAll_25 0 rfl ?_
        refine gf_aload_n C dd_Mo_seeAll_26 1 rfl ?_
        refine gf_iload_n C dd_Mo_seeAll_27 0 rfl ?_
        refine gf_aload_n C dd_Mo_seeAll_28 1 rfl ?_
        refine gf_getA (r := 73) C gf_cl7 fl_Mo_36 dd_Mo_seeAll_29 rfl (show gf_is 81 65 0 7 26 by decide) (by decide) (by decide) ?_
        refine gf_aload_n C dd_Mo_seeAll_32 1 rfl ?_
        refine gf_getI (z := 15) C gf_cl7 fl_Mo_146 dd_Mo_seeAll_33 rfl rfl (show gf_is 81 65 0 7 26 by decide) (fun hv33 => ?_)
        refine gf_callVi (st := [.int (gf_i i), .ref (gf_ad E 77)]) (As := [.int (gf_i i), .ref (gf_ad E 73), .int (gf_i (m 65 15))]) C wk_Mo_152 gf_cl7 (show gf_is 81 65 0 7 26 by decide) (ct_Mo_byGuard (gf_xl X) E i 73 (m 65 15) 8 m (gm_okg_f (gm_ok_g hok (by omega)) q71) (show gf_is 81 73 1 0 8 by decide) (by omega) (by rw [hi15]; intro j h0 h1; rw [hi73 j h0 (by omega)]; exact hx j h0 h1)) rfl ⟨rfl, rfl, rfl, rfl⟩ (Nat.le_of_ble_eq_true rfl) rfl dd_Mo_seeAll_36 (fun r36 m36 hR36 hp36 => ?_)
        have hr36 := hp36.1
        refine gf_pm hp36.2 ?_
        refine gf_iast C dd_Mo_seeAll_39 (show gf_is 81 77 1 0 7 by decide) (by omega) (by omega) ?_
        refine gf_nmM (fun m39 hm39 => ?_)
        obtain ⟨x40, hx40⟩ : ∃ y : Int, y = i + 1 := ⟨_, rfl⟩
        refine gf_iinc (q := 0) (v := x40) (lv' := [(1, .int (gf_i x40)), (0, .ref (gf_ad E 65))]) C dd_Mo_seeAll_40 rfl hx40 (by decide) rfl ?_
        refine gf_goto 11 C dd_Mo_seeAll_43 (by decide) ?_
        refine gf_lsub [0, 1] rfl ?_
        exact ih11_1 x40 m39 (by
                refine ⟨by omega, by omega, by rw [hm39, gf_up_k (by decide)]; exact hi15, by rw [hm39, gf_up_k (by decide)]; exact hi21, fun j h0 h1 => by rw [hm39, gf_up_k (by decide)]; exact hi73 j h0 h1, fun j h0 h1 => ?_, fun a b h1 h2 h3 => by rw [hm39, gf_up_k h3]; exact hif a b h1 h2 h3⟩
                rw [hm39]
                by_cases e : j = i
                · rw [e, gf_up_s, hr36.1, gm_rk_f q71, hi15]
                  exact gm_rk_congr (fun j h0 h1 => hi73 j h0 (by omega))
                · rw [gf_up_j e]; exact hi77 j h0 (by omega)) (by omega)
  refine gf_lsub [0, 1] rfl ?_
  exact L11_1 _ 0 m6 (⟨by omega, by omega, by rw [hm6, gf_up_j (by decide)]; exact hw15, by rw [hm6]; exact gf_up_s, fun j h0 h1 => by rw [hm6, gf_up_k (by decide)]; exact hw73 j h0 h1, fun j h0 h1 => by omega, fun a b h1 h2 h3 => by rw [hm6, gf_up_o (by omega)]; exact hwf a b (by omega) h2⟩) (Nat.lt_succ_self _)
