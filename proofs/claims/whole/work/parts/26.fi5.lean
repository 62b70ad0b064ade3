/-- count() -/
noncomputable def pf_cn (μ : gf_M) (w : Int) : Int :=
  if w = 0 then μ 0 3 else if w = 1 then μ 41 1 else if w = 2 then μ 41 2 else if w = 3 then pf_num (μ 42) (μ 41 1).toNat
  else if w = 4 then pf_sumf (fun j => pf_reck (μ (24 + j) 0) (μ (24 + j) 1) (μ (24 + j) 2) (μ 42) (μ 41 1)) (μ 0 3).toNat
  else if w = 5 then pf_set (fun j => (pf_unS μ j.toNat).isEmpty) (μ 0 3).toNat
  else if w = 6 then pf_cnt (fun j => decide (μ (2 + 2 * j) 1 ≠ -1)) 6
  else if w = 7 then pf_cnt (fun j => decide (μ (15 + 2 * j) 1 ≠ -1)) 4
  else if w = 8 then pf_cnt (fun j => decide (μ (32 + 3 * j) 4 ≠ 0)) 3
  else if w = 9 then pf_cnt (fun j => @decide (pf_is (μ (24 + j) 0) 1) (Classical.propDecidable _)) (μ 0 3).toNat
  else pf_cnt (fun j => @decide (pf_is (μ (24 + j) 0) 2) (Classical.propDecidable _)) (μ 0 3).toNat
theorem dd_Fi_greatestPart_0 : decode cc_Fi_greatestPart 0 = .ok (.iconst 0, 1) := by decide +kernel
theorem dd_Fi_greatestPart_1 : decode cc_Fi_greatestPart 1 = .ok (.istore 4, 2) := by decide +kernel
theorem dd_Fi_greatestPart_3 : decode cc_Fi_greatestPart 3 = .ok (.iconst 0, 1) := by decide +kernel
theorem dd_Fi_greatestPart_4 : decode cc_Fi_greatestPart 4 = .ok (.istore 5, 2) := by decide +kernel
theorem dd_Fi_greatestPart_6 : decode cc_Fi_greatestPart 6 = .ok (.iload 5, 2) := by decide +kernel
theorem dd_Fi_greatestPart_8 : decode cc_Fi_greatestPart 8 = .ok (.bipush 10, 2) := by decide +kernel
theorem dd_Fi_greatestPart_10 : decode cc_Fi_greatestPart 10 = .ok (.if_icmp .gt 17, 3) := by decide +kernel
theorem dd_Fi_greatestPart_13 : decode cc_Fi_greatestPart 13 = .ok (.aload_n 0, 1) := by decide +kernel
theorem dd_Fi_greatestPart_14 : decode cc_Fi_greatestPart 14 = .ok (.getfield 68, 3) := by decide +kernel
theorem dd_Fi_greatestPart_17 : decode cc_Fi_greatestPart 17 = .ok (.iload 5, 2) := by decide +kernel
theorem dd_Fi_greatestPart_19 : decode cc_Fi_greatestPart 19 = .ok (.iconst 0, 1) := by decide +kernel
theorem dd_Fi_greatestPart_20 : decode cc_Fi_greatestPart 20 = .ok (.iastore, 1) := by decide +kernel
theorem dd_Fi_greatestPart_21 : decode cc_Fi_greatestPart 21 = .ok (.iinc 5 1, 3) := by decide +kernel
theorem dd_Fi_greatestPart_24 : decode cc_Fi_greatestPart 24 = .ok (.goto (-18), 3) := by decide +kernel
theorem dd_Fi_greatestPart_27 : decode cc_Fi_greatestPart 27 = .ok (.aload_n 0, 1) := by decide +kernel
theorem dd_Fi_greatestPart_28 : decode cc_Fi_greatestPart 28 = .ok (.getfield 60, 3) := by decide +kernel
theorem dd_Fi_greatestPart_31 : decode cc_Fi_greatestPart 31 = .ok (.aload_n 1, 1) := by decide +kernel
theorem dd_Fi_greatestPart_32 : decode cc_Fi_greatestPart 32 = .ok (.invokevirtual 133, 3) := by decide +kernel
theorem dd_Fi_greatestPart_35 : decode cc_Fi_greatestPart 35 = .ok (.iconst 0, 1) := by decide +kernel
theorem dd_Fi_greatestPart_36 : decode cc_Fi_greatestPart 36 = .ok (.istore 5, 2) := by decide +kernel
theorem dd_Fi_greatestPart_38 : decode cc_Fi_greatestPart 38 = .ok (.iload 5, 2) := by decide +kernel
theorem dd_Fi_greatestPart_40 : decode cc_Fi_greatestPart 40 = .ok (.bipush 6, 2) := by decide +kernel
theorem dd_Fi_greatestPart_42 : decode cc_Fi_greatestPart 42 = .ok (.if_icmp .ge 72, 3) := by decide +kernel
theorem dd_Fi_greatestPart_45 : decode cc_Fi_greatestPart 45 = .ok (.aload_n 0, 1) := by decide +kernel
theorem dd_Fi_greatestPart_46 : decode cc_Fi_greatestPart 46 = .ok (.getfield 60, 3) := by decide +kernel
theorem dd_Fi_greatestPart_49 : decode cc_Fi_greatestPart 49 = .ok (.iload 5, 2) := by decide +kernel
theorem dd_Fi_greatestPart_51 : decode cc_Fi_greatestPart 51 = .ok (.putfield 156, 3) := by decide +kernel
theorem dd_Fi_greatestPart_54 : decode cc_Fi_greatestPart 54 = .ok (.aload_n 0, 1) := by decide +kernel
theorem dd_Fi_greatestPart_55 : decode cc_Fi_greatestPart 55 = .ok (.aload_n 0, 1) := by decide +kernel
theorem dd_Fi_greatestPart_56 : decode cc_Fi_greatestPart 56 = .ok (.getfield 60, 3) := by decide +kernel
theorem dd_Fi_greatestPart_59 : decode cc_Fi_greatestPart 59 = .ok (.iload_n 3, 1) := by decide +kernel
theorem dd_Fi_greatestPart_60 : decode cc_Fi_greatestPart 60 = .ok (.invokevirtual 222, 3) := by decide +kernel
theorem dd_Fi_greatestPart_63 : decode cc_Fi_greatestPart 63 = .ok (.istore 6, 2) := by decide +kernel
theorem dd_Fi_greatestPart_65 : decode cc_Fi_greatestPart 65 = .ok (.iload_n 2, 1) := by decide +kernel
theorem dd_Fi_greatestPart_66 : decode cc_Fi_greatestPart 66 = .ok (.iload 5, 2) := by decide +kernel
theorem dd_Fi_greatestPart_68 : decode cc_Fi_greatestPart 68 = .ok (.ishr, 1) := by decide +kernel
theorem dd_Fi_greatestPart_69 : decode cc_Fi_greatestPart 69 = .ok (.iconst 1, 1) := by decide +kernel
theorem dd_Fi_greatestPart_70 : decode cc_Fi_greatestPart 70 = .ok (.iand, 1) := by decide +kernel
theorem dd_Fi_greatestPart_71 : decode cc_Fi_greatestPart 71 = .ok (.iconst 1, 1) := by decide +kernel
theorem dd_Fi_greatestPart_72 : decode cc_Fi_greatestPart 72 = .ok (.if_icmp .ne 36, 3) := by decide +kernel
theorem dd_Fi_greatestPart_75 : decode cc_Fi_greatestPart 75 = .ok (.iload 6, 2) := by decide +kernel
theorem dd_Fi_greatestPart_77 : decode cc_Fi_greatestPart 77 = .ok (.invokestatic 219, 3) := by decide +kernel
theorem dd_Fi_greatestPart_80 : decode cc_Fi_greatestPart 80 = .ok (.ifCond .eq 28, 3) := by decide +kernel
theorem dd_Fi_greatestPart_83 : decode cc_Fi_greatestPart 83 = .ok (.aload_n 0, 1) := by decide +kernel
theorem dd_Fi_greatestPart_84 : decode cc_Fi_greatestPart 84 = .ok (.getfield 68, 3) := by decide +kernel
theorem dd_Fi_greatestPart_87 : decode cc_Fi_greatestPart 87 = .ok (.iload 6, 2) := by decide +kernel
theorem dd_Fi_greatestPart_89 : decode cc_Fi_greatestPart 89 = .ok (.dup2, 1) := by decide +kernel
theorem dd_Fi_greatestPart_90 : decode cc_Fi_greatestPart 90 = .ok (.iaload, 1) := by decide +kernel
theorem dd_Fi_greatestPart_91 : decode cc_Fi_greatestPart 91 = .ok (.iconst 1, 1) := by decide +kernel
theorem dd_Fi_greatestPart_92 : decode cc_Fi_greatestPart 92 = .ok (.iadd, 1) := by decide +kernel
theorem dd_Fi_greatestPart_93 : decode cc_Fi_greatestPart 93 = .ok (.iastore, 1) := by decide +kernel
theorem dd_Fi_greatestPart_94 : decode cc_Fi_greatestPart 94 = .ok (.iload 4, 2) := by decide +kernel
theorem dd_Fi_greatestPart_96 : decode cc_Fi_greatestPart 96 = .ok (.aload_n 0, 1) := by decide +kernel
theorem dd_Fi_greatestPart_97 : decode cc_Fi_greatestPart 97 = .ok (.getfield 68, 3) := by decide +kernel
theorem dd_Fi_greatestPart_100 : decode cc_Fi_greatestPart 100 = .ok (.iload 6, 2) := by decide +kernel
theorem dd_Fi_greatestPart_102 : decode cc_Fi_greatestPart 102 = .ok (.iaload, 1) := by decide +kernel
theorem dd_Fi_greatestPart_103 : decode cc_Fi_greatestPart 103 = .ok (.invokestatic 318, 3) := by decide +kernel
theorem dd_Fi_greatestPart_106 : decode cc_Fi_greatestPart 106 = .ok (.istore 4, 2) := by decide +kernel
theorem dd_Fi_greatestPart_108 : decode cc_Fi_greatestPart 108 = .ok (.iinc 5 1, 3) := by decide +kernel
theorem dd_Fi_greatestPart_111 : decode cc_Fi_greatestPart 111 = .ok (.goto (-73), 3) := by decide +kernel
theorem dd_Fi_greatestPart_114 : decode cc_Fi_greatestPart 114 = .ok (.iload 4, 2) := by decide +kernel
theorem dd_Fi_greatestPart_116 : decode cc_Fi_greatestPart 116 = .ok (.ireturn, 1) := by decide +kernel
set_option maxRecDepth 100000 in
set_option maxHeartbeats 4000000 in
theorem ct_Fi_greatestPart (l : Launch) (E : gf_E) (g some f : Int) (μ : gf_M) (hg : gf_oGd g) (hg61 : g < 61) (hG : gf_okG μ g) (hso : 0 ≤ some ∧ some < 64) (hf : 0 ≤ f ∧ f ≤ 9) (hs : 0 ≤ μ 41 1 ∧ μ 41 1 < 8) (hF : gf_okF μ 42 (μ 41 1)) : gf_Mi l E yy_Fi_greatestPart cc_Fi_greatestPart 7 .int (gf_rm 4 92) 81 gf_ref μ [.ref (gf_ad E 0), .ref (gf_ad E g), .int (gf_i some), .int (gf_i f)] (fun r μ' => (r = pf_maxp some (fun kd => pf_reck kd (μ g 1) (μ g 2) (pf_apd (μ 42) (μ 41 1) f) (μ 41 1 + 1)) 6 ∧ 0 ≤ r ∧ r ≤ 6) ∧ ∀ x y : Int, ¬ (61 ≤ x ∧ x ≤ 63) → μ' x y = μ x y) := by
  refine gf_mi (by decide +kernel) (Nat.le_of_ble_eq_true rfl) (by decide) (fun X Q hlx C hQ => ?_)
  subst hlx
  replace C : gf_C X E cc_Fi_greatestPart 7 "GuardFigures" (gf_rm 4 92) := C
  show gf_G X E Q 7 gf_φ μ 0 [(0, .ref (gf_ad E 0)), (1, .ref (gf_ad E g)), (2, .int (gf_i some)), (3, .int (gf_i f))] []
  obtain ⟨v, hv⟩ : ∃ v : Int → Int, v = fun kd => pf_reck kd (μ g 1) (μ g 2) (pf_apd (μ 42) (μ 41 1) f) (μ 41 1 + 1) := ⟨_, rfl⟩
  have hvR : ∀ kd : Int, 0 ≤ v kd ∧ v kd ≤ 10 := fun kd => by rw [hv]; exact pf_reck_R _ _ _ _ _
  refine gf_iconst C dd_Fi_greatestPart_0 ?_
  refine gf_istore (lv' := [(4, .int (gf_i 0)), (0, .ref (gf_ad E 0)), (1, .ref (gf_ad E g)), (2, .int (gf_i some)), (3, .int (gf_i f))]) C dd_Fi_greatestPart_1 (by decide) rfl ?_
  refine gf_iconst C dd_Fi_greatestPart_3 ?_
  refine gf_istore (lv' := [(5, .int (gf_i 0)), (4, .int (gf_i 0)), (0, .ref (gf_ad E 0)), (1, .ref (gf_ad E g)), (2, .int (gf_i some)), (3, .int (gf_i f))]) C dd_Fi_greatestPart_4 (by decide) rfl ?_
  have L6_1 : ∀ (N : Nat) (c : Int) (m : gf_M) , (0 ≤ c ∧ c ≤ 11 ∧ (∀ z : Int, 0 ≤ z → z < c → m 63 z = 0) ∧ ∀ x y : Int, x ≠ 63 → m x y = μ x y) → (11 - c).toNat < N → gf_G X E Q 7 gf_φ m 6 [(5, .int (gf_i c)), (4, .int (gf_i 0)), (0, .ref (gf_ad E 0)), (1, .ref (gf_ad E g)), (2, .int (gf_i some)), (3, .int (gf_i f))] [] := by
    intro N
    induction N with
    | zero => intro c m hinv hN; exact absurd hN (Nat.not_lt_zero _)
    | succ N ih6_1 =>
      intro c m hinv hN
      have hinv0 := hinv
      obtain ⟨hc0, hc1, hc2, hc3⟩ := hinv
      refine gf_iload C dd_Fi_greatestPart_6 0 rfl ?_
      refine gf_bipush C dd_Fi_greatestPart_8 (by decide +kernel) ?_
      refine gf_icmp_gt 27 C dd_Fi_greatestPart_10 (by decide) (by omega) (by omega) (fun h10 => ?_) (fun h10 => ?_)
      · skip
        refine gf_aload_n C dd_Fi_greatestPart_27 2 rfl ?_
        refine gf_getA (r := 61) C gf_cl6 fl_Fi_60 dd_Fi_greatestPart_28 rfl (show gf_is 81 0 0 6 17 by decide) (by decide) (by decide) ?_
        refine gf_aload_n C dd_Fi_greatestPart_31 3 rfl ?_
        refine gf_callVv (st := []) (As := [.ref (gf_ad E g)]) C wk_Fi_133 gf_cl0 (show gf_is 81 61 0 0 3 by decide) (ct_Gd_resemble (gf_xl X) E 61 g m (show gf_is 81 61 0 0 3 by decide) hg) rfl ⟨rfl, rfl, rfl, rfl⟩ (Nat.le_of_ble_eq_true rfl) rfl dd_Fi_greatestPart_32 (fun m32 hp32 => ?_)
        refine gf_iconst C dd_Fi_greatestPart_35 ?_
        refine gf_istore (lv' := [(5, .int (gf_i 0)), (4, .int (gf_i 0)), (0, .ref (gf_ad E 0)), (1, .ref (gf_ad E g)), (2, .int (gf_i some)), (3, .int (gf_i f))]) C dd_Fi_greatestPart_36 (by decide) rfl ?_
        have L38_2 : ∀ (N : Nat) (q kd : Int) (m : gf_M) , (0 ≤ kd ∧ kd ≤ 6 ∧ q = pf_maxp some v kd.toNat ∧ 0 ≤ q ∧ q ≤ kd ∧ (∀ z : Int, 0 ≤ z → z ≤ 10 → m 63 z = pf_cnt (fun j => pf_bit some j && decide (v j = z)) kd.toNat) ∧ m 61 1 = μ g 1 ∧ m 61 2 = μ g 2 ∧ ∀ x y : Int, ¬ (61 ≤ x ∧ x ≤ 63) → m x y = μ x y) → (6 - kd).toNat < N → gf_G X E Q 7 gf_φ m 38 [(4, .int (gf_i q)), (5, .int (gf_i kd)), (0, .ref (gf_ad E 0)), (1, .ref (gf_ad E g)), (2, .int (gf_i some)), (3, .int (gf_i f))] [] := by
          intro N
          induction N with
          | zero => intro q kd m hinv hN; exact absurd hN (Nat.not_lt_zero _)
          | succ N ih38_2 =>
            intro q kd m hinv hN
            have hinv0 := hinv
            obtain ⟨hd0, hd1, hq, hq0, hq6, hpa, h611, h612, hfr⟩ := hinv
            refine gf_iload C dd_Fi_greatestPart_38 1 rfl ?_
            refine gf_bipush C dd_Fi_greatestPart_40 (by decide +kernel) ?_
            refine gf_icmp_ge 114 C dd_Fi_greatestPart_42 (by decide) (by omega) (by omega) (fun h42 => ?_) (fun h42 => ?_)
            · skip
              refine gf_iload C dd_Fi_greatestPart_114 0 rfl ?_
              refine gf_iret C hQ dd_Fi_greatestPart_116 (by omega) ?_
              have e6 : kd.toNat = 6 := by omega
              rw [e6, hv] at hq
              exact ⟨⟨hq, by omega, by omega⟩, hfr⟩
            · skip
              refine gf_aload_n C dd_Fi_greatestPart_45 2 rfl ?_
              refine gf_getA (r := 61) C gf_cl6 fl_Fi_60 dd_Fi_greatestPart_46 rfl (show gf_is 81 0 0 6 17 by decide) (by decide) (by decide) ?_
              refine gf_iload C dd_Fi_greatestPart_49 1 rfl ?_
              refine gf_putI (z := 0) C gf_cl0 fl_Fi_156 dd_Fi_greatestPart_51 rfl rfl rfl (by decide +kernel) (show gf_is 81 61 0 0 3 by decide) (by omega) ?_
              refine gf_nmM (fun m51 hm51 => ?_)
              have f51 : ∀ x y : Int, x ≠ 61 → m51 x y = m x y := fun x y h => by rw [hm51, gf_up_k h]
              have f510 : m51 61 0 = kd := by rw [hm51]; exact gf_up_s
              have f511 : m51 61 1 = μ g 1 := by rw [hm51, gf_up_j (by decide)]; exact h611
              have f512 : m51 61 2 = μ g 2 := by rw [hm51, gf_up_j (by decide)]; exact h612
              have g41 : m51 41 1 = μ 41 1 := by rw [f51 41 1 (by decide)]; exact hfr 41 1 (by decide)
              have g42 : m51 42 = μ 42 := funext fun y => by rw [f51 42 y (by decide)]; exact hfr 42 y (by decide)
              have hG51 : gf_okG m51 61 := by unfold gf_okG; rw [f510, f511, f512]; exact ⟨by omega, hG.2.1, hG.2.2⟩
              refine gf_aload_n C dd_Fi_greatestPart_54 2 rfl ?_
              refine gf_aload_n C dd_Fi_greatestPart_55 2 rfl ?_
              refine gf_getA (r := 61) C gf_cl6 fl_Fi_60 dd_Fi_greatestPart_56 rfl (show gf_is 81 0 0 6 17 by decide) (by decide) (by decide) ?_
              refine gf_iload_n C dd_Fi_greatestPart_59 5 rfl ?_
              refine gf_callVi (st := []) (As := [.ref (gf_ad E 61), .int (gf_i f)]) C wk_Fi_222 gf_cl6 (show gf_is 81 0 0 6 17 by decide) (ct_Fi_reckonedWith (gf_xl X) E 61 f m51 (show gf_is 81 61 0 0 3 by decide) (by decide) hG51 hf (by rw [g41]; exact hs) (by rw [g41]; intro j h0 h1; rw [g42]; exact hF j h0 h1)) rfl ⟨rfl, rfl, rfl, rfl⟩ (Nat.le_of_ble_eq_true rfl) rfl dd_Fi_greatestPart_60 (fun r60 m60 hR60 hp60 => ?_)
              obtain ⟨hra, hrb⟩ := hp60
              have hrv : r60 = v kd := by rw [hra.1, f510, f511, f512, g41, g42, hv]
              have f63 : ∀ z : Int, m60 63 z = m 63 z := fun z => by rw [hrb 63 z (by decide), f51 63 z (by decide)]
              have f611 : m60 61 1 = μ g 1 := by rw [hrb 61 1 (by decide)]; exact f511
              have f612 : m60 61 2 = μ g 2 := by rw [hrb 61 2 (by decide)]; exact f512
              have ffr : ∀ x y : Int, ¬ (61 ≤ x ∧ x ≤ 63) → m60 x y = μ x y := fun x y h => by rw [hrb x y (by omega), f51 x y (by omega)]; exact hfr x y h
              have hcr := pf_cnt_R (fun j => pf_bit some j && decide (v j = r60)) kd.toNat
              rw [← hpa r60 (by omega) (by omega), ← f63] at hcr
              have hsr : 0 ≤ gf_shr some kd ∧ gf_shr some kd ≤ 64 := by
                unfold gf_shr
                have hp : (0 : Int) < 2 ^ kd.toNat := Int.pow_pos (by decide)
                exact ⟨Int.ediv_nonneg hso.1 (by omega), Int.le_trans (Int.ediv_le_self _ hso.1) (by omega)⟩
              refine gf_istore (lv' := [(6, .int (gf_i r60)), (4, .int (gf_i q)), (5, .int (gf_i kd)), (0, .ref (gf_ad E 0)), (1, .ref (gf_ad E g)), (2, .int (gf_i some)), (3, .int (gf_i f))]) C dd_Fi_greatestPart_63 (by decide) rfl ?_
              refine gf_iload_n C dd_Fi_greatestPart_65 5 rfl ?_
              refine gf_iload C dd_Fi_greatestPart_66 2 rfl ?_
              refine gf_ishr C dd_Fi_greatestPart_68 (by omega) ?_
              refine gf_iconst C dd_Fi_greatestPart_69 ?_
              refine gf_iand C dd_Fi_greatestPart_70 (by omega) ?_
              have hab : 0 ≤ gf_and (gf_shr some kd) 1 ∧ gf_and (gf_shr some kd) 1 ≤ 1 := by unfold gf_and; have := Nat.and_le_right (n := (gf_shr some kd).toNat) (m := (1 : Int).toNat); constructor <;> omega
              refine gf_iconst C dd_Fi_greatestPart_71 ?_
              refine gf_icmp_ne 108 C dd_Fi_greatestPart_72 (by decide) (by omega) (by omega) (fun h72 => ?_) (fun h72 => ?_)
              · skip
                obtain ⟨x108, hx108⟩ : ∃ y : Int, y = kd + 1 := ⟨_, rfl⟩
                refine gf_iinc (q := 2) (v := x108) (lv' := [(5, .int (gf_i x108)), (6, .int (gf_i r60)), (4, .int (gf_i q)), (0, .ref (gf_ad E 0)), (1, .ref (gf_ad E g)), (2, .int (gf_i some)), (3, .int (gf_i f))]) C dd_Fi_greatestPart_108 rfl hx108 (by decide) rfl ?_
                refine gf_goto 38 C dd_Fi_greatestPart_111 (by decide) ?_
                refine gf_lsub [2, 0, 3, 4, 5, 6] rfl ?_
                exact ih38_2 q x108 m60 (by
                          have e1 : (kd + 1).toNat = kd.toNat + 1 := by omega
                          have eK : ((kd.toNat : Nat) : Int) = kd := by omega
                          have hvk := hvR kd
                          have hnb : ∀ z : Int, pf_bit some kd = false → pf_cnt (fun j => pf_bit some j && decide (v j = z)) (kd.toNat + 1) = pf_cnt (fun j => pf_bit some j && decide (v j = z)) kd.toNat := fun z hb => by
                            show _ + (if (pf_bit some ((kd.toNat : Nat) : Int) && decide (v ((kd.toNat : Nat) : Int) = z)) = true then 1 else 0) = _
                            rw [eK, hb]
                            simp
                          first
                          | (have hb : pf_bit some kd = false := by unfold pf_bit; simpa using h72
                             refine ⟨by omega, by omega, ?_, by omega, by omega, fun z h0 h1 => ?_, f611, f612, ffr⟩
                             · rw [hx108, e1]
                               show _ = if pf_bit some ((kd.toNat : Nat) : Int) = true then _ else pf_maxp some v kd.toNat
                               rw [eK, hb, ← hq]; rfl
                             · rw [f63 z, hpa z h0 h1, hx108, e1, hnb z hb])
                          | (exfalso
                             have := hr77.1 (by omega)
                             omega)
                          | (have hb : pf_bit some kd = true := by unfold pf_bit; simpa using h72
                             have hcn : ∀ z : Int, pf_cnt (fun j => pf_bit some j && decide (v j = z)) (kd.toNat + 1) = pf_cnt (fun j => pf_bit some j && decide (v j = z)) kd.toNat + (if v kd = z then 1 else 0) := fun z => by
                               show _ + (if (pf_bit some ((kd.toNat : Nat) : Int) && decide (v ((kd.toNat : Nat) : Int) = z)) = true then 1 else 0) = _
                               rw [eK, hb]
                               simp
                             have hR := pf_cnt_R (fun j => pf_bit some j && decide (v j = v kd)) (kd.toNat + 1)
                             have h93 : m93 63 r60 = pf_cnt (fun j => pf_bit some j && decide (v j = v kd)) (kd.toNat + 1) := by
                               rw [hm93, gf_up_s, f63 r60, hrv, hpa (v kd) hvk.1 hvk.2, hcn, if_pos rfl]
                             refine ⟨by omega, by omega, ?_, ?_, ?_, fun z h0 h1 => ?_, by rw [hm93, gf_up_k (by decide)]; exact f611, by rw [hm93, gf_up_k (by decide)]; exact f612, fun x y h => by rw [hm93, gf_up_k (by omega)]; exact ffr x y h⟩
                             · rw [hx108, e1]
                               show _ = if pf_bit some ((kd.toNat : Nat) : Int) = true then gf_max (pf_maxp some v kd.toNat) (pf_cnt (fun j => pf_bit some j && decide (v j = v ((kd.toNat : Nat) : Int))) (kd.toNat + 1)) else _
                               rw [eK, if_pos hb, ← hq, hx106, h93]
                             · rw [hx106]; unfold gf_max; split <;> omega
                             · rw [hx106, hx108]; unfold gf_max; split <;> omega
                             · rw [hx108, e1, hcn z]
                               by_cases e : v kd = z
                               · rw [if_pos e, ← e, ← hrv, h93, hrv, hcn, if_pos rfl]
                               · rw [if_neg e, hm93, gf_up_j (by omega), f63 z, hpa z h0 h1]; omega)) (by omega)
              · skip
                refine gf_iload C dd_Fi_greatestPart_75 0 rfl ?_
                refine gf_callSi (st := []) (As := [.int (gf_i r60)]) C wk_Fi_219 (ct_Fi_isCheck (gf_xl X) E r60 m60 (by omega)) rfl ⟨rfl, rfl, rfl, rfl⟩ (Nat.le_of_ble_eq_true rfl) rfl dd_Fi_greatestPart_77 (fun r77 m77 hR77 hp77 => ?_)
                have hr77 := hp77.1
                refine gf_pm hp77.2 ?_
                refine gf_if_eq 108 C dd_Fi_greatestPart_80 (by decide) (by omega) (fun h80 => ?_) (fun h80 => ?_)
                · skip
                  obtain ⟨x108, hx108⟩ : ∃ y : Int, y = kd + 1 := ⟨_, rfl⟩
                  refine gf_iinc (q := 2) (v := x108) (lv' := [(5, .int (gf_i x108)), (6, .int (gf_i r60)), (4, .int (gf_i q)), (0, .ref (gf_ad E 0)), (1, .ref (gf_ad E g)), (2, .int (gf_i some)), (3, .int (gf_i f))]) C dd_Fi_greatestPart_108 rfl hx108 (by decide) rfl ?_
                  refine gf_goto 38 C dd_Fi_greatestPart_111 (by decide) ?_
                  refine gf_lsub [2, 0, 3, 4, 5, 6] rfl ?_
                  exact ih38_2 q x108 m60 (by
                            have e1 : (kd + 1).toNat = kd.toNat + 1 := by omega
                            have eK : ((kd.toNat : Nat) : Int) = kd := by omega
                            have hvk := hvR kd
                            have hnb : ∀ z : Int, pf_bit some kd = false → pf_cnt (fun j => pf_bit some j && decide (v j = z)) (kd.toNat + 1) = pf_cnt (fun j => pf_bit some j && decide (v j = z)) kd.toNat := fun z hb => by
                              show _ + (if (pf_bit some ((kd.toNat : Nat) : Int) && decide (v ((kd.toNat : Nat) : Int) = z)) = true then 1 else 0) = _
                              rw [eK, hb]
                              simp
                            first
                            | (have hb : pf_bit some kd = false := by unfold pf_bit; simpa using h72
                               refine ⟨by omega, by omega, ?_, by omega, by omega, fun z h0 h1 => ?_, f611, f612, ffr⟩
                               · rw [hx108, e1]
                                 show _ = if pf_bit some ((kd.toNat : Nat) : Int) = true then _ else pf_maxp some v kd.toNat
                                 rw [eK, hb, ← hq]; rfl
                               · rw [f63 z, hpa z h0 h1, hx108, e1, hnb z hb])
                            | (exfalso
                               have := hr77.1 (by omega)
                               omega)
                            | (have hb : pf_bit some kd = true := by unfold pf_bit; simpa using h72
                               have hcn : ∀ z : Int, pf_cnt (fun j => pf_bit some j && decide (v j = z)) (kd.toNat + 1) = pf_cnt (fun j => pf_bit some j && decide (v j = z)) kd.toNat + (if v kd = z then 1 else 0) := fun z => by
                                 show _ + (if (pf_bit some ((kd.toNat : Nat) : Int) && decide (v ((kd.toNat : Nat) : Int) = z)) = true then 1 else 0) = _
                                 rw [eK, hb]
                                 simp
                               have hR := pf_cnt_R (fun j => pf_bit some j && decide (v j = v kd)) (kd.toNat + 1)
                               have h93 : m93 63 r60 = pf_cnt (fun j => pf_bit some j && decide (v j = v kd)) (kd.toNat + 1) := by
                                 rw [hm93, gf_up_s, f63 r60, hrv, hpa (v kd) hvk.1 hvk.2, hcn, if_pos rfl]
                               refine ⟨by omega, by omega, ?_, ?_, ?_, fun z h0 h1 => ?_, by rw [hm93, gf_up_k (by decide)]; exact f611, by rw [hm93, gf_up_k (by decide)]; exact f612, fun x y h => by rw [hm93, gf_up_k (by omega)]; exact ffr x y h⟩
                               · rw [hx108, e1]
                                 show _ = if pf_bit some ((kd.toNat : Nat) : Int) = true then gf_max (pf_maxp some v kd.toNat) (pf_cnt (fun j => pf_bit some j && decide (v j = v ((kd.toNat : Nat) : Int))) (kd.toNat + 1)) else _
                                 rw [eK, if_pos hb, ← hq, hx106, h93]
                               · rw [hx106]; unfold gf_max; split <;> omega
                               · rw [hx106, hx108]; unfold gf_max; split <;> omega
                               · rw [hx108, e1, hcn z]
                                 by_cases e : v kd = z
                                 · rw [if_pos e, ← e, ← hrv, h93, hrv, hcn, if_pos rfl]
                                 · rw [if_neg e, hm93, gf_up_j (by omega), f63 z, hpa z h0 h1]; omega)) (by omega)
                · skip
                  refine gf_aload_n C dd_Fi_greatestPart_83 3 rfl ?_
                  refine gf_getA (r := 63) C gf_cl6 fl_Fi_68 dd_Fi_greatestPart_84 rfl (show gf_is 81 0 0 6 17 by decide) (by decide) (by decide) ?_
                  refine gf_iload C dd_Fi_greatestPart_87 0 rfl ?_
                  refine gf_dup2 C dd_Fi_greatestPart_89 rfl rfl ?_
                  refine gf_iald C dd_Fi_greatestPart_90 (show gf_is 81 63 1 0 11 by decide) (by omega) (fun hv90 => ?_)
                  refine gf_iconst C dd_Fi_greatestPart_91 ?_
                  refine gf_iadd C dd_Fi_greatestPart_92 ?_
                  refine gf_iast C dd_Fi_greatestPart_93 (show gf_is 81 63 1 0 11 by decide) (by omega) (by omega) ?_
                  refine gf_nmM (fun m93 hm93 => ?_)
                  refine gf_iload C dd_Fi_greatestPart_94 1 rfl ?_
                  have h93R : gf_R (m93 63 r60) := by rw [hm93, gf_up_s]; omega
                  refine gf_aload_n C dd_Fi_greatestPart_96 3 rfl ?_
                  refine gf_getA (r := 63) C gf_cl6 fl_Fi_68 dd_Fi_greatestPart_97 rfl (show gf_is 81 0 0 6 17 by decide) (by decide) (by decide) ?_
                  refine gf_iload C dd_Fi_greatestPart_100 0 rfl ?_
                  refine gf_iald C dd_Fi_greatestPart_102 (show gf_is 81 63 1 0 11 by decide) (by omega) (fun hv102 => ?_)
                  refine gf_mmax C (gf_mem 649 (by decide +kernel) (by decide +kernel)) dd_Fi_greatestPart_103 (⟨by omega, h93R⟩) ⟨by decide, Nat.le_of_ble_eq_true rfl, rfl, rfl⟩ ?_
                  refine gf_nm (fun x106 hx106 => ?_)
                  refine gf_istore (lv' := [(4, .int (gf_i x106)), (6, .int (gf_i r60)), (5, .int (gf_i kd)), (0, .ref (gf_ad E 0)), (1, .ref (gf_ad E g)), (2, .int (gf_i some)), (3, .int (gf_i f))]) C dd_Fi_greatestPart_106 (by decide) rfl ?_
                  obtain ⟨x108, hx108⟩ : ∃ y : Int, y = kd + 1 := ⟨_, rfl⟩
                  refine gf_iinc (q := 2) (v := x108) (lv' := [(5, .int (gf_i x108)), (4, .int (gf_i x106)), (6, .int (gf_i r60)), (0, .ref (gf_ad E 0)), (1, .ref (gf_ad E g)), (2, .int (gf_i some)), (3, .int (gf_i f))]) C dd_Fi_greatestPart_108 rfl hx108 (by decide) rfl ?_
                  refine gf_goto 38 C dd_Fi_greatestPart_111 (by decide) ?_
                  refine gf_lsub [1, 0, 3, 4, 5, 6] rfl ?_
                  exact ih38_2 x106 x108 m93 (by
                            have e1 : (kd + 1).toNat = kd.toNat + 1 := by omega
                            have eK : ((kd.toNat : Nat) : Int) = kd := by omega
                            have hvk := hvR kd
                            have hnb : ∀ z : Int, pf_bit some kd = false → pf_cnt (fun j => pf_bit some j && decide (v j = z)) (kd.toNat + 1) = pf_cnt (fun j => pf_bit some j && decide (v j = z)) kd.toNat := fun z hb => by
                              show _ + (if (pf_bit some ((kd.toNat : Nat) : Int) && decide (v ((kd.toNat : Nat) : Int) = z)) = true then 1 else 0) = _
                              rw [eK, hb]
                              simp
                            first
                            | (have hb : pf_bit some kd = false := by unfold pf_bit; simpa using h72
                               refine ⟨by omega, by omega, ?_, by omega, by omega, fun z h0 h1 => ?_, f611, f612, ffr⟩
                               · rw [hx108, e1]
                                 show _ = if pf_bit some ((kd.toNat : Nat) : Int) = true then _ else pf_maxp some v kd.toNat
                                 rw [eK, hb, ← hq]; rfl
                               · rw [f63 z, hpa z h0 h1, hx108, e1, hnb z hb])
                            | (exfalso
                               have := hr77.1 (by omega)
                               omega)
                            | (have hb : pf_bit some kd = true := by unfold pf_bit; simpa using h72
                               have hcn : ∀ z : Int, pf_cnt (fun j => pf_bit some j && decide (v j = z)) (kd.toNat + 1) = pf_cnt (fun j => pf_bit some j && decide (v j = z)) kd.toNat + (if v kd = z then 1 else 0) := fun z => by
                                 show _ + (if (pf_bit some ((kd.toNat : Nat) : Int) && decide (v ((kd.toNat : Nat) : Int) = z)) = true then 1 else 0) = _
                                 rw [eK, hb]
                                 simp
                               have hR := pf_cnt_R (fun j => pf_bit some j && decide (v j = v kd)) (kd.toNat + 1)
                               have h93 : m93 63 r60 = pf_cnt (fun j => pf_bit some j && decide (v j = v kd)) (kd.toNat + 1) := by
                                 rw [hm93, gf_up_s, f63 r60, hrv, hpa (v kd) hvk.1 hvk.2, hcn, if_pos rfl]
                               refine ⟨by omega, by omega, ?_, ?_, ?_, fun z h0 h1 => ?_, by rw [hm93, gf_up_k (by decide)]; exact f611, by rw [hm93, gf_up_k (by decide)]; exact f612, fun x y h => by rw [hm93, gf_up_k (by omega)]; exact ffr x y h⟩
                               · rw [hx108, e1]
                                 show _ = if pf_bit some ((kd.toNat : Nat) : Int) = true then gf_max (pf_maxp some v kd.toNat) (pf_cnt (fun j => pf_bit some j && decide (v j = v ((kd.toNat : Nat) : Int))) (kd.toNat + 1)) else _
                                 rw [eK, if_pos hb, ← hq, hx106, h93]
                               · rw [hx106]; unfold gf_max; split <;> omega
                               · rw [hx106, hx108]; unfold gf_max; split <;> omega
                               · rw [hx108, e1, hcn z]
                                 by_cases e : v kd = z
                                 · rw [if_pos e, ← e, ← hrv, h93, hrv, hcn, if_pos rfl]
                                 · rw [if_neg e, hm93, gf_up_j (by omega), f63 z, hpa z h0 h1]; omega)) (by omega)
        refine gf_lsub [1, 0, 2, 3, 4, 5] rfl ?_
        exact L38_2 _ 0 0 m32 (by
            refine ⟨by omega, by omega, rfl, by omega, by omega, fun z h0 h1 => ?_, ?_, ?_, fun x y h => ?_⟩
            · rw [hp32, gf_up_k (by decide), gf_up_k (by decide), gf_up_k (by decide)]; exact hc2 z h0 (by omega)
            · rw [hp32, gf_up_j (by decide), gf_up_s]; exact hc3 g 1 (by omega)
            · rw [hp32, gf_up_s]; exact hc3 g 2 (by omega)
            · rw [hp32, gf_up_k (by omega), gf_up_k (by omega), gf_up_k (by omega)]; exact hc3 x y (by omega)) (Nat.lt_succ_self _)
      · skip
        refine gf_aload_n C dd_Fi_greatestPart_13 2 rfl ?_
        refine gf_getA (r := 63) C gf_cl6 fl_Fi_68 dd_Fi_greatestPart_14 rfl (show gf_is 81 0 0 6 17 by decide) (by decide) (by decide) ?_
        refine gf_iload C dd_Fi_greatestPart_17 0 rfl ?_
        refine gf_iconst C dd_Fi_greatestPart_19 ?_
        refine gf_iast C dd_Fi_greatestPart_20 (show gf_is 81 63 1 0 11 by decide) (by omega) (by omega) ?_
        refine gf_nmM (fun m20 hm20 => ?_)
        obtain ⟨x21, hx21⟩ : ∃ y : Int, y = c + 1 := ⟨_, rfl⟩
        refine gf_iinc (q := 0) (v := x21) (lv' := [(5, .int (gf_i x21)), (4, .int (gf_i 0)), (0, .ref (gf_ad E 0)), (1, .ref (gf_ad E g)), (2, .int (gf_i some)), (3, .int (gf_i f))]) C dd_Fi_greatestPart_21 rfl hx21 (by decide) rfl ?_
        refine gf_goto 6 C dd_Fi_greatestPart_24 (by decide) ?_
        refine gf_lsub [0, 1, 2, 3, 4, 5] rfl ?_
        exact ih6_1 x21 m20 (by
                refine ⟨by omega, by omega, fun z h0 h1 => ?_, fun x y h => by rw [hm20, gf_up_k h]; exact hc3 x y h⟩
                rw [hm20]
                by_cases e : z = c
                · rw [e]; exact gf_up_s
                · rw [gf_up_j e]; exact hc2 z h0 (by omega)) (by omega)
  refine gf_lsub [0, 1, 2, 3, 4, 5] rfl ?_
  exact L6_1 _ 0 μ (⟨by omega, by omega, fun z h0 h1 => by omega, fun x y _ => rfl⟩) (Nat.lt_succ_self _)

theorem dd_Fi_counted_0 : decode cc_Fi_counted 0 = .ok (.iload_n 1, 1) := by decide +kernel
theorem dd_Fi_counted_1 : decode cc_Fi_counted 1 = .ok (.tableswitch 131 0 9 #[55, 60, 68, 76, 94, 99, 104, 112, 120, 125], 55) := by decide +kernel
theorem dd_Fi_counted_56 : decode cc_Fi_counted 56 = .ok (.aload_n 0, 1) := by decide +kernel
theorem dd_Fi_counted_57 : decode cc_Fi_counted 57 = .ok (.getfield 131, 3) := by decide +kernel
theorem dd_Fi_counted_60 : decode cc_Fi_counted 60 = .ok (.ireturn, 1) := by decide +kernel
theorem dd_Fi_counted_61 : decode cc_Fi_counted 61 = .ok (.aload_n 0, 1) := by decide +kernel
theorem dd_Fi_counted_62 : decode cc_Fi_counted 62 = .ok (.getfield 35, 3) := by decide +kernel
theorem dd_Fi_counted_65 : decode cc_Fi_counted 65 = .ok (.getfield 168, 3) := by decide +kernel
theorem dd_Fi_counted_68 : decode cc_Fi_counted 68 = .ok (.ireturn, 1) := by decide +kernel
theorem dd_Fi_counted_69 : decode cc_Fi_counted 69 = .ok (.aload_n 0, 1) := by decide +kernel
theorem dd_Fi_counted_70 : decode cc_Fi_counted 70 = .ok (.getfield 35, 3) := by decide +kernel
theorem dd_Fi_counted_73 : decode cc_Fi_counted 73 = .ok (.getfield 172, 3) := by decide +kernel
theorem dd_Fi_counted_76 : decode cc_Fi_counted 76 = .ok (.ireturn, 1) := by decide +kernel
theorem dd_Fi_counted_77 : decode cc_Fi_counted 77 = .ok (.aload_n 0, 1) := by decide +kernel
theorem dd_Fi_counted_78 : decode cc_Fi_counted 78 = .ok (.getfield 35, 3) := by decide +kernel
theorem dd_Fi_counted_81 : decode cc_Fi_counted 81 = .ok (.getfield 169, 3) := by decide +kernel
theorem dd_Fi_counted_84 : decode cc_Fi_counted 84 = .ok (.aload_n 0, 1) := by decide +kernel
theorem dd_Fi_counted_85 : decode cc_Fi_counted 85 = .ok (.getfield 35, 3) := by decide +kernel
theorem dd_Fi_counted_88 : decode cc_Fi_counted 88 = .ok (.getfield 168, 3) := by decide +kernel
theorem dd_Fi_counted_91 : decode cc_Fi_counted 91 = .ok (.invokestatic 324, 3) := by decide +kernel
theorem dd_Fi_counted_94 : decode cc_Fi_counted 94 = .ok (.ireturn, 1) := by decide +kernel
theorem dd_Fi_counted_95 : decode cc_Fi_counted 95 = .ok (.aload_n 0, 1) := by decide +kernel
theorem dd_Fi_counted_96 : decode cc_Fi_counted 96 = .ok (.invokevirtual 327, 3) := by decide +kernel
theorem dd_Fi_counted_99 : decode cc_Fi_counted 99 = .ok (.ireturn, 1) := by decide +kernel
theorem dd_Fi_counted_100 : decode cc_Fi_counted 100 = .ok (.aload_n 0, 1) := by decide +kernel
theorem dd_Fi_counted_101 : decode cc_Fi_counted 101 = .ok (.invokevirtual 330, 3) := by decide +kernel
theorem dd_Fi_counted_104 : decode cc_Fi_counted 104 = .ok (.ireturn, 1) := by decide +kernel
theorem dd_Fi_counted_105 : decode cc_Fi_counted 105 = .ok (.aload_n 0, 1) := by decide +kernel
theorem dd_Fi_counted_106 : decode cc_Fi_counted 106 = .ok (.getfield 11, 3) := by decide +kernel
theorem dd_Fi_counted_109 : decode cc_Fi_counted 109 = .ok (.invokestatic 333, 3) := by decide +kernel
theorem dd_Fi_counted_112 : decode cc_Fi_counted 112 = .ok (.ireturn, 1) := by decide +kernel
theorem dd_Fi_counted_113 : decode cc_Fi_counted 113 = .ok (.aload_n 0, 1) := by decide +kernel
theorem dd_Fi_counted_114 : decode cc_Fi_counted 114 = .ok (.getfield 18, 3) := by decide +kernel
theorem dd_Fi_counted_117 : decode cc_Fi_counted 117 = .ok (.invokestatic 333, 3) := by decide +kernel
theorem dd_Fi_counted_120 : decode cc_Fi_counted 120 = .ok (.ireturn, 1) := by decide +kernel
theorem dd_Fi_counted_121 : decode cc_Fi_counted 121 = .ok (.aload_n 0, 1) := by decide +kernel
theorem dd_Fi_counted_122 : decode cc_Fi_counted 122 = .ok (.invokevirtual 337, 3) := by decide +kernel
theorem dd_Fi_counted_125 : decode cc_Fi_counted 125 = .ok (.ireturn, 1) := by decide +kernel
theorem dd_Fi_counted_126 : decode cc_Fi_counted 126 = .ok (.aload_n 0, 1) := by decide +kernel
theorem dd_Fi_counted_127 : decode cc_Fi_counted 127 = .ok (.iconst 1, 1) := by decide +kernel
theorem dd_Fi_counted_128 : decode cc_Fi_counted 128 = .ok (.invokevirtual 340, 3) := by decide +kernel
theorem dd_Fi_counted_131 : decode cc_Fi_counted 131 = .ok (.ireturn, 1) := by decide +kernel
theorem dd_Fi_counted_132 : decode cc_Fi_counted 132 = .ok (.aload_n 0, 1) := by decide +kernel
theorem dd_Fi_counted_133 : decode cc_Fi_counted 133 = .ok (.iconst 2, 1) := by decide +kernel
theorem dd_Fi_counted_134 : decode cc_Fi_counted 134 = .ok (.invokevirtual 340, 3) := by decide +kernel
theorem dd_Fi_counted_137 : decode cc_Fi_counted 137 = .ok (.ireturn, 1) := by decide +kernel
set_option maxRecDepth 100000 in
set_option maxHeartbeats 4000000 in
theorem ct_Fi_counted (l : Launch) (E : gf_E) (w : Int) (μ : gf_M) (hw : 0 ≤ w ∧ w ≤ 10) (hc7 : 0 ≤ μ 0 3 ∧ μ 0 3 ≤ 7) (hG : gf_okGs μ (μ 0 3)) (hs : 0 ≤ μ 41 1 ∧ μ 41 1 ≤ 8) (hF : gf_okF μ 42 (μ 41 1)) (hd : 0 ≤ μ 41 2 ∧ μ 41 2 ≤ 40) : gf_Mi l E yy_Fi_counted cc_Fi_counted 2 .int (gf_rm 5 117) 81 gf_ref μ [.ref (gf_ad E 0), .int (gf_i w)] (fun r μ' => (r = pf_cn μ w ∧ 0 ≤ r ∧ r ≤ 100000000) ∧ gf_sc μ' μ) := by
  refine gf_mi (by decide +kernel) (Nat.le_of_ble_eq_true rfl) (by decide) (fun X Q hlx C hQ => ?_)
  subst hlx
  replace C : gf_C X E cc_Fi_counted 2 "GuardFigures" (gf_rm 5 117) := C
  show gf_G X E Q 2 gf_φ μ 0 [(0, .ref (gf_ad E 0)), (1, .int (gf_i w))] []
  refine gf_iload_n C dd_Fi_counted_0 1 rfl ?_
  rcases (show w = 0 ∨ w = 1 ∨ w = 2 ∨ w = 3 ∨ w = 4 ∨ w = 5 ∨ w = 6 ∨ w = 7 ∨ w = 8 ∨ w = 9 ∨ ¬ (0 ≤ w ∧ w ≤ 9) by omega) with hsw1 | hsw1 | hsw1 | hsw1 | hsw1 | hsw1 | hsw1 | hsw1 | hsw1 | hsw1 | hsw1
  · refine gf_cv hsw1 ?_
    refine gf_tblI 56 C dd_Fi_counted_1 (by decide) (by decide) (by decide) rfl (by decide) ?_
    refine gf_aload_n C dd_Fi_counted_56 0 rfl ?_
    refine gf_getI (z := 3) C gf_cl6 fl_Fi_131 dd_Fi_counted_57 rfl rfl (show gf_is 81 0 0 6 17 by decide) (fun hv57 => ?_)
    refine gf_iret C hQ dd_Fi_counted_60 (by omega) ?_
    exact ⟨⟨by rw [hsw1]; rfl, by omega, by omega⟩, fun _ _ _ => rfl⟩
  · refine gf_cv hsw1 ?_
    refine gf_tblI 61 C dd_Fi_counted_1 (by decide) (by decide) (by decide) rfl (by decide) ?_
    refine gf_aload_n C dd_Fi_counted_61 0 rfl ?_
    refine gf_getA (r := 41) C gf_cl6 fl_Fi_35 dd_Fi_counted_62 rfl (show gf_is 81 0 0 6 17 by decide) (by decide) (by decide) ?_
    refine gf_getI (z := 1) C gf_cl5 fl_Fi_168 dd_Fi_counted_65 rfl rfl (show gf_is 81 41 0 5 5 by decide) (fun hv65 => ?_)
    refine gf_iret C hQ dd_Fi_counted_68 (by omega) ?_
    exact ⟨⟨by rw [hsw1]; rfl, by omega, by omega⟩, fun _ _ _ => rfl⟩
  · refine gf_cv hsw1 ?_
    refine gf_tblI 69 C dd_Fi_counted_1 (by decide) (by decide) (by decide) rfl (by decide) ?_
    refine gf_aload_n C dd_Fi_counted_69 0 rfl ?_
    refine gf_getA (r := 41) C gf_cl6 fl_Fi_35 dd_Fi_counted_70 rfl (show gf_is 81 0 0 6 17 by decide) (by decide) (by decide) ?_
    refine gf_getI (z := 2) C gf_cl5 fl_Fi_172 dd_Fi_counted_73 rfl rfl (show gf_is 81 41 0 5 5 by decide) (fun hv73 => ?_)
    refine gf_iret C hQ dd_Fi_counted_76 (by omega) ?_
    exact ⟨⟨by rw [hsw1]; rfl, by omega, by omega⟩, fun _ _ _ => rfl⟩
  · refine gf_cv hsw1 ?_
    refine gf_tblI 77 C dd_Fi_counted_1 (by decide) (by decide) (by decide) rfl (by decide) ?_
    refine gf_aload_n C dd_Fi_counted_77 0 rfl ?_
    refine gf_getA (r := 41) C gf_cl6 fl_Fi_35 dd_Fi_counted_78 rfl (show gf_is 81 0 0 6 17 by decide) (by decide) (by decide) ?_
    refine gf_getA (r := 42) C gf_cl5 fl_Fi_169 dd_Fi_counted_81 rfl (show gf_is 81 41 0 5 5 by decide) (by decide) (by decide) ?_
    refine gf_aload_n C dd_Fi_counted_84 0 rfl ?_
    refine gf_getA (r := 41) C gf_cl6 fl_Fi_35 dd_Fi_counted_85 rfl (show gf_is 81 0 0 6 17 by decide) (by decide) (by decide) ?_
    refine gf_getI (z := 1) C gf_cl5 fl_Fi_168 dd_Fi_counted_88 rfl rfl (show gf_is 81 41 0 5 5 by decide) (fun hv88 => ?_)
    refine gf_callSi (st := []) (As := [.ref (gf_ad E 42), .int (gf_i (μ 41 1))]) C wk_Fi_324 (ct_Fi_asNumber (gf_xl X) E 42 (μ 41 1) 8 μ (show gf_is 81 42 1 0 8 by decide) (by omega) (hF)) rfl ⟨rfl, rfl, rfl, rfl⟩ (Nat.le_of_ble_eq_true rfl) rfl dd_Fi_counted_91 (fun r91 m91 hR91 hp91 => ?_)
    have hr91 := hp91.1
    refine gf_pm hp91.2 ?_
    refine gf_iret C hQ dd_Fi_counted_94 (by omega) ?_
    exact ⟨⟨by rw [hsw1]; exact hr91.1, by omega, by omega⟩, fun _ _ _ => rfl⟩
  · refine gf_cv hsw1 ?_
    refine gf_tblI 95 C dd_Fi_counted_1 (by decide) (by decide) (by decide) rfl (by decide) ?_
    refine gf_aload_n C dd_Fi_counted_95 0 rfl ?_
    refine gf_callVi (st := []) (As := []) C wk_Fi_327 gf_cl6 (show gf_is 81 0 0 6 17 by decide) (ct_Fi_reckonedTogether (gf_xl X) E μ (by omega) (hG) (by omega) (hF)) rfl ⟨rfl, rfl, rfl, rfl⟩ (Nat.le_of_ble_eq_true rfl) rfl dd_Fi_counted_96 (fun r96 m96 hR96 hp96 => ?_)
    have hr96 := hp96.1
    refine gf_pm hp96.2 ?_
    refine gf_iret C hQ dd_Fi_counted_99 (by omega) ?_
    exact ⟨⟨by rw [hsw1]; exact hr96.1, by omega, by omega⟩, fun _ _ _ => rfl⟩
  · refine gf_cv hsw1 ?_
    refine gf_tblI 100 C dd_Fi_counted_1 (by decide) (by decide) (by decide) rfl (by decide) ?_
    refine gf_aload_n C dd_Fi_counted_100 0 rfl ?_
    refine gf_callVi (st := []) (As := []) C wk_Fi_330 gf_cl6 (show gf_is 81 0 0 6 17 by decide) (ct_Fi_noticingAllSlips (gf_xl X) E μ (by omega) (hG) (by omega) (hF)) rfl ⟨rfl, rfl, rfl, rfl⟩ (Nat.le_of_ble_eq_true rfl) rfl dd_Fi_counted_101 (fun r101 m101 hR101 hp101 => ?_)
    obtain ⟨hp101a, hp101b⟩ := hp101
    refine gf_iret C hQ dd_Fi_counted_104 (by omega) ?_
    exact ⟨⟨by rw [hsw1]; exact hp101a.1, by omega, by omega⟩, hp101b⟩
  · refine gf_cv hsw1 ?_
    refine gf_tblI 105 C dd_Fi_counted_1 (by decide) (by decide) (by decide) rfl (by decide) ?_
    refine gf_aload_n C dd_Fi_counted_105 0 rfl ?_
    refine gf_getA (r := 1) C gf_cl6 fl_Fi_11 dd_Fi_counted_106 rfl (show gf_is 81 0 0 6 17 by decide) (by decide) (by decide) ?_
    refine gf_callSi (st := []) (As := [.ref (gf_ad E 1)]) C wk_Fi_333 (ct_Fi_howManyThere (gf_xl X) E 1 2 6 40 μ (by decide) (by decide) (fun r h => gf_row_of h)) rfl ⟨rfl, rfl, rfl, rfl⟩ (Nat.le_of_ble_eq_true rfl) rfl dd_Fi_counted_109 (fun r109 m109 hR109 hp109 => ?_)
    have hr109 := hp109.1
    refine gf_pm hp109.2 ?_
    refine gf_iret C hQ dd_Fi_counted_112 (by omega) ?_
    exact ⟨⟨by rw [hsw1]; exact hr109.1, by omega, by omega⟩, fun _ _ _ => rfl⟩
  · refine gf_cv hsw1 ?_
    refine gf_tblI 113 C dd_Fi_counted_1 (by decide) (by decide) (by decide) rfl (by decide) ?_
    refine gf_aload_n C dd_Fi_counted_113 0 rfl ?_
    refine gf_getA (r := 14) C gf_cl6 fl_Fi_18 dd_Fi_counted_114 rfl (show gf_is 81 0 0 6 17 by decide) (by decide) (by decide) ?_
    refine gf_callSi (st := []) (As := [.ref (gf_ad E 14)]) C wk_Fi_333 (ct_Fi_howManyThere (gf_xl X) E 14 15 4 60 μ (by decide) (by decide) (fun r h => gf_text_of h)) rfl ⟨rfl, rfl, rfl, rfl⟩ (Nat.le_of_ble_eq_true rfl) rfl dd_Fi_counted_117 (fun r117 m117 hR117 hp117 => ?_)
    have hr117 := hp117.1
    refine gf_pm hp117.2 ?_
    refine gf_iret C hQ dd_Fi_counted_120 (by omega) ?_
    exact ⟨⟨by rw [hsw1]; exact hr117.1, by omega, by omega⟩, fun _ _ _ => rfl⟩
  · refine gf_cv hsw1 ?_
    refine gf_tblI 121 C dd_Fi_counted_1 (by decide) (by decide) (by decide) rfl (by decide) ?_
    refine gf_aload_n C dd_Fi_counted_121 0 rfl ?_
    refine gf_callVi (st := []) (As := []) C wk_Fi_337 gf_cl6 (show gf_is 81 0 0 6 17 by decide) (ct_Fi_keptCount (gf_xl X) E μ) rfl ⟨rfl, rfl, rfl, rfl⟩ (Nat.le_of_ble_eq_true rfl) rfl dd_Fi_counted_122 (fun r122 m122 hR122 hp122 => ?_)
    have hr122 := hp122.1
    refine gf_pm hp122.2 ?_
    refine gf_iret C hQ dd_Fi_counted_125 (by omega) ?_
    exact ⟨⟨by rw [hsw1]; exact hr122.1, by omega, by omega⟩, fun _ _ _ => rfl⟩
  · refine gf_cv hsw1 ?_
    refine gf_tblI 126 C dd_Fi_counted_1 (by decide) (by decide) (by decide) rfl (by decide) ?_
    refine gf_aload_n C dd_Fi_counted_126 0 rfl ?_
    refine gf_iconst C dd_Fi_counted_127 ?_
    refine gf_callVi (st := []) (As := [.int (gf_i 1)]) C wk_Fi_340 gf_cl6 (show gf_is 81 0 0 6 17 by decide) (ct_Fi_howManyAre (gf_xl X) E 1 μ (by omega) (hG) (by omega)) rfl ⟨rfl, rfl, rfl, rfl⟩ (Nat.le_of_ble_eq_true rfl) rfl dd_Fi_counted_128 (fun r128 m128 hR128 hp128 => ?_)
    have hr128 := hp128.1
    refine gf_pm hp128.2 ?_
    refine gf_iret C hQ dd_Fi_counted_131 (by omega) ?_
    exact ⟨⟨by rw [hsw1]; exact hr128.1, by omega, by omega⟩, fun _ _ _ => rfl⟩
  · refine gf_tblO 132 C dd_Fi_counted_1 (by omega) (by omega) (by decide) ?_
    refine gf_aload_n C dd_Fi_counted_132 0 rfl ?_
    refine gf_iconst C dd_Fi_counted_133 ?_
    refine gf_callVi (st := []) (As := [.int (gf_i 2)]) C wk_Fi_340 gf_cl6 (show gf_is 81 0 0 6 17 by decide) (ct_Fi_howManyAre (gf_xl X) E 2 μ (by omega) (hG) (by omega)) rfl ⟨rfl, rfl, rfl, rfl⟩ (Nat.le_of_ble_eq_true rfl) rfl dd_Fi_counted_134 (fun r134 m134 hR134 hp134 => ?_)
    have hr134 := hp134.1
    refine gf_pm hp134.2 ?_
    refine gf_iret C hQ dd_Fi_counted_137 (by omega) ?_
    exact ⟨⟨by rw [show w = 10 by omega]; exact hr134.1, by omega, by omega⟩, fun _ _ _ => rfl⟩
