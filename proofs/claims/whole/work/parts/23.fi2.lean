def pf_apd (f : Int → Int) (n v : Int) : Int → Int := fun j => if j = n then v else f j
theorem dd_Fi_reckonedWith_0 : decode cc_Fi_reckonedWith 0 = .ok (.aload_n 0, 1) := by decide +kernel
theorem dd_Fi_reckonedWith_1 : decode cc_Fi_reckonedWith 1 = .ok (.getfield 35, 3) := by decide +kernel
theorem dd_Fi_reckonedWith_4 : decode cc_Fi_reckonedWith 4 = .ok (.getfield 168, 3) := by decide +kernel
theorem dd_Fi_reckonedWith_7 : decode cc_Fi_reckonedWith 7 = .ok (.istore_n 3, 1) := by decide +kernel
theorem dd_Fi_reckonedWith_8 : decode cc_Fi_reckonedWith 8 = .ok (.iload_n 3, 1) := by decide +kernel
theorem dd_Fi_reckonedWith_9 : decode cc_Fi_reckonedWith 9 = .ok (.aload_n 0, 1) := by decide +kernel
theorem dd_Fi_reckonedWith_10 : decode cc_Fi_reckonedWith 10 = .ok (.getfield 64, 3) := by decide +kernel
theorem dd_Fi_reckonedWith_13 : decode cc_Fi_reckonedWith 13 = .ok (.arraylength, 1) := by decide +kernel
theorem dd_Fi_reckonedWith_14 : decode cc_Fi_reckonedWith 14 = .ok (.if_icmp .lt 6, 3) := by decide +kernel
theorem dd_Fi_reckonedWith_17 : decode cc_Fi_reckonedWith 17 = .ok (.bipush (-9), 2) := by decide +kernel
theorem dd_Fi_reckonedWith_19 : decode cc_Fi_reckonedWith 19 = .ok (.ireturn, 1) := by decide +kernel
theorem dd_Fi_reckonedWith_20 : decode cc_Fi_reckonedWith 20 = .ok (.aload_n 0, 1) := by decide +kernel
theorem dd_Fi_reckonedWith_21 : decode cc_Fi_reckonedWith 21 = .ok (.getfield 35, 3) := by decide +kernel
theorem dd_Fi_reckonedWith_24 : decode cc_Fi_reckonedWith 24 = .ok (.getfield 169, 3) := by decide +kernel
theorem dd_Fi_reckonedWith_27 : decode cc_Fi_reckonedWith 27 = .ok (.iconst 0, 1) := by decide +kernel
theorem dd_Fi_reckonedWith_28 : decode cc_Fi_reckonedWith 28 = .ok (.aload_n 0, 1) := by decide +kernel
theorem dd_Fi_reckonedWith_29 : decode cc_Fi_reckonedWith 29 = .ok (.getfield 64, 3) := by decide +kernel
theorem dd_Fi_reckonedWith_32 : decode cc_Fi_reckonedWith 32 = .ok (.iconst 0, 1) := by decide +kernel
theorem dd_Fi_reckonedWith_33 : decode cc_Fi_reckonedWith 33 = .ok (.iload_n 3, 1) := by decide +kernel
theorem dd_Fi_reckonedWith_34 : decode cc_Fi_reckonedWith 34 = .ok (.invokestatic 114, 3) := by decide +kernel
theorem dd_Fi_reckonedWith_37 : decode cc_Fi_reckonedWith 37 = .ok (.aload_n 0, 1) := by decide +kernel
theorem dd_Fi_reckonedWith_38 : decode cc_Fi_reckonedWith 38 = .ok (.getfield 64, 3) := by decide +kernel
theorem dd_Fi_reckonedWith_41 : decode cc_Fi_reckonedWith 41 = .ok (.iload_n 3, 1) := by decide +kernel
theorem dd_Fi_reckonedWith_42 : decode cc_Fi_reckonedWith 42 = .ok (.iload_n 2, 1) := by decide +kernel
theorem dd_Fi_reckonedWith_43 : decode cc_Fi_reckonedWith 43 = .ok (.iastore, 1) := by decide +kernel
theorem dd_Fi_reckonedWith_44 : decode cc_Fi_reckonedWith 44 = .ok (.aload_n 1, 1) := by decide +kernel
theorem dd_Fi_reckonedWith_45 : decode cc_Fi_reckonedWith 45 = .ok (.aload_n 0, 1) := by decide +kernel
theorem dd_Fi_reckonedWith_46 : decode cc_Fi_reckonedWith 46 = .ok (.getfield 64, 3) := by decide +kernel
theorem dd_Fi_reckonedWith_49 : decode cc_Fi_reckonedWith 49 = .ok (.iload_n 3, 1) := by decide +kernel
theorem dd_Fi_reckonedWith_50 : decode cc_Fi_reckonedWith 50 = .ok (.iconst 1, 1) := by decide +kernel
theorem dd_Fi_reckonedWith_51 : decode cc_Fi_reckonedWith 51 = .ok (.iadd, 1) := by decide +kernel
theorem dd_Fi_reckonedWith_52 : decode cc_Fi_reckonedWith 52 = .ok (.invokevirtual 314, 3) := by decide +kernel
theorem dd_Fi_reckonedWith_55 : decode cc_Fi_reckonedWith 55 = .ok (.ireturn, 1) := by decide +kernel
set_option maxRecDepth 100000 in
set_option maxHeartbeats 4000000 in
theorem ct_Fi_reckonedWith (l : Launch) (E : gf_E) (g f : Int) (μ : gf_M) (hg : gf_oGd g) (hg61 : g ≠ 62) (hG : gf_okG μ g) (hf : 0 ≤ f ∧ f ≤ 9) (hs : 0 ≤ μ 41 1 ∧ μ 41 1 < 8) (hF : gf_okF μ 42 (μ 41 1)) : gf_Mi l E yy_Fi_reckonedWith cc_Fi_reckonedWith 4 .int (gf_rm 3 69) 81 gf_ref μ [.ref (gf_ad E 0), .ref (gf_ad E g), .int (gf_i f)] (fun r μ' => (r = pf_reck (μ g 0) (μ g 1) (μ g 2) (pf_apd (μ 42) (μ 41 1) f) (μ 41 1 + 1) ∧ 0 ≤ r ∧ r ≤ 10) ∧ ∀ x y : Int, x ≠ 62 → μ' x y = μ x y) := by
  refine gf_mi (by decide +kernel) (Nat.le_of_ble_eq_true rfl) (by decide) (fun X Q hlx C hQ => ?_)
  subst hlx
  replace C : gf_C X E cc_Fi_reckonedWith 4 "GuardFigures" (gf_rm 3 69) := C
  show gf_G X E Q 4 gf_φ μ 0 [(0, .ref (gf_ad E 0)), (1, .ref (gf_ad E g)), (2, .int (gf_i f))] []
  refine gf_aload_n C dd_Fi_reckonedWith_0 0 rfl ?_
  refine gf_getA (r := 41) C gf_cl6 fl_Fi_35 dd_Fi_reckonedWith_1 rfl (show gf_is 81 0 0 6 17 by decide) (by decide) (by decide) ?_
  refine gf_getI (z := 1) C gf_cl5 fl_Fi_168 dd_Fi_reckonedWith_4 rfl rfl (show gf_is 81 41 0 5 5 by decide) (fun hv4 => ?_)
  refine gf_nm (fun x7 hx7 => ?_)
  refine gf_istore_n (lv' := [(3, .int (gf_i x7)), (0, .ref (gf_ad E 0)), (1, .ref (gf_ad E g)), (2, .int (gf_i f))]) C dd_Fi_reckonedWith_7 (by decide) rfl ?_
  refine gf_iload_n C dd_Fi_reckonedWith_8 0 rfl ?_
  refine gf_aload_n C dd_Fi_reckonedWith_9 1 rfl ?_
  refine gf_getA (r := 62) C gf_cl6 fl_Fi_64 dd_Fi_reckonedWith_10 rfl (show gf_is 81 0 0 6 17 by decide) (by decide) (by decide) ?_
  refine gf_alen 1 C dd_Fi_reckonedWith_13 (show gf_is 81 62 1 0 8 by decide) (by decide) ?_
  refine gf_icmp_lt 20 C dd_Fi_reckonedWith_14 (by decide) (by omega) (by omega) (fun h14 => ?_) (fun h14 => ?_)
  · skip
    refine gf_aload_n C dd_Fi_reckonedWith_20 1 rfl ?_
    refine gf_getA (r := 41) C gf_cl6 fl_Fi_35 dd_Fi_reckonedWith_21 rfl (show gf_is 81 0 0 6 17 by decide) (by decide) (by decide) ?_
    refine gf_getA (r := 42) C gf_cl5 fl_Fi_169 dd_Fi_reckonedWith_24 rfl (show gf_is 81 41 0 5 5 by decide) (by decide) (by decide) ?_
    refine gf_iconst C dd_Fi_reckonedWith_27 ?_
    refine gf_aload_n C dd_Fi_reckonedWith_28 1 rfl ?_
    refine gf_getA (r := 62) C gf_cl6 fl_Fi_64 dd_Fi_reckonedWith_29 rfl (show gf_is 81 0 0 6 17 by decide) (by decide) (by decide) ?_
    refine gf_iconst C dd_Fi_reckonedWith_32 ?_
    refine gf_iload_n C dd_Fi_reckonedWith_33 0 rfl ?_
    refine gf_copy (x := 0) (y := 0) (n := x7) rfl C (gf_mem 333 (by decide +kernel) (by decide +kernel)) gf_wCp.1 gf_wCp.2.1 gf_wCp.2.2 (by decide) (by decide +kernel) dd_Fi_reckonedWith_34 (show gf_is 81 42 1 0 8 by decide) (show gf_is 81 62 1 0 8 by decide) (by omega) ?_
    refine gf_nmM (fun m34 hm34 => ?_)
    refine gf_aload_n C dd_Fi_reckonedWith_37 1 rfl ?_
    refine gf_getA (r := 62) C gf_cl6 fl_Fi_64 dd_Fi_reckonedWith_38 rfl (show gf_is 81 0 0 6 17 by decide) (by decide) (by decide) ?_
    refine gf_iload_n C dd_Fi_reckonedWith_41 0 rfl ?_
    refine gf_iload_n C dd_Fi_reckonedWith_42 3 rfl ?_
    refine gf_iast C dd_Fi_reckonedWith_43 (show gf_is 81 62 1 0 8 by decide) (by omega) (by omega) ?_
    refine gf_nmM (fun m43 hm43 => ?_)
    have e43 : ∀ x y : Int, x ≠ 62 → m43 x y = μ x y := fun x y h => by rw [hm43, gf_up_k h, hm34]; simp [gf_cp, h]
    have c43 : ∀ j : Int, 0 ≤ j → j < x7 + 1 → m43 62 j = pf_apd (μ 42) (μ 41 1) f j := fun j h0 h1 => by
      rw [hm43]
      unfold pf_apd
      by_cases e : j = x7
      · rw [e, gf_up_s, if_pos hx7]
      · rw [gf_up_j e, if_neg (by omega), hm34]
        unfold gf_cp
        rw [if_pos ⟨rfl, by omega, by omega⟩]
        congr 1
        omega
    have hG43 : gf_okG m43 g := by unfold gf_okG; rw [e43 g 0 hg61, e43 g 1 hg61, e43 g 2 hg61]; exact hG
    have hF43 : gf_okF m43 62 (x7 + 1) := fun j h0 h1 => by
      rw [c43 j h0 h1]
      unfold pf_apd
      split
      · exact hf
      · exact hF j h0 (by omega)
    refine gf_aload_n C dd_Fi_reckonedWith_44 2 rfl ?_
    refine gf_aload_n C dd_Fi_reckonedWith_45 1 rfl ?_
    refine gf_getA (r := 62) C gf_cl6 fl_Fi_64 dd_Fi_reckonedWith_46 rfl (show gf_is 81 0 0 6 17 by decide) (by decide) (by decide) ?_
    refine gf_iload_n C dd_Fi_reckonedWith_49 0 rfl ?_
    refine gf_iconst C dd_Fi_reckonedWith_50 ?_
    refine gf_iadd C dd_Fi_reckonedWith_51 ?_
    refine gf_callVi (st := []) (As := [.ref (gf_ad E 62), .int (gf_i (x7 + 1))]) C wk_Fi_314 gf_cl0 hg (ct_Gd_reckon (gf_xl X) E g 62 (x7 + 1) 8 m43 hg (hG43) ((show gf_is 81 62 1 0 8 by decide)) (by omega) (hF43)) rfl ⟨rfl, rfl, rfl, rfl⟩ (Nat.le_of_ble_eq_true rfl) rfl dd_Fi_reckonedWith_52 (fun r52 m52 hR52 hp52 => ?_)
    have hr52 := hp52.1
    refine gf_pm hp52.2 ?_
    refine gf_iret C hQ dd_Fi_reckonedWith_55 (by omega) ?_
    refine ⟨⟨?_, by omega, by omega⟩, e43⟩
    rw [hr52.1, e43 g 0 hg61, e43 g 1 hg61, e43 g 2 hg61, hx7]
    exact pf_reck_congr (fun j h0 h1 => c43 j h0 (by omega))
  · skip
    refine gf_bipush C dd_Fi_reckonedWith_17 (by decide +kernel) ?_
    refine gf_iret C hQ dd_Fi_reckonedWith_19 (by omega) ?_
    omega
