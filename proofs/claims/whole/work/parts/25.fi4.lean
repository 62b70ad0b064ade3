/-! GuardFigures: guards told of, parts, counts -/
theorem dd_Fi_tellUnseen_0 : decode cc_Fi_tellUnseen 0 = .ok (.aload_n 0, 1) := by decide +kernel
theorem dd_Fi_tellUnseen_1 : decode cc_Fi_tellUnseen 1 = .ok (.iload_n 1, 1) := by decide +kernel
theorem dd_Fi_tellUnseen_2 : decode cc_Fi_tellUnseen 2 = .ok (.invokevirtual 143, 3) := by decide +kernel
theorem dd_Fi_tellUnseen_5 : decode cc_Fi_tellUnseen 5 = .ok (.ifCond .ne 5, 3) := by decide +kernel
theorem dd_Fi_tellUnseen_8 : decode cc_Fi_tellUnseen 8 = .ok (.iconst (-1), 1) := by decide +kernel
theorem dd_Fi_tellUnseen_9 : decode cc_Fi_tellUnseen 9 = .ok (.ireturn, 1) := by decide +kernel
theorem dd_Fi_tellUnseen_10 : decode cc_Fi_tellUnseen 10 = .ok (.aload_n 0, 1) := by decide +kernel
theorem dd_Fi_tellUnseen_11 : decode cc_Fi_tellUnseen 11 = .ok (.getfield 49, 3) := by decide +kernel
theorem dd_Fi_tellUnseen_14 : decode cc_Fi_tellUnseen 14 = .ok (.aload_n 0, 1) := by decide +kernel
theorem dd_Fi_tellUnseen_15 : decode cc_Fi_tellUnseen 15 = .ok (.getfield 35, 3) := by decide +kernel
theorem dd_Fi_tellUnseen_18 : decode cc_Fi_tellUnseen 18 = .ok (.aload_n 0, 1) := by decide +kernel
theorem dd_Fi_tellUnseen_19 : decode cc_Fi_tellUnseen 19 = .ok (.getfield 23, 3) := by decide +kernel
theorem dd_Fi_tellUnseen_22 : decode cc_Fi_tellUnseen 22 = .ok (.iload_n 1, 1) := by decide +kernel
theorem dd_Fi_tellUnseen_23 : decode cc_Fi_tellUnseen 23 = .ok (.iload_n 1, 1) := by decide +kernel
theorem dd_Fi_tellUnseen_24 : decode cc_Fi_tellUnseen 24 = .ok (.iconst 1, 1) := by decide +kernel
theorem dd_Fi_tellUnseen_25 : decode cc_Fi_tellUnseen 25 = .ok (.iadd, 1) := by decide +kernel
theorem dd_Fi_tellUnseen_26 : decode cc_Fi_tellUnseen 26 = .ok (.invokevirtual 198, 3) := by decide +kernel
theorem dd_Fi_tellUnseen_29 : decode cc_Fi_tellUnseen 29 = .ok (.aload_n 0, 1) := by decide +kernel
theorem dd_Fi_tellUnseen_30 : decode cc_Fi_tellUnseen 30 = .ok (.getfield 49, 3) := by decide +kernel
theorem dd_Fi_tellUnseen_33 : decode cc_Fi_tellUnseen 33 = .ok (.iload_n 1, 1) := by decide +kernel
theorem dd_Fi_tellUnseen_34 : decode cc_Fi_tellUnseen 34 = .ok (.iload_n 2, 1) := by decide +kernel
theorem dd_Fi_tellUnseen_35 : decode cc_Fi_tellUnseen 35 = .ok (.invokevirtual 302, 3) := by decide +kernel
theorem dd_Fi_tellUnseen_38 : decode cc_Fi_tellUnseen 38 = .ok (.istore_n 3, 1) := by decide +kernel
theorem dd_Fi_tellUnseen_39 : decode cc_Fi_tellUnseen 39 = .ok (.iload_n 3, 1) := by decide +kernel
theorem dd_Fi_tellUnseen_40 : decode cc_Fi_tellUnseen 40 = .ok (.ifCond .ne 6, 3) := by decide +kernel
theorem dd_Fi_tellUnseen_43 : decode cc_Fi_tellUnseen 43 = .ok (.bipush (-9), 2) := by decide +kernel
theorem dd_Fi_tellUnseen_45 : decode cc_Fi_tellUnseen 45 = .ok (.ireturn, 1) := by decide +kernel
theorem dd_Fi_tellUnseen_46 : decode cc_Fi_tellUnseen 46 = .ok (.aload_n 0, 1) := by decide +kernel
theorem dd_Fi_tellUnseen_47 : decode cc_Fi_tellUnseen 47 = .ok (.aload_n 0, 1) := by decide +kernel
theorem dd_Fi_tellUnseen_48 : decode cc_Fi_tellUnseen 48 = .ok (.getfield 49, 3) := by decide +kernel
theorem dd_Fi_tellUnseen_51 : decode cc_Fi_tellUnseen 51 = .ok (.iload_n 1, 1) := by decide +kernel
theorem dd_Fi_tellUnseen_52 : decode cc_Fi_tellUnseen 52 = .ok (.iload_n 2, 1) := by decide +kernel
theorem dd_Fi_tellUnseen_53 : decode cc_Fi_tellUnseen 53 = .ok (.invokevirtual 304, 3) := by decide +kernel
theorem dd_Fi_tellUnseen_56 : decode cc_Fi_tellUnseen 56 = .ok (.putfield 205, 3) := by decide +kernel
theorem dd_Fi_tellUnseen_59 : decode cc_Fi_tellUnseen 59 = .ok (.iload_n 3, 1) := by decide +kernel
theorem dd_Fi_tellUnseen_60 : decode cc_Fi_tellUnseen 60 = .ok (.ireturn, 1) := by decide +kernel
set_option maxRecDepth 100000 in
set_option maxHeartbeats 4000000 in
theorem ct_Fi_tellUnseen (l : Launch) (E : gf_E) (i s : Int) (μ : gf_M) (hi : gf_R i) (hss : 0 ≤ s ∧ s ≤ 2) (hc7 : 0 ≤ μ 0 3 ∧ μ 0 3 ≤ 7) (hG : gf_okGs μ (μ 0 3)) (hs : 0 ≤ μ 41 1 ∧ μ 41 1 ≤ 8) (hF : gf_okF μ 42 (μ 41 1)) : gf_Mi l E yy_Fi_tellUnseen cc_Fi_tellUnseen 4 .int (gf_rm 4 95) 81 gf_ref μ [.ref (gf_ad E 0), .int (gf_i i), .int (gf_i s)] (fun r μ' => (¬ (0 ≤ i ∧ i < μ 0 3) → r = -1 ∧ μ' = μ) ∧ (0 ≤ i ∧ i < μ 0 3 → (s = 0 → (pf_unS μ i.toNat = [] → r = -9 ∧ gf_sc μ' μ) ∧ (pf_unS μ i.toNat ≠ [] → r = ((pf_unS μ i.toNat).length : Int) ∧ gf_sc μ' (gf_tl μ ((pf_unS μ i.toNat).head?.getD (-9))))) ∧ (s ≠ 0 → (pf_unX μ s i.toNat = [] → r = -9 ∧ gf_sc μ' μ) ∧ (pf_unX μ s i.toNat ≠ [] → r = ((pf_unX μ s i.toNat).length : Int) ∧ gf_sc μ' (gf_tl μ ((pf_unX μ s i.toNat).head?.getD (-9))))))) := by
  refine gf_mi (by decide +kernel) (Nat.le_of_ble_eq_true rfl) (by decide) (fun X Q hlx C hQ => ?_)
  subst hlx
  replace C : gf_C X E cc_Fi_tellUnseen 4 "GuardFigures" (gf_rm 4 95) := C
  show gf_G X E Q 4 gf_φ μ 0 [(0, .ref (gf_ad E 0)), (1, .int (gf_i i)), (2, .int (gf_i s))] []
  have h88 := pf_T_88 hs hF
  refine gf_aload_n C dd_Fi_tellUnseen_0 0 rfl ?_
  refine gf_iload_n C dd_Fi_tellUnseen_1 1 rfl ?_
  refine gf_callVi (st := []) (As := [.int (gf_i i)]) C wk_Fi_143 gf_cl6 (show gf_is 81 0 0 6 17 by decide) (ct_Fi_isGuard (gf_xl X) E i μ (by omega)) rfl ⟨rfl, rfl, rfl, rfl⟩ (Nat.le_of_ble_eq_true rfl) rfl dd_Fi_tellUnseen_2 (fun r2 m2 hR2 hp2 => ?_)
  have hr2 := hp2.1
  refine gf_pm hp2.2 ?_
  refine gf_if_ne 10 C dd_Fi_tellUnseen_5 (by decide) (by omega) (fun h5 => ?_) (fun h5 => ?_)
  · skip
    have hin : 0 ≤ i ∧ i < μ 0 3 := by have := hr2.1; have := hr2.2; omega
    refine gf_aload_n C dd_Fi_tellUnseen_10 0 rfl ?_
    refine gf_getA (r := 53) C gf_cl6 fl_Fi_49 dd_Fi_tellUnseen_11 rfl (show gf_is 81 0 0 6 17 by decide) (by decide) (by decide) ?_
    refine gf_aload_n C dd_Fi_tellUnseen_14 0 rfl ?_
    refine gf_getA (r := 41) C gf_cl6 fl_Fi_35 dd_Fi_tellUnseen_15 rfl (show gf_is 81 0 0 6 17 by decide) (by decide) (by decide) ?_
    refine gf_aload_n C dd_Fi_tellUnseen_18 0 rfl ?_
    refine gf_getA (r := 23) C gf_cl6 fl_Fi_23 dd_Fi_tellUnseen_19 rfl (show gf_is 81 0 0 6 17 by decide) (by decide) (by decide) ?_
    refine gf_iload_n C dd_Fi_tellUnseen_22 1 rfl ?_
    refine gf_iload_n C dd_Fi_tellUnseen_23 1 rfl ?_
    refine gf_iconst C dd_Fi_tellUnseen_24 ?_
    refine gf_iadd C dd_Fi_tellUnseen_25 ?_
    refine gf_callVv (st := []) (As := [.ref (gf_ad E 41), .ref (gf_ad E 23), .int (gf_i i), .int (gf_i (i + 1))]) C wk_Fi_198 gf_cl4 (show gf_is 81 53 0 4 6 by decide) (ct_Wa_lookI (gf_xl X) E i (i + 1) (μ 0 3) μ (by omega) (by omega) (by omega) (by omega) hG hs hF) rfl ⟨rfl, rfl, rfl, rfl⟩ (Nat.le_of_ble_eq_true rfl) rfl dd_Fi_tellUnseen_26 (fun m26 hp26 => ?_)
    have hfr : ∀ x y : Int, ¬ (53 ≤ x ∧ x ≤ 58) → m26 x y = μ x y := hp26.2.2.2.2.2
    obtain ⟨Sg, Pr, Po, hT, hst, hen, hf0, hf1⟩ : ∃ Sg Pr Po : List (Int × (Int → Int)), pf_T (μ 42) (μ 41 1) = Pr ++ Sg ++ Po ∧ ((s = 0 ∧ Pr.length = 0) ∨ (s ≠ 0 ∧ m26 56 (s - 1) = (Pr.length : Int))) ∧ m26 56 s = (Pr.length : Int) + (Sg.length : Int) ∧ (s = 0 → ∃ c : Int → Int → Int, Sg.filter (pf_uf μ i.toNat) = (pf_unS μ i.toNat).map (fun m => (m, c m))) ∧ (s ≠ 0 → ∃ c : Int → Int → Int, Sg.filter (pf_uf μ i.toNat) = (pf_unX μ s i.toNat).map (fun m => (m, c m))) := by
      rcases (show s = 0 ∨ s = 1 ∨ s = 2 by omega) with h | h | h
      · subst h
        exact ⟨_, [], _, (by simp only [pf_T, List.nil_append, List.append_assoc]; rfl), Or.inl ⟨rfl, rfl⟩, by rw [List.length_map]; simpa using hp26.2.2.1, fun _ => ⟨_, pf_unS_S μ i.toNat⟩, fun h => absurd rfl h⟩
      · subst h
        exact ⟨_, _, _, rfl, Or.inr ⟨by decide, by rw [List.length_map]; exact hp26.2.2.1⟩, by rw [List.length_map, List.length_map]; exact hp26.2.2.2.1, fun h => absurd h (by decide), fun _ => ⟨_, pf_unX_S μ 1 i.toNat⟩⟩
      · subst h
        exact ⟨_, _, [], (by rw [List.append_nil]; rfl), Or.inr ⟨by decide, by rw [List.length_append, List.length_map, List.length_map]; exact hp26.2.2.2.1⟩, by rw [List.length_append, List.length_map, List.length_map, List.length_map]; exact hp26.2.2.2.2.1, fun h => absurd h (by decide), fun _ => ⟨_, pf_unX_S μ 2 i.toNat⟩⟩
    refine gf_aload_n C dd_Fi_tellUnseen_29 0 rfl ?_
    refine gf_getA (r := 53) C gf_cl6 fl_Fi_49 dd_Fi_tellUnseen_30 rfl (show gf_is 81 0 0 6 17 by decide) (by decide) (by decide) ?_
    refine gf_iload_n C dd_Fi_tellUnseen_33 1 rfl ?_
    refine gf_iload_n C dd_Fi_tellUnseen_34 2 rfl ?_
    refine gf_callVi (st := []) (As := [.int (gf_i i), .int (gf_i s)]) C wk_Fi_302 gf_cl4 (show gf_is 81 53 0 4 6 by decide) (ct_Wa_unseen (gf_xl X) E i s Sg Pr Po m26 μ i.toNat (i + 1).toNat hp26 (by omega) (by omega) hss hT hst hen h88) rfl ⟨rfl, rfl, rfl, rfl⟩ (Nat.le_of_ble_eq_true rfl) rfl dd_Fi_tellUnseen_35 (fun r35 m35 hR35 hp35 => ?_)
    have hr35 := hp35.1
    refine gf_pm hp35.2 ?_
    refine gf_istore_n (lv' := [(3, .int (gf_i r35)), (0, .ref (gf_ad E 0)), (1, .int (gf_i i)), (2, .int (gf_i s))]) C dd_Fi_tellUnseen_38 (by decide) rfl ?_
    refine gf_iload_n C dd_Fi_tellUnseen_39 0 rfl ?_
    refine gf_if_ne 46 C dd_Fi_tellUnseen_40 (by decide) (by omega) (fun h40 => ?_) (fun h40 => ?_)
    · skip
      refine gf_aload_n C dd_Fi_tellUnseen_46 1 rfl ?_
      refine gf_aload_n C dd_Fi_tellUnseen_47 1 rfl ?_
      refine gf_getA (r := 53) C gf_cl6 fl_Fi_49 dd_Fi_tellUnseen_48 rfl (show gf_is 81 0 0 6 17 by decide) (by decide) (by decide) ?_
      refine gf_iload_n C dd_Fi_tellUnseen_51 2 rfl ?_
      refine gf_iload_n C dd_Fi_tellUnseen_52 3 rfl ?_
      refine gf_callVi (st := [.ref (gf_ad E 0)]) (As := [.int (gf_i i), .int (gf_i s)]) C wk_Fi_304 gf_cl4 (show gf_is 81 53 0 4 6 by decide) (ct_Wa_firstUnseen (gf_xl X) E i s Sg Pr Po m26 μ i.toNat (i + 1).toNat hp26 (by omega) (by omega) hss hT hst hen h88) rfl ⟨rfl, rfl, rfl, rfl⟩ (Nat.le_of_ble_eq_true rfl) rfl dd_Fi_tellUnseen_53 (fun r53 m53 hR53 hp53 => ?_)
      have hr53 := hp53.1
      refine gf_pm hp53.2 ?_
      refine gf_putI (z := 12) C gf_cl6 fl_Fi_205 dd_Fi_tellUnseen_56 rfl rfl rfl (by decide +kernel) (show gf_is 81 0 0 6 17 by decide) (by omega) ?_
      refine gf_nmM (fun m56 hm56 => ?_)
      refine gf_iload_n C dd_Fi_tellUnseen_59 0 rfl ?_
      refine gf_iret C hQ dd_Fi_tellUnseen_60 (by omega) ?_
      refine ⟨fun h => absurd hin h, fun _ => ⟨fun h0 => ?_, fun h0 => ?_⟩⟩
      · obtain ⟨c, hc⟩ := hf0 h0
        have hl := hr35.1
        have hh := hr53
        rw [hc, List.length_map] at hl
        rw [hc] at hh
        refine ⟨fun he => ?_, fun hne => ⟨hl, fun a b h => ?_⟩⟩
        · rw [he] at hl; simp at hl; omega
        · rw [hm56, hh]
          unfold gf_tl
          rw [show (((pf_unS μ i.toNat).map (fun m => (m, c m))).head?.map (fun q => q.1)).getD (-9) = (pf_unS μ i.toNat).head?.getD (-9) by cases pf_unS μ i.toNat <;> rfl]
          by_cases e : a = 0 ∧ b = 12
          · rw [e.1, e.2, gf_up_s, gf_up_s]
          · rw [gf_up_o e, gf_up_o e]; exact hfr a b (by omega)
      · obtain ⟨c, hc⟩ := hf1 h0
        have hl := hr35.1
        have hh := hr53
        rw [hc, List.length_map] at hl
        rw [hc] at hh
        refine ⟨fun he => ?_, fun hne => ⟨hl, fun a b h => ?_⟩⟩
        · rw [he] at hl; simp at hl; omega
        · rw [hm56, hh]
          unfold gf_tl
          rw [show (((pf_unX μ s i.toNat).map (fun m => (m, c m))).head?.map (fun q => q.1)).getD (-9) = (pf_unX μ s i.toNat).head?.getD (-9) by cases pf_unX μ s i.toNat <;> rfl]
          by_cases e : a = 0 ∧ b = 12
          · rw [e.1, e.2, gf_up_s, gf_up_s]
          · rw [gf_up_o e, gf_up_o e]; exact hfr a b (by omega)
    · skip
      refine gf_bipush C dd_Fi_tellUnseen_43 (by decide +kernel) ?_
      refine gf_iret C hQ dd_Fi_tellUnseen_45 (by omega) ?_
      refine ⟨fun h => absurd hin h, fun _ => ⟨fun h0 => ?_, fun h0 => ?_⟩⟩
      · obtain ⟨c, hc⟩ := hf0 h0
        have hl := hr35.1
        rw [hc, List.length_map] at hl
        refine ⟨fun _ => ⟨rfl, fun a b h => hfr a b (by omega)⟩, fun hne => ?_⟩
        have := List.length_pos_iff.mpr hne
        omega
      · obtain ⟨c, hc⟩ := hf1 h0
        have hl := hr35.1
        rw [hc, List.length_map] at hl
        refine ⟨fun _ => ⟨rfl, fun a b h => hfr a b (by omega)⟩, fun hne => ?_⟩
        have := List.length_pos_iff.mpr hne
        omega
  · skip
    have hin : ¬ (0 ≤ i ∧ i < μ 0 3) := by have := hr2.1; have := hr2.2; omega
    refine gf_iconst C dd_Fi_tellUnseen_8 ?_
    refine gf_iret C hQ dd_Fi_tellUnseen_9 (by omega) ?_
    exact ⟨fun _ => ⟨rfl, rfl⟩, fun h => absurd h hin⟩

theorem dd_Fi_ofGuard_0 : decode cc_Fi_ofGuard 0 = .ok (.iload_n 2, 1) := by decide +kernel
theorem dd_Fi_ofGuard_1 : decode cc_Fi_ofGuard 1 = .ok (.tableswitch 72 0 3 #[31, 41, 51, 61], 31) := by decide +kernel
theorem dd_Fi_ofGuard_32 : decode cc_Fi_ofGuard 32 = .ok (.aload_n 0, 1) := by decide +kernel
theorem dd_Fi_ofGuard_33 : decode cc_Fi_ofGuard 33 = .ok (.getfield 23, 3) := by decide +kernel
theorem dd_Fi_ofGuard_36 : decode cc_Fi_ofGuard 36 = .ok (.iload_n 1, 1) := by decide +kernel
theorem dd_Fi_ofGuard_37 : decode cc_Fi_ofGuard 37 = .ok (.aaload, 1) := by decide +kernel
theorem dd_Fi_ofGuard_38 : decode cc_Fi_ofGuard 38 = .ok (.getfield 156, 3) := by decide +kernel
theorem dd_Fi_ofGuard_41 : decode cc_Fi_ofGuard 41 = .ok (.ireturn, 1) := by decide +kernel
theorem dd_Fi_ofGuard_42 : decode cc_Fi_ofGuard 42 = .ok (.aload_n 0, 1) := by decide +kernel
theorem dd_Fi_ofGuard_43 : decode cc_Fi_ofGuard 43 = .ok (.getfield 23, 3) := by decide +kernel
theorem dd_Fi_ofGuard_46 : decode cc_Fi_ofGuard 46 = .ok (.iload_n 1, 1) := by decide +kernel
theorem dd_Fi_ofGuard_47 : decode cc_Fi_ofGuard 47 = .ok (.aaload, 1) := by decide +kernel
theorem dd_Fi_ofGuard_48 : decode cc_Fi_ofGuard 48 = .ok (.getfield 248, 3) := by decide +kernel
theorem dd_Fi_ofGuard_51 : decode cc_Fi_ofGuard 51 = .ok (.ireturn, 1) := by decide +kernel
theorem dd_Fi_ofGuard_52 : decode cc_Fi_ofGuard 52 = .ok (.aload_n 0, 1) := by decide +kernel
theorem dd_Fi_ofGuard_53 : decode cc_Fi_ofGuard 53 = .ok (.getfield 23, 3) := by decide +kernel
theorem dd_Fi_ofGuard_56 : decode cc_Fi_ofGuard 56 = .ok (.iload_n 1, 1) := by decide +kernel
theorem dd_Fi_ofGuard_57 : decode cc_Fi_ofGuard 57 = .ok (.aaload, 1) := by decide +kernel
theorem dd_Fi_ofGuard_58 : decode cc_Fi_ofGuard 58 = .ok (.getfield 321, 3) := by decide +kernel
theorem dd_Fi_ofGuard_61 : decode cc_Fi_ofGuard 61 = .ok (.ireturn, 1) := by decide +kernel
theorem dd_Fi_ofGuard_62 : decode cc_Fi_ofGuard 62 = .ok (.aload_n 0, 1) := by decide +kernel
theorem dd_Fi_ofGuard_63 : decode cc_Fi_ofGuard 63 = .ok (.aload_n 0, 1) := by decide +kernel
theorem dd_Fi_ofGuard_64 : decode cc_Fi_ofGuard 64 = .ok (.getfield 23, 3) := by decide +kernel
theorem dd_Fi_ofGuard_67 : decode cc_Fi_ofGuard 67 = .ok (.iload_n 1, 1) := by decide +kernel
theorem dd_Fi_ofGuard_68 : decode cc_Fi_ofGuard 68 = .ok (.aaload, 1) := by decide +kernel
theorem dd_Fi_ofGuard_69 : decode cc_Fi_ofGuard 69 = .ok (.invokevirtual 159, 3) := by decide +kernel
theorem dd_Fi_ofGuard_72 : decode cc_Fi_ofGuard 72 = .ok (.ireturn, 1) := by decide +kernel
theorem dd_Fi_ofGuard_73 : decode cc_Fi_ofGuard 73 = .ok (.aload_n 0, 1) := by decide +kernel
theorem dd_Fi_ofGuard_74 : decode cc_Fi_ofGuard 74 = .ok (.getfield 49, 3) := by decide +kernel
theorem dd_Fi_ofGuard_77 : decode cc_Fi_ofGuard 77 = .ok (.aload_n 0, 1) := by decide +kernel
theorem dd_Fi_ofGuard_78 : decode cc_Fi_ofGuard 78 = .ok (.getfield 35, 3) := by decide +kernel
theorem dd_Fi_ofGuard_81 : decode cc_Fi_ofGuard 81 = .ok (.aload_n 0, 1) := by decide +kernel
theorem dd_Fi_ofGuard_82 : decode cc_Fi_ofGuard 82 = .ok (.getfield 23, 3) := by decide +kernel
theorem dd_Fi_ofGuard_85 : decode cc_Fi_ofGuard 85 = .ok (.iload_n 1, 1) := by decide +kernel
theorem dd_Fi_ofGuard_86 : decode cc_Fi_ofGuard 86 = .ok (.iload_n 1, 1) := by decide +kernel
theorem dd_Fi_ofGuard_87 : decode cc_Fi_ofGuard 87 = .ok (.iconst 1, 1) := by decide +kernel
theorem dd_Fi_ofGuard_88 : decode cc_Fi_ofGuard 88 = .ok (.iadd, 1) := by decide +kernel
theorem dd_Fi_ofGuard_89 : decode cc_Fi_ofGuard 89 = .ok (.invokevirtual 198, 3) := by decide +kernel
theorem dd_Fi_ofGuard_92 : decode cc_Fi_ofGuard 92 = .ok (.aload_n 0, 1) := by decide +kernel
theorem dd_Fi_ofGuard_93 : decode cc_Fi_ofGuard 93 = .ok (.getfield 49, 3) := by decide +kernel
theorem dd_Fi_ofGuard_96 : decode cc_Fi_ofGuard 96 = .ok (.iload_n 1, 1) := by decide +kernel
theorem dd_Fi_ofGuard_97 : decode cc_Fi_ofGuard 97 = .ok (.iconst 0, 1) := by decide +kernel
theorem dd_Fi_ofGuard_98 : decode cc_Fi_ofGuard 98 = .ok (.invokevirtual 302, 3) := by decide +kernel
theorem dd_Fi_ofGuard_101 : decode cc_Fi_ofGuard 101 = .ok (.ireturn, 1) := by decide +kernel
set_option maxRecDepth 100000 in
set_option maxHeartbeats 4000000 in
theorem ct_Fi_ofGuard (l : Launch) (E : gf_E) (i w : Int) (μ : gf_M) (hi : 0 ≤ i ∧ i < μ 0 3) (hw : 0 ≤ w ∧ w ≤ 4) (hc7 : 0 ≤ μ 0 3 ∧ μ 0 3 ≤ 7) (hG : gf_okGs μ (μ 0 3)) (hs : 0 ≤ μ 41 1 ∧ μ 41 1 ≤ 8) (hF : gf_okF μ 42 (μ 41 1)) : gf_Mi l E yy_Fi_ofGuard cc_Fi_ofGuard 3 .int (gf_rm 4 95) 81 gf_ref μ [.ref (gf_ad E 0), .int (gf_i i), .int (gf_i w)] (fun r μ' => (r = (if w = 0 then μ (24 + i) 0 else if w = 1 then μ (24 + i) 1 else if w = 2 then μ (24 + i) 2 else if w = 3 then pf_reck (μ (24 + i) 0) (μ (24 + i) 1) (μ (24 + i) 2) (μ 42) (μ 41 1) else ((pf_unS μ i.toNat).length : Int)) ∧ 0 ≤ r ∧ r ≤ 85) ∧ gf_sc μ' μ) := by
  refine gf_mi (by decide +kernel) (Nat.le_of_ble_eq_true rfl) (by decide) (fun X Q hlx C hQ => ?_)
  subst hlx
  replace C : gf_C X E cc_Fi_ofGuard 3 "GuardFigures" (gf_rm 4 95) := C
  show gf_G X E Q 3 gf_φ μ 0 [(0, .ref (gf_ad E 0)), (1, .int (gf_i i)), (2, .int (gf_i w))] []
  have h88 := pf_T_88 hs hF
  have hGi := hG i hi.1 hi.2
  refine gf_iload_n C dd_Fi_ofGuard_0 2 rfl ?_
  rcases (show w = 0 ∨ w = 1 ∨ w = 2 ∨ w = 3 ∨ ¬ (0 ≤ w ∧ w ≤ 3) by omega) with hsw1 | hsw1 | hsw1 | hsw1 | hsw1
  · refine gf_cv hsw1 ?_
    refine gf_tblI 32 C dd_Fi_ofGuard_1 (by decide) (by decide) (by decide) rfl (by decide) ?_
    refine gf_aload_n C dd_Fi_ofGuard_32 0 rfl ?_
    refine gf_getA (r := 23) C gf_cl6 fl_Fi_23 dd_Fi_ofGuard_33 rfl (show gf_is 81 0 0 6 17 by decide) (by decide) (by decide) ?_
    refine gf_iload_n C dd_Fi_ofGuard_36 1 rfl ?_
    have ha37 := gf_guard_of (r := i) (by omega)
    refine gf_aald C dd_Fi_ofGuard_37 (show gf_is 81 23 4 4 7 by decide) (by decide) (by omega) ha37.1 (by first | omega | exact ha37.2.1.1 | exact ha37.2.1) ?_
    refine gf_getI (z := 0) C gf_cl0 fl_Fi_156 dd_Fi_ofGuard_38 rfl rfl ha37.2 (fun hv38 => ?_)
    refine gf_iret C hQ dd_Fi_ofGuard_41 (by have := hGi.1; omega) ?_
    exact ⟨⟨by rw [if_pos hsw1], by have := hGi.1; omega, by have := hGi.1; omega⟩, fun _ _ _ => rfl⟩
  · refine gf_cv hsw1 ?_
    refine gf_tblI 42 C dd_Fi_ofGuard_1 (by decide) (by decide) (by decide) rfl (by decide) ?_
    refine gf_aload_n C dd_Fi_ofGuard_42 0 rfl ?_
    refine gf_getA (r := 23) C gf_cl6 fl_Fi_23 dd_Fi_ofGuard_43 rfl (show gf_is 81 0 0 6 17 by decide) (by decide) (by decide) ?_
    refine gf_iload_n C dd_Fi_ofGuard_46 1 rfl ?_
    have ha47 := gf_guard_of (r := i) (by omega)
    refine gf_aald C dd_Fi_ofGuard_47 (show gf_is 81 23 4 4 7 by decide) (by decide) (by omega) ha47.1 (by first | omega | exact ha47.2.1.1 | exact ha47.2.1) ?_
    refine gf_getI (z := 1) C gf_cl0 fl_Fi_248 dd_Fi_ofGuard_48 rfl rfl ha47.2 (fun hv48 => ?_)
    refine gf_iret C hQ dd_Fi_ofGuard_51 (by have := hGi.2.1; omega) ?_
    exact ⟨⟨by rw [if_neg (by omega), if_pos hsw1], by have := hGi.2.1; omega, by have := hGi.2.1; omega⟩, fun _ _ _ => rfl⟩
  · refine gf_cv hsw1 ?_
    refine gf_tblI 52 C dd_Fi_ofGuard_1 (by decide) (by decide) (by decide) rfl (by decide) ?_
    refine gf_aload_n C dd_Fi_ofGuard_52 0 rfl ?_
    refine gf_getA (r := 23) C gf_cl6 fl_Fi_23 dd_Fi_ofGuard_53 rfl (show gf_is 81 0 0 6 17 by decide) (by decide) (by decide) ?_
    refine gf_iload_n C dd_Fi_ofGuard_56 1 rfl ?_
    have ha57 := gf_guard_of (r := i) (by omega)
    refine gf_aald C dd_Fi_ofGuard_57 (show gf_is 81 23 4 4 7 by decide) (by decide) (by omega) ha57.1 (by first | omega | exact ha57.2.1.1 | exact ha57.2.1) ?_
    refine gf_getI (z := 2) C gf_cl0 fl_Fi_321 dd_Fi_ofGuard_58 rfl rfl ha57.2 (fun hv58 => ?_)
    refine gf_iret C hQ dd_Fi_ofGuard_61 (by have := hGi.2.2; omega) ?_
    exact ⟨⟨by rw [if_neg (by omega), if_neg (by omega), if_pos hsw1], by have := hGi.2.2; omega, by have := hGi.2.2; omega⟩, fun _ _ _ => rfl⟩
  · refine gf_cv hsw1 ?_
    refine gf_tblI 62 C dd_Fi_ofGuard_1 (by decide) (by decide) (by decide) rfl (by decide) ?_
    refine gf_aload_n C dd_Fi_ofGuard_62 0 rfl ?_
    refine gf_aload_n C dd_Fi_ofGuard_63 0 rfl ?_
    refine gf_getA (r := 23) C gf_cl6 fl_Fi_23 dd_Fi_ofGuard_64 rfl (show gf_is 81 0 0 6 17 by decide) (by decide) (by decide) ?_
    refine gf_iload_n C dd_Fi_ofGuard_67 1 rfl ?_
    have ha68 := gf_guard_of (r := i) (by omega)
    refine gf_aald C dd_Fi_ofGuard_68 (show gf_is 81 23 4 4 7 by decide) (by decide) (by omega) ha68.1 (by first | omega | exact ha68.2.1.1 | exact ha68.2.1) ?_
    refine gf_callVi (st := []) (As := [.ref (gf_ad E (24 + i))]) C wk_Fi_159 gf_cl6 (show gf_is 81 0 0 6 17 by decide) (ct_Fi_reckoned (gf_xl X) E (24 + i) μ ha68.2 (hGi) (by omega) (hF)) rfl ⟨rfl, rfl, rfl, rfl⟩ (Nat.le_of_ble_eq_true rfl) rfl dd_Fi_ofGuard_69 (fun r69 m69 hR69 hp69 => ?_)
    have hr69 := hp69.1
    refine gf_pm hp69.2 ?_
    refine gf_iret C hQ dd_Fi_ofGuard_72 (by omega) ?_
    exact ⟨⟨by rw [if_neg (by omega), if_neg (by omega), if_neg (by omega), if_pos hsw1]; exact hr69.1, by omega, by omega⟩, fun _ _ _ => rfl⟩
  · refine gf_tblO 73 C dd_Fi_ofGuard_1 (by omega) (by omega) (by decide) ?_
    refine gf_aload_n C dd_Fi_ofGuard_73 0 rfl ?_
    refine gf_getA (r := 53) C gf_cl6 fl_Fi_49 dd_Fi_ofGuard_74 rfl (show gf_is 81 0 0 6 17 by decide) (by decide) (by decide) ?_
    refine gf_aload_n C dd_Fi_ofGuard_77 0 rfl ?_
    refine gf_getA (r := 41) C gf_cl6 fl_Fi_35 dd_Fi_ofGuard_78 rfl (show gf_is 81 0 0 6 17 by decide) (by decide) (by decide) ?_
    refine gf_aload_n C dd_Fi_ofGuard_81 0 rfl ?_
    refine gf_getA (r := 23) C gf_cl6 fl_Fi_23 dd_Fi_ofGuard_82 rfl (show gf_is 81 0 0 6 17 by decide) (by decide) (by decide) ?_
    refine gf_iload_n C dd_Fi_ofGuard_85 1 rfl ?_
    refine gf_iload_n C dd_Fi_ofGuard_86 1 rfl ?_
    refine gf_iconst C dd_Fi_ofGuard_87 ?_
    refine gf_iadd C dd_Fi_ofGuard_88 ?_
    refine gf_callVv (st := []) (As := [.ref (gf_ad E 41), .ref (gf_ad E 23), .int (gf_i i), .int (gf_i (i + 1))]) C wk_Fi_198 gf_cl4 (show gf_is 81 53 0 4 6 by decide) (ct_Wa_lookI (gf_xl X) E i (i + 1) (μ 0 3) μ (by omega) (by omega) (by omega) (by omega) hG hs hF) rfl ⟨rfl, rfl, rfl, rfl⟩ (Nat.le_of_ble_eq_true rfl) rfl dd_Fi_ofGuard_89 (fun m89 hp89 => ?_)
    refine gf_aload_n C dd_Fi_ofGuard_92 0 rfl ?_
    refine gf_getA (r := 53) C gf_cl6 fl_Fi_49 dd_Fi_ofGuard_93 rfl (show gf_is 81 0 0 6 17 by decide) (by decide) (by decide) ?_
    refine gf_iload_n C dd_Fi_ofGuard_96 1 rfl ?_
    refine gf_iconst C dd_Fi_ofGuard_97 ?_
    refine gf_callVi (st := []) (As := [.int (gf_i i), .int (gf_i 0)]) C wk_Fi_302 gf_cl4 (show gf_is 81 53 0 4 6 by decide) (ct_Wa_unseen (gf_xl X) E i 0 ((pf_sl (μ 42) (μ 41 1).toNat).map (fun m => (m, pf_cps (μ 42) m))) ([]) (((pf_ex (μ 42) 1 (μ 41 1 - 1).toNat).map (fun k => (k, pf_cpx (μ 42) k 1))) ++ ((pf_ex (μ 42) 2 (μ 41 1 - 2).toNat).map (fun k => (k, pf_cpx (μ 42) k 2)))) m89 μ (i.toNat) ((i + 1).toNat) hp89 (by omega) (by omega) (by decide) (by simp only [pf_T, List.nil_append, List.append_assoc]) (Or.inl ⟨rfl, rfl⟩) (by rw [List.length_map]; simpa using hp89.2.2.1) h88) rfl ⟨rfl, rfl, rfl, rfl⟩ (Nat.le_of_ble_eq_true rfl) rfl dd_Fi_ofGuard_98 (fun r98 m98 hR98 hp98 => ?_)
    have hr98 := hp98.1
    refine gf_pm hp98.2 ?_
    refine gf_iret C hQ dd_Fi_ofGuard_101 (by omega) ?_
    have hl := hr98.1
    rw [pf_unS_S, List.length_map] at hl
    exact ⟨⟨by rw [if_neg (by omega), if_neg (by omega), if_neg (by omega), if_neg (by omega)]; exact hl, by omega, by omega⟩, fun a b h => hp89.2.2.2.2.2 a b (by omega)⟩
