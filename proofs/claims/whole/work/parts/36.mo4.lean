theorem gm_sc_fr {μ' μ : gf_M} (h : ∀ a b : Int, ¬ (a = 65 ∧ (b = 10 ∨ b = 11 ∨ b = 12)) → a ≠ 72 → μ' a b = μ a b) : gm_sc μ' μ := fun a b hab => by
  unfold gm_scr at hab
  exact h a b (by omega) (by omega)
theorem dd_Mo_fault_0 : decode cc_Mo_fault 0 = .ok (.iload_n 1, 1) := by decide +kernel
theorem dd_Mo_fault_1 : decode cc_Mo_fault 1 = .ok (.invokestatic 90, 3) := by decide +kernel
theorem dd_Mo_fault_4 : decode cc_Mo_fault 4 = .ok (.ifCond .ne 5, 3) := by decide +kernel
theorem dd_Mo_fault_7 : decode cc_Mo_fault 7 = .ok (.iconst (-1), 1) := by decide +kernel
theorem dd_Mo_fault_8 : decode cc_Mo_fault 8 = .ok (.ireturn, 1) := by decide +kernel
theorem dd_Mo_fault_9 : decode cc_Mo_fault 9 = .ok (.aload_n 0, 1) := by decide +kernel
theorem dd_Mo_fault_10 : decode cc_Mo_fault 10 = .ok (.getfield 16, 3) := by decide +kernel
theorem dd_Mo_fault_13 : decode cc_Mo_fault 13 = .ok (.iload_n 1, 1) := by decide +kernel
theorem dd_Mo_fault_14 : decode cc_Mo_fault 14 = .ok (.iaload, 1) := by decide +kernel
theorem dd_Mo_fault_15 : decode cc_Mo_fault 15 = .ok (.ifCond .ge 11, 3) := by decide +kernel
theorem dd_Mo_fault_18 : decode cc_Mo_fault 18 = .ok (.aload_n 0, 1) := by decide +kernel
theorem dd_Mo_fault_19 : decode cc_Mo_fault 19 = .ok (.iconst 1, 1) := by decide +kernel
theorem dd_Mo_fault_20 : decode cc_Mo_fault 20 = .ok (.invokevirtual 77, 3) := by decide +kernel
theorem dd_Mo_fault_23 : decode cc_Mo_fault 23 = .ok (.goto 8, 3) := by decide +kernel
theorem dd_Mo_fault_26 : decode cc_Mo_fault 26 = .ok (.aload_n 0, 1) := by decide +kernel
theorem dd_Mo_fault_27 : decode cc_Mo_fault 27 = .ok (.iload_n 1, 1) := by decide +kernel
theorem dd_Mo_fault_28 : decode cc_Mo_fault 28 = .ok (.invokevirtual 126, 3) := by decide +kernel
theorem dd_Mo_fault_31 : decode cc_Mo_fault 31 = .ok (.ireturn, 1) := by decide +kernel
set_option maxRecDepth 100000 in
set_option maxHeartbeats 4000000 in
theorem ct_Mo_fault (l : Launch) (E : gf_E) (t : Int) (μ : gf_M) (ht : gf_R t) (hts : ∀ t : Int, 0 ≤ t → t < 4 → -1 ≤ μ 68 t ∧ μ 68 t ≤ 60) (htb : ∀ j : Int, -128 ≤ μ 69 j ∧ μ 69 j ≤ 127)  : gf_Mi l E yy_Mo_fault cc_Mo_fault 2 .int (gf_rm 4 90) 81 gf_ref μ [.ref (gf_ad E 65), .int (gf_i t)] (fun q μ' => (¬ (0 ≤ t ∧ t < 4) → q = -1 ∧ μ' = μ) ∧ (0 ≤ t ∧ t < 4 → (μ 68 t = -1 → q = -3 ∧ μ' = gm_fd μ 1) ∧ (μ 68 t ≠ -1 → q = (pf_pr (fun j => μ 69 (60 * t + j)) (μ 68 t) 61 0 []).1 ∧ gm_sc μ' μ))) := by
  refine gf_mi (by decide +kernel) (Nat.le_of_ble_eq_true rfl) (by decide) (fun X Q hlx C hQ => ?_)
  subst hlx
  replace C : gf_C X E cc_Mo_fault 2 "GuardFiguresModel" (gf_rm 4 90) := C
  show gf_G X E Q 2 gf_φ μ 0 [(0, .ref (gf_ad E 65)), (1, .int (gf_i t))] []
  refine gf_iload_n C dd_Mo_fault_0 1 rfl ?_
  refine gf_callSi (st := []) (As := [.int (gf_i t)]) C wk_Mo_90 (ct_Mo_isText (gf_xl X) E t μ (by omega)) rfl ⟨rfl, rfl, rfl, rfl⟩ (Nat.le_of_ble_eq_true rfl) rfl dd_Mo_fault_1 (fun r1 m1 hR1 hp1 => ?_)
  have hr1 := hp1.1
  refine gf_pm hp1.2 ?_
  refine gf_if_ne 9 C dd_Mo_fault_4 (by decide) (by omega) (fun h4 => ?_) (fun h4 => ?_)
  · skip
    have hin : 0 ≤ t ∧ t < 4 := by omega
    have hrr := hts t hin.1 hin.2
    refine gf_aload_n C dd_Mo_fault_9 0 rfl ?_
    refine gf_getA (r := 68) C gf_cl7 fl_Mo_16 dd_Mo_fault_10 rfl (show gf_is 81 65 0 7 26 by decide) (by decide) (by decide) ?_
    refine gf_iload_n C dd_Mo_fault_13 1 rfl ?_
    refine gf_iald C dd_Mo_fault_14 (show gf_is 81 68 1 0 4 by decide) (by omega) (fun hv14 => ?_)
    refine gf_if_ge 26 C dd_Mo_fault_15 (by decide) (by omega) (fun h15 => ?_) (fun h15 => ?_)
    · skip
      refine gf_aload_n C dd_Mo_fault_26 0 rfl ?_
      refine gf_iload_n C dd_Mo_fault_27 1 rfl ?_
      refine gf_callVi (st := []) (As := [.int (gf_i t)]) C wk_Mo_126 gf_cl7 (show gf_is 81 65 0 7 26 by decide) (ct_Mo_faultOf (gf_xl X) E t (μ 68 t) μ hin rfl (by omega) htb) rfl ⟨rfl, rfl, rfl, rfl⟩ (Nat.le_of_ble_eq_true rfl) rfl dd_Mo_fault_28 (fun r28 m28 hR28 hp28 => ?_)
      refine gf_iret C hQ dd_Mo_fault_31 (by omega) ?_
      first
      | exact ⟨fun h => absurd h (by omega), fun _ => ⟨fun _ => hp20, fun h => absurd h (by omega)⟩⟩
      | exact ⟨fun h => absurd h (by omega), fun _ => ⟨fun h => absurd h (by omega), fun _ => ⟨hp28.1.1, gm_sc_fr hp28.2.2⟩⟩⟩
    · skip
      refine gf_aload_n C dd_Mo_fault_18 0 rfl ?_
      refine gf_iconst C dd_Mo_fault_19 ?_
      refine gf_callVi (st := []) (As := [.int (gf_i 1)]) C wk_Mo_77 gf_cl7 (show gf_is 81 65 0 7 26 by decide) (ct_Mo_find (gf_xl X) E 1 μ (by omega)) rfl ⟨rfl, rfl, rfl, rfl⟩ (Nat.le_of_ble_eq_true rfl) rfl dd_Mo_fault_20 (fun r20 m20 hR20 hp20 => ?_)
      refine gf_goto 31 C dd_Mo_fault_23 (by decide) ?_
      refine gf_iret C hQ dd_Mo_fault_31 (by omega) ?_
      first
      | exact ⟨fun h => absurd h (by omega), fun _ => ⟨fun _ => hp20, fun h => absurd h (by omega)⟩⟩
      | exact ⟨fun h => absurd h (by omega), fun _ => ⟨fun h => absurd h (by omega), fun _ => ⟨hp28.1.1, gm_sc_fr hp28.2.2⟩⟩⟩
  · skip
    refine gf_iconst C dd_Mo_fault_7 ?_
    refine gf_iret C hQ dd_Mo_fault_8 (by omega) ?_
    exact ⟨fun _ => ⟨rfl, rfl⟩, fun h => absurd h (by omega)⟩

theorem dd_Mo_house_0 : decode cc_Mo_house 0 = .ok (.iload_n 1, 1) := by decide +kernel
theorem dd_Mo_house_1 : decode cc_Mo_house 1 = .ok (.invokestatic 90, 3) := by decide +kernel
theorem dd_Mo_house_4 : decode cc_Mo_house 4 = .ok (.ifCond .ne 5, 3) := by decide +kernel
theorem dd_Mo_house_7 : decode cc_Mo_house 7 = .ok (.iconst (-1), 1) := by decide +kernel
theorem dd_Mo_house_8 : decode cc_Mo_house 8 = .ok (.ireturn, 1) := by decide +kernel
theorem dd_Mo_house_9 : decode cc_Mo_house 9 = .ok (.aload_n 0, 1) := by decide +kernel
theorem dd_Mo_house_10 : decode cc_Mo_house 10 = .ok (.getfield 16, 3) := by decide +kernel
theorem dd_Mo_house_13 : decode cc_Mo_house 13 = .ok (.iload_n 1, 1) := by decide +kernel
theorem dd_Mo_house_14 : decode cc_Mo_house 14 = .ok (.iaload, 1) := by decide +kernel
theorem dd_Mo_house_15 : decode cc_Mo_house 15 = .ok (.ifCond .ge 9, 3) := by decide +kernel
theorem dd_Mo_house_18 : decode cc_Mo_house 18 = .ok (.aload_n 0, 1) := by decide +kernel
theorem dd_Mo_house_19 : decode cc_Mo_house 19 = .ok (.iconst 1, 1) := by decide +kernel
theorem dd_Mo_house_20 : decode cc_Mo_house 20 = .ok (.invokevirtual 77, 3) := by decide +kernel
theorem dd_Mo_house_23 : decode cc_Mo_house 23 = .ok (.ireturn, 1) := by decide +kernel
theorem dd_Mo_house_24 : decode cc_Mo_house 24 = .ok (.aload_n 0, 1) := by decide +kernel
theorem dd_Mo_house_25 : decode cc_Mo_house 25 = .ok (.iload_n 1, 1) := by decide +kernel
theorem dd_Mo_house_26 : decode cc_Mo_house 26 = .ok (.invokevirtual 126, 3) := by decide +kernel
theorem dd_Mo_house_29 : decode cc_Mo_house 29 = .ok (.ifCond .lt 6, 3) := by decide +kernel
theorem dd_Mo_house_32 : decode cc_Mo_house 32 = .ok (.bipush (-4), 2) := by decide +kernel
theorem dd_Mo_house_34 : decode cc_Mo_house 34 = .ok (.ireturn, 1) := by decide +kernel
theorem dd_Mo_house_35 : decode cc_Mo_house 35 = .ok (.iconst 0, 1) := by decide +kernel
theorem dd_Mo_house_36 : decode cc_Mo_house 36 = .ok (.istore_n 2, 1) := by decide +kernel
theorem dd_Mo_house_37 : decode cc_Mo_house 37 = .ok (.iload_n 2, 1) := by decide +kernel
theorem dd_Mo_house_38 : decode cc_Mo_house 38 = .ok (.bipush 24, 2) := by decide +kernel
theorem dd_Mo_house_40 : decode cc_Mo_house 40 = .ok (.if_icmp .ge 21, 3) := by decide +kernel
theorem dd_Mo_house_43 : decode cc_Mo_house 43 = .ok (.aload_n 0, 1) := by decide +kernel
theorem dd_Mo_house_44 : decode cc_Mo_house 44 = .ok (.getfield 30, 3) := by decide +kernel
theorem dd_Mo_house_47 : decode cc_Mo_house 47 = .ok (.iload_n 2, 1) := by decide +kernel
theorem dd_Mo_house_48 : decode cc_Mo_house 48 = .ok (.aload_n 0, 1) := by decide +kernel
theorem dd_Mo_house_49 : decode cc_Mo_house 49 = .ok (.getfield 33, 3) := by decide +kernel
theorem dd_Mo_house_52 : decode cc_Mo_house 52 = .ok (.iload_n 2, 1) := by decide +kernel
theorem dd_Mo_house_53 : decode cc_Mo_house 53 = .ok (.iaload, 1) := by decide +kernel
theorem dd_Mo_house_54 : decode cc_Mo_house 54 = .ok (.iastore, 1) := by decide +kernel
theorem dd_Mo_house_55 : decode cc_Mo_house 55 = .ok (.iinc 2 1, 3) := by decide +kernel
theorem dd_Mo_house_58 : decode cc_Mo_house 58 = .ok (.goto (-21), 3) := by decide +kernel
theorem dd_Mo_house_61 : decode cc_Mo_house 61 = .ok (.iconst 0, 1) := by decide +kernel
theorem dd_Mo_house_62 : decode cc_Mo_house 62 = .ok (.istore_n 2, 1) := by decide +kernel
theorem dd_Mo_house_63 : decode cc_Mo_house 63 = .ok (.iload_n 2, 1) := by decide +kernel
theorem dd_Mo_house_64 : decode cc_Mo_house 64 = .ok (.iconst 3, 1) := by decide +kernel
theorem dd_Mo_house_65 : decode cc_Mo_house 65 = .ok (.if_icmp .ge 16, 3) := by decide +kernel
theorem dd_Mo_house_68 : decode cc_Mo_house 68 = .ok (.aload_n 0, 1) := by decide +kernel
theorem dd_Mo_house_69 : decode cc_Mo_house 69 = .ok (.getfield 39, 3) := by decide +kernel
theorem dd_Mo_house_72 : decode cc_Mo_house 72 = .ok (.iload_n 2, 1) := by decide +kernel
theorem dd_Mo_house_73 : decode cc_Mo_house 73 = .ok (.iconst (-1), 1) := by decide +kernel
theorem dd_Mo_house_74 : decode cc_Mo_house 74 = .ok (.iastore, 1) := by decide +kernel
theorem dd_Mo_house_75 : decode cc_Mo_house 75 = .ok (.iinc 2 1, 3) := by decide +kernel
theorem dd_Mo_house_78 : decode cc_Mo_house 78 = .ok (.goto (-15), 3) := by decide +kernel
theorem dd_Mo_house_81 : decode cc_Mo_house 81 = .ok (.aload_n 0, 1) := by decide +kernel
theorem dd_Mo_house_82 : decode cc_Mo_house 82 = .ok (.getfield 30, 3) := by decide +kernel
theorem dd_Mo_house_85 : decode cc_Mo_house 85 = .ok (.iconst 0, 1) := by decide +kernel
theorem dd_Mo_house_86 : decode cc_Mo_house 86 = .ok (.iaload, 1) := by decide +kernel
theorem dd_Mo_house_87 : decode cc_Mo_house 87 = .ok (.ireturn, 1) := by decide +kernel
set_option maxRecDepth 100000 in
set_option maxHeartbeats 4000000 in
theorem ct_Mo_house (l : Launch) (E : gf_E) (t : Int) (μ : gf_M) (ht : gf_R t) (hts : ∀ t : Int, 0 ≤ t → t < 4 → -1 ≤ μ 68 t ∧ μ 68 t ≤ 60) (htb : ∀ j : Int, -128 ≤ μ 69 j ∧ μ 69 j ≤ 127)  : gf_Mi l E yy_Mo_house cc_Mo_house 3 .int (gf_rm 4 90) 81 gf_ref μ [.ref (gf_ad E 65), .int (gf_i t)] (fun q μ' => (¬ (0 ≤ t ∧ t < 4) → q = -1 ∧ μ' = μ) ∧ (0 ≤ t ∧ t < 4 → (μ 68 t = -1 → q = -3 ∧ μ' = gm_fd μ 1) ∧ (μ 68 t ≠ -1 → ((pf_pr (fun j => μ 69 (60 * t + j)) (μ 68 t) 61 0 []).1 ≠ -9 → q = -4 ∧ gm_sc μ' μ) ∧ ((pf_pr (fun j => μ 69 (60 * t + j)) (μ 68 t) 61 0 []).1 = -9 → q = ((pf_pr (fun j => μ 69 (60 * t + j)) (μ 68 t) 61 0 []).2.length : Int) ∧ μ' 71 0 = q ∧ gm_hold μ' 71 (pf_pr (fun j => μ 69 (60 * t + j)) (μ 68 t) 61 0 []).2 ∧ μ' 71 1 = 0 ∧ μ' 71 2 = 0 ∧ (∀ k : Int, 0 ≤ k → k < 3 → μ' 74 k = -1) ∧ ∀ a b : Int, ¬ gm_scr a b → ¬ (a = 71 ∧ 0 ≤ b ∧ b < 24) → ¬ (a = 74 ∧ 0 ≤ b ∧ b < 3) → μ' a b = μ a b)))) := by
  refine gf_mi (by decide +kernel) (Nat.le_of_ble_eq_true rfl) (by decide) (fun X Q hlx C hQ => ?_)
  subst hlx
  replace C : gf_C X E cc_Mo_house 3 "GuardFiguresModel" (gf_rm 4 90) := C
  show gf_G X E Q 3 gf_φ μ 0 [(0, .ref (gf_ad E 65)), (1, .int (gf_i t))] []
  refine gf_iload_n C dd_Mo_house_0 1 rfl ?_
  refine gf_callSi (st := []) (As := [.int (gf_i t)]) C wk_Mo_90 (ct_Mo_isText (gf_xl X) E t μ (by omega)) rfl ⟨rfl, rfl, rfl, rfl⟩ (Nat.le_of_ble_eq_true rfl) rfl dd_Mo_house_1 (fun r1 m1 hR1 hp1 => ?_)
  have hr1 := hp1.1
  refine gf_pm hp1.2 ?_
  refine gf_if_ne 9 C dd_Mo_house_4 (by decide) (by omega) (fun h4 => ?_) (fun h4 => ?_)
  · skip
    have hin : 0 ≤ t ∧ t < 4 := by omega
    have hrr := hts t hin.1 hin.2
    refine gf_aload_n C dd_Mo_house_9 0 rfl ?_
    refine gf_getA (r := 68) C gf_cl7 fl_Mo_16 dd_Mo_house_10 rfl (show gf_is 81 65 0 7 26 by decide) (by decide) (by decide) ?_
    refine gf_iload_n C dd_Mo_house_13 1 rfl ?_
    refine gf_iald C dd_Mo_house_14 (show gf_is 81 68 1 0 4 by decide) (by omega) (fun hv14 => ?_)
    refine gf_if_ge 24 C dd_Mo_house_15 (by decide) (by omega) (fun h15 => ?_) (fun h15 => ?_)
    · skip
      refine gf_aload_n C dd_Mo_house_24 0 rfl ?_
      refine gf_iload_n C dd_Mo_house_25 1 rfl ?_
      refine gf_callVi (st := []) (As := [.int (gf_i t)]) C wk_Mo_126 gf_cl7 (show gf_is 81 65 0 7 26 by decide) (ct_Mo_faultOf (gf_xl X) E t (μ 68 t) μ hin rfl (by omega) htb) rfl ⟨rfl, rfl, rfl, rfl⟩ (Nat.le_of_ble_eq_true rfl) rfl dd_Mo_house_26 (fun r26 m26 hR26 hp26 => ?_)
      refine gf_if_lt 35 C dd_Mo_house_29 (by decide) (by have := hp26.1.2; omega) (fun h29 => ?_) (fun h29 => ?_)
      · skip
        have hq9 : r26 = -9 := by have := hp26.1.2; omega
        obtain ⟨hA, hB, hC⟩ := hp26
        obtain ⟨hB1, hB2, hB3, hB4⟩ := hB hq9
        refine gf_iconst C dd_Mo_house_35 ?_
        refine gf_istore_n (lv' := [(2, .int (gf_i 0)), (0, .ref (gf_ad E 65)), (1, .int (gf_i t))]) C dd_Mo_house_36 (by decide) rfl ?_
        have L37_1 : ∀ (N : Nat) (k : Int) (m : gf_M) , (0 ≤ k ∧ k ≤ 24 ∧ (∀ j : Int, 0 ≤ j → j < k → m 71 j = m26 72 j) ∧ ∀ a b : Int, ¬ (a = 71 ∧ 0 ≤ b ∧ b < 24) → m a b = m26 a b) → (24 - k).toNat < N → gf_G X E Q 3 gf_φ m 37 [(2, .int (gf_i k)), (0, .ref (gf_ad E 65)), (1, .int (gf_i t))] [] := by
          intro N
          induction N with
          | zero => intro k m hinv hN; exact absurd hN (Nat.not_lt_zero _)
          | succ N ih37_1 =>
            intro k m hinv hN
            have hinv0 := hinv
            obtain ⟨hk0, hk1, hkz, hkf⟩ := hinv
            refine gf_iload_n C dd_Mo_house_37 0 rfl ?_
            refine gf_bipush C dd_Mo_house_38 (by decide +kernel) ?_
            refine gf_icmp_ge 61 C dd_Mo_house_40 (by decide) (by omega) (by omega) (fun h40 => ?_) (fun h40 => ?_)
            · skip
              refine gf_iconst C dd_Mo_house_61 ?_
              refine gf_istore_n (lv' := [(2, .int (gf_i 0)), (0, .ref (gf_ad E 65)), (1, .int (gf_i t))]) C dd_Mo_house_62 (by decide) rfl ?_
              have L63_2 : ∀ (N : Nat) (k2 : Int) (m2 : gf_M) , (0 ≤ k2 ∧ k2 ≤ 3 ∧ (∀ j : Int, 0 ≤ j → j < k2 → m2 74 j = -1) ∧ ∀ a b : Int, ¬ (a = 74 ∧ 0 ≤ b ∧ b < 3) → m2 a b = m a b) → (3 - k2).toNat < N → gf_G X E Q 3 gf_φ m2 63 [(2, .int (gf_i k2)), (0, .ref (gf_ad E 65)), (1, .int (gf_i t))] [] := by
                intro N
                induction N with
                | zero => intro k2 m2 hinv hN; exact absurd hN (Nat.not_lt_zero _)
                | succ N ih63_2 =>
                  intro k2 m2 hinv hN
                  have hinv0 := hinv
                  obtain ⟨hj0, hj1, hjz, hjf⟩ := hinv
                  refine gf_iload_n C dd_Mo_house_63 0 rfl ?_
                  refine gf_iconst C dd_Mo_house_64 ?_
                  refine gf_icmp_ge 81 C dd_Mo_house_65 (by decide) (by omega) (by omega) (fun h65 => ?_) (fun h65 => ?_)
                  · skip
                    refine gf_aload_n C dd_Mo_house_81 1 rfl ?_
                    refine gf_getA (r := 71) C gf_cl7 fl_Mo_30 dd_Mo_house_82 rfl (show gf_is 81 65 0 7 26 by decide) (by decide) (by decide) ?_
                    refine gf_iconst C dd_Mo_house_85 ?_
                    refine gf_iald C dd_Mo_house_86 (show gf_is 81 71 1 0 392 by decide) (by omega) (fun hv86 => ?_)
                    refine gf_iret C hQ dd_Mo_house_87 (by omega) ?_
                    have e71 : ∀ j : Int, 0 ≤ j → j < 24 → m2 71 j = m26 72 j := fun j h0 h1 => by rw [hjf 71 j (by omega)]; exact hkz j h0 (by omega)
                    have hl7 := (pf_pr_R (f := (fun j => μ 69 (60 * t + j))) (show 0 ≤ μ 68 t by omega) 61 0 [] (by decide) (by decide)).2.1
                    refine ⟨fun h => absurd h (by omega), fun _ => ⟨fun h => absurd h (by omega), fun _ => ⟨fun h => absurd (by rw [← hA.1]; exact hq9) h, fun _ => ⟨by rw [e71 0 (by omega) (by omega)]; exact hB2, rfl, fun i q hq => ?_, by rw [e71 1 (by omega) (by omega)]; exact hB3, by rw [e71 2 (by omega) (by omega)]; exact hB4, fun j h0 h1 => hjz j h0 (by omega), fun a b h1 h2 h3 => ?_⟩⟩⟩⟩
                    · have hi := (List.getElem?_eq_some_iff.mp hq).1
                      rw [e71 _ (by omega) (by omega), e71 _ (by omega) (by omega), e71 _ (by omega) (by omega)]
                      exact hB1 i q hq
                    · unfold gm_scr at h1
                      rw [hjf a b h3, hkf a b h2, hC a b (by omega) (by omega)]
                  · skip
                    refine gf_aload_n C dd_Mo_house_68 1 rfl ?_
                    refine gf_getA (r := 74) C gf_cl7 fl_Mo_39 dd_Mo_house_69 rfl (show gf_is 81 65 0 7 26 by decide) (by decide) (by decide) ?_
                    refine gf_iload_n C dd_Mo_house_72 0 rfl ?_
                    refine gf_iconst C dd_Mo_house_73 ?_
                    refine gf_iast C dd_Mo_house_74 (show gf_is 81 74 1 0 3 by decide) (by omega) (by omega) ?_
                    refine gf_nmM (fun m74 hm74 => ?_)
                    obtain ⟨x75, hx75⟩ : ∃ y : Int, y = k2 + 1 := ⟨_, rfl⟩
                    refine gf_iinc (q := 0) (v := x75) (lv' := [(2, .int (gf_i x75)), (0, .ref (gf_ad E 65)), (1, .int (gf_i t))]) C dd_Mo_house_75 rfl hx75 (by decide) rfl ?_
                    refine gf_goto 63 C dd_Mo_house_78 (by decide) ?_
                    refine gf_lsub [0, 1, 2] rfl ?_
                    exact ih63_2 x75 m74 (by
                            refine ⟨by omega, by omega, fun j h0 h1 => ?_, fun a b h => by rw [hm74, gf_up_o (by omega)]; exact hjf a b h⟩
                            rw [hm74]
                            by_cases e : j = k2
                            · rw [e]; exact gf_up_s
                            · rw [gf_up_j e]; exact hjz j h0 (by omega)) (by omega)
              refine gf_lsub [0, 1, 2] rfl ?_
              exact L63_2 _ 0 m (⟨by omega, by omega, fun j h0 h1 => by omega, fun a b _ => rfl⟩) (Nat.lt_succ_self _)
            · skip
              refine gf_aload_n C dd_Mo_house_43 1 rfl ?_
              refine gf_getA (r := 71) C gf_cl7 fl_Mo_30 dd_Mo_house_44 rfl (show gf_is 81 65 0 7 26 by decide) (by decide) (by decide) ?_
              refine gf_iload_n C dd_Mo_house_47 0 rfl ?_
              refine gf_aload_n C dd_Mo_house_48 1 rfl ?_
              refine gf_getA (r := 72) C gf_cl7 fl_Mo_33 dd_Mo_house_49 rfl (show gf_is 81 65 0 7 26 by decide) (by decide) (by decide) ?_
              refine gf_iload_n C dd_Mo_house_52 0 rfl ?_
              refine gf_iald C dd_Mo_house_53 (show gf_is 81 72 1 0 24 by decide) (by omega) (fun hv53 => ?_)
              refine gf_iast C dd_Mo_house_54 (show gf_is 81 71 1 0 392 by decide) (by omega) (by omega) ?_
              refine gf_nmM (fun m54 hm54 => ?_)
              obtain ⟨x55, hx55⟩ : ∃ y : Int, y = k + 1 := ⟨_, rfl⟩
              refine gf_iinc (q := 0) (v := x55) (lv' := [(2, .int (gf_i x55)), (0, .ref (gf_ad E 65)), (1, .int (gf_i t))]) C dd_Mo_house_55 rfl hx55 (by decide) rfl ?_
              refine gf_goto 37 C dd_Mo_house_58 (by decide) ?_
              refine gf_lsub [0, 1, 2] rfl ?_
              exact ih37_1 x55 m54 (by
                      refine ⟨by omega, by omega, fun j h0 h1 => ?_, fun a b h => by rw [hm54, gf_up_o (by omega)]; exact hkf a b h⟩
                      rw [hm54]
                      by_cases e : j = k
                      · rw [e, gf_up_s]; exact hkf 72 k (by omega)
                      · rw [gf_up_j e]; exact hkz j h0 (by omega)) (by omega)
        refine gf_lsub [0, 1, 2] rfl ?_
        exact L37_1 _ 0 m26 (⟨by omega, by omega, fun j h0 h1 => by omega, fun a b _ => rfl⟩) (Nat.lt_succ_self _)
      · skip
        refine gf_bipush C dd_Mo_house_32 (by decide +kernel) ?_
        refine gf_iret C hQ dd_Mo_house_34 (by omega) ?_
        have hA := hp26.1
        exact ⟨fun h => absurd h (by omega), fun _ => ⟨fun h => absurd h (by omega), fun _ => ⟨fun _ => ⟨rfl, gm_sc_fr hp26.2.2⟩, fun h => by have := hA.1; omega⟩⟩⟩
    · skip
      refine gf_aload_n C dd_Mo_house_18 0 rfl ?_
      refine gf_iconst C dd_Mo_house_19 ?_
      refine gf_callVi (st := []) (As := [.int (gf_i 1)]) C wk_Mo_77 gf_cl7 (show gf_is 81 65 0 7 26 by decide) (ct_Mo_find (gf_xl X) E 1 μ (by omega)) rfl ⟨rfl, rfl, rfl, rfl⟩ (Nat.le_of_ble_eq_true rfl) rfl dd_Mo_house_20 (fun r20 m20 hR20 hp20 => ?_)
      refine gf_iret C hQ dd_Mo_house_23 (by omega) ?_
      exact ⟨fun h => absurd h (by omega), fun _ => ⟨fun _ => hp20, fun h => absurd h (by omega)⟩⟩
  · skip
    refine gf_iconst C dd_Mo_house_7 ?_
    refine gf_iret C hQ dd_Mo_house_8 (by omega) ?_
    exact ⟨fun _ => ⟨rfl, rfl⟩, fun h => absurd h (by omega)⟩
