/-! GuardFigures: deeds -/
def gf_rmb (μ : gf_M) : gf_M := gf_up (gf_up μ 43 (μ 41 2) (pf_enc (μ 42) (μ 41 1).toNat)) 41 2 (μ 41 2 + 1)
theorem gf_rmb_f (μ : gf_M) {a b : Int} (h : a ≠ 43) (h2 : ¬ (a = 41 ∧ b = 2)) : gf_rmb μ a b = μ a b := by
  unfold gf_rmb
  rw [gf_up_o h2, gf_up_k h]
/-- a writing is as another one is -/
def gf_rsm (μ μ' : gf_M) (w o : Int) : Prop := μ' w 1 = μ o 1 ∧ μ' w 2 = μ o 2 ∧ (∀ j : Int, 0 ≤ j → j < μ o 1 → μ' (w + 1) j = μ (o + 1) j) ∧ (∀ j : Int, 0 ≤ j → j < μ o 2 → μ' (w + 2) j = μ (o + 2) j) ∧ ∀ a b : Int, ¬ (a = w ∧ (b = 1 ∨ b = 2 ∨ b = 4)) → a ≠ w + 1 → a ≠ w + 2 → μ' a b = μ a b
theorem dd_Fi_add_0 : decode cc_Fi_add 0 = .ok (.iload_n 1, 1) := by decide +kernel
theorem dd_Fi_add_1 : decode cc_Fi_add 1 = .ok (.bipush 10, 2) := by decide +kernel
theorem dd_Fi_add_3 : decode cc_Fi_add 3 = .ok (.invokestatic 78, 3) := by decide +kernel
theorem dd_Fi_add_6 : decode cc_Fi_add 6 = .ok (.ifCond .ne 5, 3) := by decide +kernel
theorem dd_Fi_add_9 : decode cc_Fi_add 9 = .ok (.iconst (-1), 1) := by decide +kernel
theorem dd_Fi_add_10 : decode cc_Fi_add 10 = .ok (.ireturn, 1) := by decide +kernel
theorem dd_Fi_add_11 : decode cc_Fi_add 11 = .ok (.aload_n 0, 1) := by decide +kernel
theorem dd_Fi_add_12 : decode cc_Fi_add 12 = .ok (.getfield 131, 3) := by decide +kernel
theorem dd_Fi_add_15 : decode cc_Fi_add 15 = .ok (.ifCond .eq 15, 3) := by decide +kernel
theorem dd_Fi_add_18 : decode cc_Fi_add 18 = .ok (.aload_n 0, 1) := by decide +kernel
theorem dd_Fi_add_19 : decode cc_Fi_add 19 = .ok (.getfield 35, 3) := by decide +kernel
theorem dd_Fi_add_22 : decode cc_Fi_add 22 = .ok (.getfield 168, 3) := by decide +kernel
theorem dd_Fi_add_25 : decode cc_Fi_add 25 = .ok (.bipush 8, 2) := by decide +kernel
theorem dd_Fi_add_27 : decode cc_Fi_add 27 = .ok (.if_icmp .lt 6, 3) := by decide +kernel
theorem dd_Fi_add_30 : decode cc_Fi_add 30 = .ok (.bipush (-4), 2) := by decide +kernel
theorem dd_Fi_add_32 : decode cc_Fi_add 32 = .ok (.ireturn, 1) := by decide +kernel
theorem dd_Fi_add_33 : decode cc_Fi_add 33 = .ok (.aload_n 0, 1) := by decide +kernel
theorem dd_Fi_add_34 : decode cc_Fi_add 34 = .ok (.getfield 35, 3) := by decide +kernel
theorem dd_Fi_add_37 : decode cc_Fi_add 37 = .ok (.getfield 172, 3) := by decide +kernel
theorem dd_Fi_add_40 : decode cc_Fi_add 40 = .ok (.bipush 40, 2) := by decide +kernel
theorem dd_Fi_add_42 : decode cc_Fi_add 42 = .ok (.if_icmp .lt 6, 3) := by decide +kernel
theorem dd_Fi_add_45 : decode cc_Fi_add 45 = .ok (.bipush (-2), 2) := by decide +kernel
theorem dd_Fi_add_47 : decode cc_Fi_add 47 = .ok (.ireturn, 1) := by decide +kernel
theorem dd_Fi_add_48 : decode cc_Fi_add 48 = .ok (.aload_n 0, 1) := by decide +kernel
theorem dd_Fi_add_49 : decode cc_Fi_add 49 = .ok (.getfield 35, 3) := by decide +kernel
theorem dd_Fi_add_52 : decode cc_Fi_add 52 = .ok (.invokevirtual 175, 3) := by decide +kernel
theorem dd_Fi_add_55 : decode cc_Fi_add 55 = .ok (.aload_n 0, 1) := by decide +kernel
theorem dd_Fi_add_56 : decode cc_Fi_add 56 = .ok (.getfield 35, 3) := by decide +kernel
theorem dd_Fi_add_59 : decode cc_Fi_add 59 = .ok (.iload_n 1, 1) := by decide +kernel
theorem dd_Fi_add_60 : decode cc_Fi_add 60 = .ok (.invokevirtual 178, 3) := by decide +kernel
theorem dd_Fi_add_63 : decode cc_Fi_add 63 = .ok (.aload_n 0, 1) := by decide +kernel
theorem dd_Fi_add_64 : decode cc_Fi_add 64 = .ok (.getfield 35, 3) := by decide +kernel
theorem dd_Fi_add_67 : decode cc_Fi_add 67 = .ok (.getfield 168, 3) := by decide +kernel
theorem dd_Fi_add_70 : decode cc_Fi_add 70 = .ok (.ireturn, 1) := by decide +kernel
set_option maxRecDepth 100000 in
set_option maxHeartbeats 4000000 in
theorem ct_Fi_add (l : Launch) (E : gf_E) (f : Int) (μ : gf_M) (hf : gf_R f) (hc7 : 0 ≤ μ 0 3 ∧ μ 0 3 ≤ 7) (hs : 0 ≤ μ 41 1 ∧ μ 41 1 ≤ 8) (hd : 0 ≤ μ 41 2 ∧ μ 41 2 ≤ 40) (hF : gf_okF μ 42 (μ 41 1)) : gf_Mi l E yy_Fi_add cc_Fi_add 2 .int (gf_rm 1 22) 81 gf_ref μ [.ref (gf_ad E 0), .int (gf_i f)] (fun q μ' => (¬ (0 ≤ f ∧ f < 10) → q = -1 ∧ μ' = μ) ∧ (0 ≤ f ∧ f < 10 → (μ 0 3 = 0 ∨ μ 41 1 = 8 → q = -4 ∧ μ' = μ) ∧ (μ 0 3 ≠ 0 ∧ μ 41 1 < 8 → (μ 41 2 = 40 → q = -2 ∧ μ' = μ) ∧ (μ 41 2 < 40 → q = μ 41 1 + 1 ∧ μ' = gf_up (gf_up (gf_rmb μ) 42 (μ 41 1) f) 41 1 (μ 41 1 + 1))))) := by
  refine gf_mi (by decide +kernel) (Nat.le_of_ble_eq_true rfl) (by decide) (fun X Q hlx C hQ => ?_)
  subst hlx
  replace C : gf_C X E cc_Fi_add 2 "GuardFigures" (gf_rm 1 22) := C
  show gf_G X E Q 2 gf_φ μ 0 [(0, .ref (gf_ad E 0)), (1, .int (gf_i f))] []
  refine gf_iload_n C dd_Fi_add_0 1 rfl ?_
  refine gf_bipush C dd_Fi_add_1 (by decide +kernel) ?_
  refine gf_callSi (st := []) (As := [.int (gf_i f), .int (gf_i 10)]) C wk_Fi_78 (ct_Fi_isWithin (gf_xl X) E f 10 μ (by omega) (by omega)) rfl ⟨rfl, rfl, rfl, rfl⟩ (Nat.le_of_ble_eq_true rfl) rfl dd_Fi_add_3 (fun r3 m3 hR3 hp3 => ?_)
  have hr3 := hp3.1
  refine gf_pm hp3.2 ?_
  refine gf_if_ne 11 C dd_Fi_add_6 (by decide) (by omega) (fun h6 => ?_) (fun h6 => ?_)
  · skip
    refine gf_aload_n C dd_Fi_add_11 0 rfl ?_
    refine gf_getI (z := 3) C gf_cl6 fl_Fi_131 dd_Fi_add_12 rfl rfl (show gf_is 81 0 0 6 17 by decide) (fun hv12 => ?_)
    refine gf_if_eq 30 C dd_Fi_add_15 (by decide) (by omega) (fun h15 => ?_) (fun h15 => ?_)
    · skip
      refine gf_bipush C dd_Fi_add_30 (by decide +kernel) ?_
      refine gf_iret C hQ dd_Fi_add_32 (by omega) ?_
      exact ⟨fun h => absurd h (by omega), fun _ => ⟨fun _ => ⟨rfl, rfl⟩, fun h => absurd h (by omega)⟩⟩
    · skip
      refine gf_aload_n C dd_Fi_add_18 0 rfl ?_
      refine gf_getA (r := 41) C gf_cl6 fl_Fi_35 dd_Fi_add_19 rfl (show gf_is 81 0 0 6 17 by decide) (by decide) (by decide) ?_
      refine gf_getI (z := 1) C gf_cl5 fl_Fi_168 dd_Fi_add_22 rfl rfl (show gf_is 81 41 0 5 5 by decide) (fun hv22 => ?_)
      refine gf_bipush C dd_Fi_add_25 (by decide +kernel) ?_
      refine gf_icmp_lt 33 C dd_Fi_add_27 (by decide) (by omega) (by omega) (fun h27 => ?_) (fun h27 => ?_)
      · skip
        refine gf_aload_n C dd_Fi_add_33 0 rfl ?_
        refine gf_getA (r := 41) C gf_cl6 fl_Fi_35 dd_Fi_add_34 rfl (show gf_is 81 0 0 6 17 by decide) (by decide) (by decide) ?_
        refine gf_getI (z := 2) C gf_cl5 fl_Fi_172 dd_Fi_add_37 rfl rfl (show gf_is 81 41 0 5 5 by decide) (fun hv37 => ?_)
        refine gf_bipush C dd_Fi_add_40 (by decide +kernel) ?_
        refine gf_icmp_lt 48 C dd_Fi_add_42 (by decide) (by omega) (by omega) (fun h42 => ?_) (fun h42 => ?_)
        · skip
          refine gf_aload_n C dd_Fi_add_48 0 rfl ?_
          refine gf_getA (r := 41) C gf_cl6 fl_Fi_35 dd_Fi_add_49 rfl (show gf_is 81 0 0 6 17 by decide) (by decide) (by decide) ?_
          refine gf_callVv (st := []) (As := []) C wk_Fi_175 gf_cl5 (show gf_is 81 41 0 5 5 by decide) (ct_Wr_remember (gf_xl X) E 41 μ gf_oWr41 hs (by omega) hF) rfl ⟨rfl, rfl, rfl, rfl⟩ (Nat.le_of_ble_eq_true rfl) rfl dd_Fi_add_52 (fun m52 hp52 => ?_)
          have hm52 : m52 = gf_rmb μ := hp52
          have s41 : m52 41 1 = μ 41 1 := by rw [hm52]; exact gf_rmb_f μ (by decide) (by decide)
          have s42 : ∀ j : Int, m52 42 j = μ 42 j := fun j => by rw [hm52]; exact gf_rmb_f μ (by decide) (by omega)
          refine gf_aload_n C dd_Fi_add_55 0 rfl ?_
          refine gf_getA (r := 41) C gf_cl6 fl_Fi_35 dd_Fi_add_56 rfl (show gf_is 81 0 0 6 17 by decide) (by decide) (by decide) ?_
          refine gf_iload_n C dd_Fi_add_59 1 rfl ?_
          refine gf_callVv (st := []) (As := [.int (gf_i f)]) C wk_Fi_178 gf_cl5 (show gf_is 81 41 0 5 5 by decide) (ct_Wr_append (gf_xl X) E 41 m52 gf_oWr41 f (by omega) hf) rfl ⟨rfl, rfl, rfl, rfl⟩ (Nat.le_of_ble_eq_true rfl) rfl dd_Fi_add_60 (fun m60 hp60 => ?_)
          have hm60 : m60 = gf_up (gf_up (gf_rmb μ) 42 (μ 41 1) f) 41 1 (μ 41 1 + 1) := by
            rw [hp60, if_pos (by omega), s41, hm52]
            rfl
          have t41 : m60 41 1 = μ 41 1 + 1 := by rw [hm60]; exact gf_up_s
          refine gf_aload_n C dd_Fi_add_63 0 rfl ?_
          refine gf_getA (r := 41) C gf_cl6 fl_Fi_35 dd_Fi_add_64 rfl (show gf_is 81 0 0 6 17 by decide) (by decide) (by decide) ?_
          refine gf_getI (z := 1) C gf_cl5 fl_Fi_168 dd_Fi_add_67 rfl rfl (show gf_is 81 41 0 5 5 by decide) (fun hv67 => ?_)
          refine gf_iret C hQ dd_Fi_add_70 (by omega) ?_
          exact ⟨fun h => absurd h (by omega), fun _ => ⟨fun h => absurd h (by omega), fun _ => ⟨fun h => absurd h (by omega), fun _ => ⟨t41, hm60⟩⟩⟩⟩
        · skip
          refine gf_bipush C dd_Fi_add_45 (by decide +kernel) ?_
          refine gf_iret C hQ dd_Fi_add_47 (by omega) ?_
          exact ⟨fun h => absurd h (by omega), fun _ => ⟨fun h => absurd h (by omega), fun _ => ⟨fun _ => ⟨rfl, rfl⟩, fun h => absurd h (by omega)⟩⟩⟩
      · skip
        refine gf_bipush C dd_Fi_add_30 (by decide +kernel) ?_
        refine gf_iret C hQ dd_Fi_add_32 (by omega) ?_
        exact ⟨fun h => absurd h (by omega), fun _ => ⟨fun _ => ⟨rfl, rfl⟩, fun h => absurd h (by omega)⟩⟩
  · skip
    refine gf_iconst C dd_Fi_add_9 ?_
    refine gf_iret C hQ dd_Fi_add_10 (by omega) ?_
    exact ⟨fun _ => ⟨rfl, rfl⟩, fun h => absurd h (by omega)⟩

theorem dd_Fi_drop_0 : decode cc_Fi_drop 0 = .ok (.aload_n 0, 1) := by decide +kernel
theorem dd_Fi_drop_1 : decode cc_Fi_drop 1 = .ok (.getfield 35, 3) := by decide +kernel
theorem dd_Fi_drop_4 : decode cc_Fi_drop 4 = .ok (.getfield 168, 3) := by decide +kernel
theorem dd_Fi_drop_7 : decode cc_Fi_drop 7 = .ok (.ifCond .ne 6, 3) := by decide +kernel
theorem dd_Fi_drop_10 : decode cc_Fi_drop 10 = .ok (.bipush (-4), 2) := by decide +kernel
theorem dd_Fi_drop_12 : decode cc_Fi_drop 12 = .ok (.ireturn, 1) := by decide +kernel
theorem dd_Fi_drop_13 : decode cc_Fi_drop 13 = .ok (.aload_n 0, 1) := by decide +kernel
theorem dd_Fi_drop_14 : decode cc_Fi_drop 14 = .ok (.getfield 35, 3) := by decide +kernel
theorem dd_Fi_drop_17 : decode cc_Fi_drop 17 = .ok (.getfield 172, 3) := by decide +kernel
theorem dd_Fi_drop_20 : decode cc_Fi_drop 20 = .ok (.bipush 40, 2) := by decide +kernel
theorem dd_Fi_drop_22 : decode cc_Fi_drop 22 = .ok (.if_icmp .lt 6, 3) := by decide +kernel
theorem dd_Fi_drop_25 : decode cc_Fi_drop 25 = .ok (.bipush (-2), 2) := by decide +kernel
theorem dd_Fi_drop_27 : decode cc_Fi_drop 27 = .ok (.ireturn, 1) := by decide +kernel
theorem dd_Fi_drop_28 : decode cc_Fi_drop 28 = .ok (.aload_n 0, 1) := by decide +kernel
theorem dd_Fi_drop_29 : decode cc_Fi_drop 29 = .ok (.getfield 35, 3) := by decide +kernel
theorem dd_Fi_drop_32 : decode cc_Fi_drop 32 = .ok (.invokevirtual 175, 3) := by decide +kernel
theorem dd_Fi_drop_35 : decode cc_Fi_drop 35 = .ok (.aload_n 0, 1) := by decide +kernel
theorem dd_Fi_drop_36 : decode cc_Fi_drop 36 = .ok (.getfield 35, 3) := by decide +kernel
theorem dd_Fi_drop_39 : decode cc_Fi_drop 39 = .ok (.invokevirtual 181, 3) := by decide +kernel
theorem dd_Fi_drop_42 : decode cc_Fi_drop 42 = .ok (.ireturn, 1) := by decide +kernel
set_option maxRecDepth 100000 in
set_option maxHeartbeats 4000000 in
theorem ct_Fi_drop (l : Launch) (E : gf_E) (μ : gf_M) (hs : 0 ≤ μ 41 1 ∧ μ 41 1 ≤ 8) (hd : 0 ≤ μ 41 2 ∧ μ 41 2 ≤ 40) (hF : gf_okF μ 42 (μ 41 1)) : gf_Mi l E yy_Fi_drop cc_Fi_drop 1 .int (gf_rm 1 22) 81 gf_ref μ [.ref (gf_ad E 0)] (fun q μ' => (μ 41 1 = 0 → q = -4 ∧ μ' = μ) ∧ (μ 41 1 ≠ 0 → (μ 41 2 = 40 → q = -2 ∧ μ' = μ) ∧ (μ 41 2 < 40 → q = μ 42 (μ 41 1 - 1) ∧ μ' = gf_up (gf_rmb μ) 41 1 (μ 41 1 - 1)))) := by
  refine gf_mi (by decide +kernel) (Nat.le_of_ble_eq_true rfl) (by decide) (fun X Q hlx C hQ => ?_)
  subst hlx
  replace C : gf_C X E cc_Fi_drop 1 "GuardFigures" (gf_rm 1 22) := C
  show gf_G X E Q 1 gf_φ μ 0 [(0, .ref (gf_ad E 0))] []
  refine gf_aload_n C dd_Fi_drop_0 0 rfl ?_
  refine gf_getA (r := 41) C gf_cl6 fl_Fi_35 dd_Fi_drop_1 rfl (show gf_is 81 0 0 6 17 by decide) (by decide) (by decide) ?_
  refine gf_getI (z := 1) C gf_cl5 fl_Fi_168 dd_Fi_drop_4 rfl rfl (show gf_is 81 41 0 5 5 by decide) (fun hv4 => ?_)
  refine gf_if_ne 13 C dd_Fi_drop_7 (by decide) (by omega) (fun h7 => ?_) (fun h7 => ?_)
  · skip
    refine gf_aload_n C dd_Fi_drop_13 0 rfl ?_
    refine gf_getA (r := 41) C gf_cl6 fl_Fi_35 dd_Fi_drop_14 rfl (show gf_is 81 0 0 6 17 by decide) (by decide) (by decide) ?_
    refine gf_getI (z := 2) C gf_cl5 fl_Fi_172 dd_Fi_drop_17 rfl rfl (show gf_is 81 41 0 5 5 by decide) (fun hv17 => ?_)
    refine gf_bipush C dd_Fi_drop_20 (by decide +kernel) ?_
    refine gf_icmp_lt 28 C dd_Fi_drop_22 (by decide) (by omega) (by omega) (fun h22 => ?_) (fun h22 => ?_)
    · skip
      refine gf_aload_n C dd_Fi_drop_28 0 rfl ?_
      refine gf_getA (r := 41) C gf_cl6 fl_Fi_35 dd_Fi_drop_29 rfl (show gf_is 81 0 0 6 17 by decide) (by decide) (by decide) ?_
      refine gf_callVv (st := []) (As := []) C wk_Fi_175 gf_cl5 (show gf_is 81 41 0 5 5 by decide) (ct_Wr_remember (gf_xl X) E 41 μ gf_oWr41 hs (by omega) hF) rfl ⟨rfl, rfl, rfl, rfl⟩ (Nat.le_of_ble_eq_true rfl) rfl dd_Fi_drop_32 (fun m32 hp32 => ?_)
      have hm32 : m32 = gf_rmb μ := hp32
      have s41 : m32 41 1 = μ 41 1 := by rw [hm32]; exact gf_rmb_f μ (by decide) (by decide)
      have s42 : ∀ j : Int, m32 42 j = μ 42 j := fun j => by rw [hm32]; exact gf_rmb_f μ (by decide) (by omega)
      refine gf_aload_n C dd_Fi_drop_35 0 rfl ?_
      refine gf_getA (r := 41) C gf_cl6 fl_Fi_35 dd_Fi_drop_36 rfl (show gf_is 81 0 0 6 17 by decide) (by decide) (by decide) ?_
      refine gf_callVi (st := []) (As := []) C wk_Fi_181 gf_cl5 (show gf_is 81 41 0 5 5 by decide) (ct_Wr_removeLast (gf_xl X) E 41 m32 gf_oWr41 (by omega)) rfl ⟨rfl, rfl, rfl, rfl⟩ (Nat.le_of_ble_eq_true rfl) rfl dd_Fi_drop_39 (fun r39 m39 hR39 hp39 => ?_)
      refine gf_iret C hQ dd_Fi_drop_42 (by omega) ?_
      obtain ⟨ha, hb⟩ := hp39.2 (by omega)
      refine ⟨fun h => absurd h (by omega), fun _ => ⟨fun h => absurd h (by omega), fun _ => ⟨?_, ?_⟩⟩⟩
      · rw [ha, s41]; exact s42 _
      · rw [hb, s41, hm32]
    · skip
      refine gf_bipush C dd_Fi_drop_25 (by decide +kernel) ?_
      refine gf_iret C hQ dd_Fi_drop_27 (by omega) ?_
      exact ⟨fun h => absurd h (by omega), fun _ => ⟨fun _ => ⟨rfl, rfl⟩, fun h => absurd h (by omega)⟩⟩
  · skip
    refine gf_bipush C dd_Fi_drop_10 (by decide +kernel) ?_
    refine gf_iret C hQ dd_Fi_drop_12 (by omega) ?_
    exact ⟨fun _ => ⟨rfl, rfl⟩, fun h => absurd h (by omega)⟩

theorem dd_Fi_change_0 : decode cc_Fi_change 0 = .ok (.iload_n 1, 1) := by decide +kernel
theorem dd_Fi_change_1 : decode cc_Fi_change 1 = .ok (.aload_n 0, 1) := by decide +kernel
theorem dd_Fi_change_2 : decode cc_Fi_change 2 = .ok (.getfield 35, 3) := by decide +kernel
theorem dd_Fi_change_5 : decode cc_Fi_change 5 = .ok (.getfield 168, 3) := by decide +kernel
theorem dd_Fi_change_8 : decode cc_Fi_change 8 = .ok (.invokestatic 78, 3) := by decide +kernel
theorem dd_Fi_change_11 : decode cc_Fi_change 11 = .ok (.ifCond .eq 12, 3) := by decide +kernel
theorem dd_Fi_change_14 : decode cc_Fi_change 14 = .ok (.iload_n 2, 1) := by decide +kernel
theorem dd_Fi_change_15 : decode cc_Fi_change 15 = .ok (.bipush 10, 2) := by decide +kernel
theorem dd_Fi_change_17 : decode cc_Fi_change 17 = .ok (.invokestatic 78, 3) := by decide +kernel
theorem dd_Fi_change_20 : decode cc_Fi_change 20 = .ok (.ifCond .ne 5, 3) := by decide +kernel
theorem dd_Fi_change_23 : decode cc_Fi_change 23 = .ok (.iconst (-1), 1) := by decide +kernel
theorem dd_Fi_change_24 : decode cc_Fi_change 24 = .ok (.ireturn, 1) := by decide +kernel
theorem dd_Fi_change_25 : decode cc_Fi_change 25 = .ok (.aload_n 0, 1) := by decide +kernel
theorem dd_Fi_change_26 : decode cc_Fi_change 26 = .ok (.getfield 35, 3) := by decide +kernel
theorem dd_Fi_change_29 : decode cc_Fi_change 29 = .ok (.getfield 169, 3) := by decide +kernel
theorem dd_Fi_change_32 : decode cc_Fi_change 32 = .ok (.iload_n 1, 1) := by decide +kernel
theorem dd_Fi_change_33 : decode cc_Fi_change 33 = .ok (.iaload, 1) := by decide +kernel
theorem dd_Fi_change_34 : decode cc_Fi_change 34 = .ok (.istore_n 3, 1) := by decide +kernel
theorem dd_Fi_change_35 : decode cc_Fi_change 35 = .ok (.iload_n 3, 1) := by decide +kernel
theorem dd_Fi_change_36 : decode cc_Fi_change 36 = .ok (.iload_n 2, 1) := by decide +kernel
theorem dd_Fi_change_37 : decode cc_Fi_change 37 = .ok (.if_icmp .ne 6, 3) := by decide +kernel
theorem dd_Fi_change_40 : decode cc_Fi_change 40 = .ok (.bipush (-4), 2) := by decide +kernel
theorem dd_Fi_change_42 : decode cc_Fi_change 42 = .ok (.ireturn, 1) := by decide +kernel
theorem dd_Fi_change_43 : decode cc_Fi_change 43 = .ok (.aload_n 0, 1) := by decide +kernel
theorem dd_Fi_change_44 : decode cc_Fi_change 44 = .ok (.getfield 35, 3) := by decide +kernel
theorem dd_Fi_change_47 : decode cc_Fi_change 47 = .ok (.getfield 172, 3) := by decide +kernel
theorem dd_Fi_change_50 : decode cc_Fi_change 50 = .ok (.bipush 40, 2) := by decide +kernel
theorem dd_Fi_change_52 : decode cc_Fi_change 52 = .ok (.if_icmp .lt 6, 3) := by decide +kernel
theorem dd_Fi_change_55 : decode cc_Fi_change 55 = .ok (.bipush (-2), 2) := by decide +kernel
theorem dd_Fi_change_57 : decode cc_Fi_change 57 = .ok (.ireturn, 1) := by decide +kernel
theorem dd_Fi_change_58 : decode cc_Fi_change 58 = .ok (.aload_n 0, 1) := by decide +kernel
theorem dd_Fi_change_59 : decode cc_Fi_change 59 = .ok (.getfield 35, 3) := by decide +kernel
theorem dd_Fi_change_62 : decode cc_Fi_change 62 = .ok (.invokevirtual 175, 3) := by decide +kernel
theorem dd_Fi_change_65 : decode cc_Fi_change 65 = .ok (.aload_n 0, 1) := by decide +kernel
theorem dd_Fi_change_66 : decode cc_Fi_change 66 = .ok (.getfield 35, 3) := by decide +kernel
theorem dd_Fi_change_69 : decode cc_Fi_change 69 = .ok (.getfield 169, 3) := by decide +kernel
theorem dd_Fi_change_72 : decode cc_Fi_change 72 = .ok (.iload_n 1, 1) := by decide +kernel
theorem dd_Fi_change_73 : decode cc_Fi_change 73 = .ok (.iload_n 2, 1) := by decide +kernel
theorem dd_Fi_change_74 : decode cc_Fi_change 74 = .ok (.iastore, 1) := by decide +kernel
theorem dd_Fi_change_75 : decode cc_Fi_change 75 = .ok (.iload_n 3, 1) := by decide +kernel
theorem dd_Fi_change_76 : decode cc_Fi_change 76 = .ok (.ireturn, 1) := by decide +kernel
set_option maxRecDepth 100000 in
set_option maxHeartbeats 4000000 in
theorem ct_Fi_change (l : Launch) (E : gf_E) (k f : Int) (μ : gf_M) (hk : gf_R k) (hf : gf_R f) (hs : 0 ≤ μ 41 1 ∧ μ 41 1 ≤ 8) (hd : 0 ≤ μ 41 2 ∧ μ 41 2 ≤ 40) (hF : gf_okF μ 42 (μ 41 1)) : gf_Mi l E yy_Fi_change cc_Fi_change 4 .int (gf_rm 1 22) 81 gf_ref μ [.ref (gf_ad E 0), .int (gf_i k), .int (gf_i f)] (fun q μ' => (¬ (0 ≤ k ∧ k < μ 41 1 ∧ 0 ≤ f ∧ f < 10) → q = -1 ∧ μ' = μ) ∧ (0 ≤ k ∧ k < μ 41 1 ∧ 0 ≤ f ∧ f < 10 → (μ 42 k = f → q = -4 ∧ μ' = μ) ∧ (μ 42 k ≠ f → (μ 41 2 = 40 → q = -2 ∧ μ' = μ) ∧ (μ 41 2 < 40 → q = μ 42 k ∧ μ' = gf_up (gf_rmb μ) 42 k f)))) := by
  refine gf_mi (by decide +kernel) (Nat.le_of_ble_eq_true rfl) (by decide) (fun X Q hlx C hQ => ?_)
  subst hlx
  replace C : gf_C X E cc_Fi_change 4 "GuardFigures" (gf_rm 1 22) := C
  show gf_G X E Q 4 gf_φ μ 0 [(0, .ref (gf_ad E 0)), (1, .int (gf_i k)), (2, .int (gf_i f))] []
  refine gf_iload_n C dd_Fi_change_0 1 rfl ?_
  refine gf_aload_n C dd_Fi_change_1 0 rfl ?_
  refine gf_getA (r := 41) C gf_cl6 fl_Fi_35 dd_Fi_change_2 rfl (show gf_is 81 0 0 6 17 by decide) (by decide) (by decide) ?_
  refine gf_getI (z := 1) C gf_cl5 fl_Fi_168 dd_Fi_change_5 rfl rfl (show gf_is 81 41 0 5 5 by decide) (fun hv5 => ?_)
  refine gf_callSi (st := []) (As := [.int (gf_i k), .int (gf_i (μ 41 1))]) C wk_Fi_78 (ct_Fi_isWithin (gf_xl X) E k (μ 41 1) μ (by omega) (by omega)) rfl ⟨rfl, rfl, rfl, rfl⟩ (Nat.le_of_ble_eq_true rfl) rfl dd_Fi_change_8 (fun r8 m8 hR8 hp8 => ?_)
  have hr8 := hp8.1
  refine gf_pm hp8.2 ?_
  refine gf_if_eq 23 C dd_Fi_change_11 (by decide) (by omega) (fun h11 => ?_) (fun h11 => ?_)
  · skip
    refine gf_iconst C dd_Fi_change_23 ?_
    refine gf_iret C hQ dd_Fi_change_24 (by omega) ?_
    exact ⟨fun _ => ⟨rfl, rfl⟩, fun h => absurd h (by omega)⟩
  · skip
    refine gf_iload_n C dd_Fi_change_14 2 rfl ?_
    refine gf_bipush C dd_Fi_change_15 (by decide +kernel) ?_
    refine gf_callSi (st := []) (As := [.int (gf_i f), .int (gf_i 10)]) C wk_Fi_78 (ct_Fi_isWithin (gf_xl X) E f 10 μ (by omega) (by omega)) rfl ⟨rfl, rfl, rfl, rfl⟩ (Nat.le_of_ble_eq_true rfl) rfl dd_Fi_change_17 (fun r17 m17 hR17 hp17 => ?_)
    have hr17 := hp17.1
    refine gf_pm hp17.2 ?_
    refine gf_if_ne 25 C dd_Fi_change_20 (by decide) (by omega) (fun h20 => ?_) (fun h20 => ?_)
    · skip
      have hin : 0 ≤ k ∧ k < μ 41 1 := by have := hr8.1; have := hr8.2; omega
      have hin2 : 0 ≤ f ∧ f < 10 := by have := hr17.1; have := hr17.2; omega
      clear hr8 hr17 hp8 hp17
      refine gf_aload_n C dd_Fi_change_25 0 rfl ?_
      refine gf_getA (r := 41) C gf_cl6 fl_Fi_35 dd_Fi_change_26 rfl (show gf_is 81 0 0 6 17 by decide) (by decide) (by decide) ?_
      refine gf_getA (r := 42) C gf_cl5 fl_Fi_169 dd_Fi_change_29 rfl (show gf_is 81 41 0 5 5 by decide) (by decide) (by decide) ?_
      refine gf_iload_n C dd_Fi_change_32 1 rfl ?_
      refine gf_iald C dd_Fi_change_33 (show gf_is 81 42 1 0 8 by decide) (by omega) (fun hv33 => ?_)
      refine gf_nm (fun x34 hx34 => ?_)
      refine gf_istore_n (lv' := [(3, .int (gf_i x34)), (0, .ref (gf_ad E 0)), (1, .int (gf_i k)), (2, .int (gf_i f))]) C dd_Fi_change_34 (by decide) rfl ?_
      refine gf_iload_n C dd_Fi_change_35 0 rfl ?_
      refine gf_iload_n C dd_Fi_change_36 3 rfl ?_
      refine gf_icmp_ne 43 C dd_Fi_change_37 (by decide) (by omega) (by omega) (fun h37 => ?_) (fun h37 => ?_)
      · skip
        refine gf_aload_n C dd_Fi_change_43 1 rfl ?_
        refine gf_getA (r := 41) C gf_cl6 fl_Fi_35 dd_Fi_change_44 rfl (show gf_is 81 0 0 6 17 by decide) (by decide) (by decide) ?_
        refine gf_getI (z := 2) C gf_cl5 fl_Fi_172 dd_Fi_change_47 rfl rfl (show gf_is 81 41 0 5 5 by decide) (fun hv47 => ?_)
        refine gf_bipush C dd_Fi_change_50 (by decide +kernel) ?_
        refine gf_icmp_lt 58 C dd_Fi_change_52 (by decide) (by omega) (by omega) (fun h52 => ?_) (fun h52 => ?_)
        · skip
          refine gf_aload_n C dd_Fi_change_58 1 rfl ?_
          refine gf_getA (r := 41) C gf_cl6 fl_Fi_35 dd_Fi_change_59 rfl (show gf_is 81 0 0 6 17 by decide) (by decide) (by decide) ?_
          refine gf_callVv (st := []) (As := []) C wk_Fi_175 gf_cl5 (show gf_is 81 41 0 5 5 by decide) (ct_Wr_remember (gf_xl X) E 41 μ gf_oWr41 hs (by omega) hF) rfl ⟨rfl, rfl, rfl, rfl⟩ (Nat.le_of_ble_eq_true rfl) rfl dd_Fi_change_62 (fun m62 hp62 => ?_)
          have hm62 : m62 = gf_rmb μ := hp62
          have s41 : m62 41 1 = μ 41 1 := by rw [hm62]; exact gf_rmb_f μ (by decide) (by decide)
          have s42 : ∀ j : Int, m62 42 j = μ 42 j := fun j => by rw [hm62]; exact gf_rmb_f μ (by decide) (by omega)
          refine gf_aload_n C dd_Fi_change_65 1 rfl ?_
          refine gf_getA (r := 41) C gf_cl6 fl_Fi_35 dd_Fi_change_66 rfl (show gf_is 81 0 0 6 17 by decide) (by decide) (by decide) ?_
          refine gf_getA (r := 42) C gf_cl5 fl_Fi_169 dd_Fi_change_69 rfl (show gf_is 81 41 0 5 5 by decide) (by decide) (by decide) ?_
          refine gf_iload_n C dd_Fi_change_72 2 rfl ?_
          refine gf_iload_n C dd_Fi_change_73 3 rfl ?_
          refine gf_iast C dd_Fi_change_74 (show gf_is 81 42 1 0 8 by decide) (by omega) (by omega) ?_
          refine gf_nmM (fun m74 hm74 => ?_)
          refine gf_iload_n C dd_Fi_change_75 0 rfl ?_
          refine gf_iret C hQ dd_Fi_change_76 (by omega) ?_
          exact ⟨fun h => absurd h (by omega), fun _ => ⟨fun h => absurd h (by omega), fun _ => ⟨fun h => absurd h (by omega), fun _ => ⟨hx34, by rw [hm74, hm62]⟩⟩⟩⟩
        · skip
          refine gf_bipush C dd_Fi_change_55 (by decide +kernel) ?_
          refine gf_iret C hQ dd_Fi_change_57 (by omega) ?_
          exact ⟨fun h => absurd h (by omega), fun _ => ⟨fun h => absurd h (by omega), fun _ => ⟨fun _ => ⟨rfl, rfl⟩, fun h => absurd h (by omega)⟩⟩⟩
      · skip
        refine gf_bipush C dd_Fi_change_40 (by decide +kernel) ?_
        refine gf_iret C hQ dd_Fi_change_42 (by omega) ?_
        exact ⟨fun h => absurd h (by omega), fun _ => ⟨fun _ => ⟨rfl, rfl⟩, fun h => absurd h (by omega)⟩⟩
    · skip
      refine gf_iconst C dd_Fi_change_23 ?_
      refine gf_iret C hQ dd_Fi_change_24 (by omega) ?_
      exact ⟨fun _ => ⟨rfl, rfl⟩, fun h => absurd h (by omega)⟩

theorem dd_Fi_swap_0 : decode cc_Fi_swap 0 = .ok (.iload_n 1, 1) := by decide +kernel
theorem dd_Fi_swap_1 : decode cc_Fi_swap 1 = .ok (.aload_n 0, 1) := by decide +kernel
theorem dd_Fi_swap_2 : decode cc_Fi_swap 2 = .ok (.getfield 35, 3) := by decide +kernel
theorem dd_Fi_swap_5 : decode cc_Fi_swap 5 = .ok (.getfield 168, 3) := by decide +kernel
theorem dd_Fi_swap_8 : decode cc_Fi_swap 8 = .ok (.iconst 1, 1) := by decide +kernel
theorem dd_Fi_swap_9 : decode cc_Fi_swap 9 = .ok (.isub, 1) := by decide +kernel
theorem dd_Fi_swap_10 : decode cc_Fi_swap 10 = .ok (.invokestatic 78, 3) := by decide +kernel
theorem dd_Fi_swap_13 : decode cc_Fi_swap 13 = .ok (.ifCond .ne 5, 3) := by decide +kernel
theorem dd_Fi_swap_16 : decode cc_Fi_swap 16 = .ok (.iconst (-1), 1) := by decide +kernel
theorem dd_Fi_swap_17 : decode cc_Fi_swap 17 = .ok (.ireturn, 1) := by decide +kernel
theorem dd_Fi_swap_18 : decode cc_Fi_swap 18 = .ok (.aload_n 0, 1) := by decide +kernel
theorem dd_Fi_swap_19 : decode cc_Fi_swap 19 = .ok (.getfield 35, 3) := by decide +kernel
theorem dd_Fi_swap_22 : decode cc_Fi_swap 22 = .ok (.getfield 172, 3) := by decide +kernel
theorem dd_Fi_swap_25 : decode cc_Fi_swap 25 = .ok (.bipush 40, 2) := by decide +kernel
theorem dd_Fi_swap_27 : decode cc_Fi_swap 27 = .ok (.if_icmp .lt 6, 3) := by decide +kernel
theorem dd_Fi_swap_30 : decode cc_Fi_swap 30 = .ok (.bipush (-2), 2) := by decide +kernel
theorem dd_Fi_swap_32 : decode cc_Fi_swap 32 = .ok (.ireturn, 1) := by decide +kernel
theorem dd_Fi_swap_33 : decode cc_Fi_swap 33 = .ok (.aload_n 0, 1) := by decide +kernel
theorem dd_Fi_swap_34 : decode cc_Fi_swap 34 = .ok (.getfield 35, 3) := by decide +kernel
theorem dd_Fi_swap_37 : decode cc_Fi_swap 37 = .ok (.invokevirtual 175, 3) := by decide +kernel
theorem dd_Fi_swap_40 : decode cc_Fi_swap 40 = .ok (.aload_n 0, 1) := by decide +kernel
theorem dd_Fi_swap_41 : decode cc_Fi_swap 41 = .ok (.getfield 35, 3) := by decide +kernel
theorem dd_Fi_swap_44 : decode cc_Fi_swap 44 = .ok (.getfield 169, 3) := by decide +kernel
theorem dd_Fi_swap_47 : decode cc_Fi_swap 47 = .ok (.iload_n 1, 1) := by decide +kernel
theorem dd_Fi_swap_48 : decode cc_Fi_swap 48 = .ok (.iload_n 1, 1) := by decide +kernel
theorem dd_Fi_swap_49 : decode cc_Fi_swap 49 = .ok (.iconst 1, 1) := by decide +kernel
theorem dd_Fi_swap_50 : decode cc_Fi_swap 50 = .ok (.iadd, 1) := by decide +kernel
theorem dd_Fi_swap_51 : decode cc_Fi_swap 51 = .ok (.invokestatic 185, 3) := by decide +kernel
theorem dd_Fi_swap_54 : decode cc_Fi_swap 54 = .ok (.aload_n 0, 1) := by decide +kernel
theorem dd_Fi_swap_55 : decode cc_Fi_swap 55 = .ok (.getfield 35, 3) := by decide +kernel
theorem dd_Fi_swap_58 : decode cc_Fi_swap 58 = .ok (.getfield 169, 3) := by decide +kernel
theorem dd_Fi_swap_61 : decode cc_Fi_swap 61 = .ok (.iload_n 1, 1) := by decide +kernel
theorem dd_Fi_swap_62 : decode cc_Fi_swap 62 = .ok (.iaload, 1) := by decide +kernel
theorem dd_Fi_swap_63 : decode cc_Fi_swap 63 = .ok (.ireturn, 1) := by decide +kernel
set_option maxRecDepth 100000 in
set_option maxHeartbeats 4000000 in
theorem ct_Fi_swap (l : Launch) (E : gf_E) (k : Int) (μ : gf_M) (hk : gf_R k) (hs : 0 ≤ μ 41 1 ∧ μ 41 1 ≤ 8) (hd : 0 ≤ μ 41 2 ∧ μ 41 2 ≤ 40) (hF : gf_okF μ 42 (μ 41 1)) : gf_Mi l E yy_Fi_swap cc_Fi_swap 2 .int (gf_rm 1 23) 81 gf_ref μ [.ref (gf_ad E 0), .int (gf_i k)] (fun q μ' => (¬ (0 ≤ k ∧ k < μ 41 1 - 1) → q = -1 ∧ μ' = μ) ∧ (0 ≤ k ∧ k < μ 41 1 - 1 → (μ 41 2 = 40 → q = -2 ∧ μ' = μ) ∧ (μ 41 2 < 40 → q = μ 42 (k + 1) ∧ μ' = gf_up (gf_up (gf_rmb μ) 42 k (μ 42 (k + 1))) 42 (k + 1) (μ 42 k)))) := by
  refine gf_mi (by decide +kernel) (Nat.le_of_ble_eq_true rfl) (by decide) (fun X Q hlx C hQ => ?_)
  subst hlx
  replace C : gf_C X E cc_Fi_swap 2 "GuardFigures" (gf_rm 1 23) := C
  show gf_G X E Q 2 gf_φ μ 0 [(0, .ref (gf_ad E 0)), (1, .int (gf_i k))] []
  refine gf_iload_n C dd_Fi_swap_0 1 rfl ?_
  refine gf_aload_n C dd_Fi_swap_1 0 rfl ?_
  refine gf_getA (r := 41) C gf_cl6 fl_Fi_35 dd_Fi_swap_2 rfl (show gf_is 81 0 0 6 17 by decide) (by decide) (by decide) ?_
  refine gf_getI (z := 1) C gf_cl5 fl_Fi_168 dd_Fi_swap_5 rfl rfl (show gf_is 81 41 0 5 5 by decide) (fun hv5 => ?_)
  refine gf_iconst C dd_Fi_swap_8 ?_
  refine gf_isub C dd_Fi_swap_9 ?_
  refine gf_callSi (st := []) (As := [.int (gf_i k), .int (gf_i ((μ 41 1) - 1))]) C wk_Fi_78 (ct_Fi_isWithin (gf_xl X) E k ((μ 41 1) - 1) μ (by omega) (by omega)) rfl ⟨rfl, rfl, rfl, rfl⟩ (Nat.le_of_ble_eq_true rfl) rfl dd_Fi_swap_10 (fun r10 m10 hR10 hp10 => ?_)
  have hr10 := hp10.1
  refine gf_pm hp10.2 ?_
  refine gf_if_ne 18 C dd_Fi_swap_13 (by decide) (by omega) (fun h13 => ?_) (fun h13 => ?_)
  · skip
    refine gf_aload_n C dd_Fi_swap_18 0 rfl ?_
    refine gf_getA (r := 41) C gf_cl6 fl_Fi_35 dd_Fi_swap_19 rfl (show gf_is 81 0 0 6 17 by decide) (by decide) (by decide) ?_
    refine gf_getI (z := 2) C gf_cl5 fl_Fi_172 dd_Fi_swap_22 rfl rfl (show gf_is 81 41 0 5 5 by decide) (fun hv22 => ?_)
    refine gf_bipush C dd_Fi_swap_25 (by decide +kernel) ?_
    refine gf_icmp_lt 33 C dd_Fi_swap_27 (by decide) (by omega) (by omega) (fun h27 => ?_) (fun h27 => ?_)
    · skip
      refine gf_aload_n C dd_Fi_swap_33 0 rfl ?_
      refine gf_getA (r := 41) C gf_cl6 fl_Fi_35 dd_Fi_swap_34 rfl (show gf_is 81 0 0 6 17 by decide) (by decide) (by decide) ?_
      refine gf_callVv (st := []) (As := []) C wk_Fi_175 gf_cl5 (show gf_is 81 41 0 5 5 by decide) (ct_Wr_remember (gf_xl X) E 41 μ gf_oWr41 hs (by omega) hF) rfl ⟨rfl, rfl, rfl, rfl⟩ (Nat.le_of_ble_eq_true rfl) rfl dd_Fi_swap_37 (fun m37 hp37 => ?_)
      have hm37 : m37 = gf_rmb μ := hp37
      have s41 : m37 41 1 = μ 41 1 := by rw [hm37]; exact gf_rmb_f μ (by decide) (by decide)
      have s42 : ∀ j : Int, m37 42 j = μ 42 j := fun j => by rw [hm37]; exact gf_rmb_f μ (by decide) (by omega)
      refine gf_aload_n C dd_Fi_swap_40 0 rfl ?_
      refine gf_getA (r := 41) C gf_cl6 fl_Fi_35 dd_Fi_swap_41 rfl (show gf_is 81 0 0 6 17 by decide) (by decide) (by decide) ?_
      refine gf_getA (r := 42) C gf_cl5 fl_Fi_169 dd_Fi_swap_44 rfl (show gf_is 81 41 0 5 5 by decide) (by decide) (by decide) ?_
      refine gf_iload_n C dd_Fi_swap_47 1 rfl ?_
      refine gf_iload_n C dd_Fi_swap_48 1 rfl ?_
      refine gf_iconst C dd_Fi_swap_49 ?_
      refine gf_iadd C dd_Fi_swap_50 ?_
      refine gf_callSv (st := []) (As := [.ref (gf_ad E 42), .int (gf_i k), .int (gf_i (k + 1))]) C wk_Fi_185 (ct_Fi_exchange (gf_xl X) E 42 k (k + 1) 8 m37 (show gf_is 81 42 1 0 8 by decide) (by omega) (by omega)) rfl ⟨rfl, rfl, rfl, rfl⟩ (Nat.le_of_ble_eq_true rfl) rfl dd_Fi_swap_51 (fun m51 hp51 => ?_)
      refine gf_aload_n C dd_Fi_swap_54 0 rfl ?_
      refine gf_getA (r := 41) C gf_cl6 fl_Fi_35 dd_Fi_swap_55 rfl (show gf_is 81 0 0 6 17 by decide) (by decide) (by decide) ?_
      refine gf_getA (r := 42) C gf_cl5 fl_Fi_169 dd_Fi_swap_58 rfl (show gf_is 81 41 0 5 5 by decide) (by decide) (by decide) ?_
      refine gf_iload_n C dd_Fi_swap_61 1 rfl ?_
      refine gf_iald C dd_Fi_swap_62 (show gf_is 81 42 1 0 8 by decide) (by omega) (fun hv62 => ?_)
      refine gf_iret C hQ dd_Fi_swap_63 (by omega) ?_
      have hm51 : m51 = gf_up (gf_up (gf_rmb μ) 42 k (μ 42 (k + 1))) 42 (k + 1) (μ 42 k) := by rw [hp51, s42, s42, hm37]
      exact ⟨fun h => absurd h (by omega), fun _ => ⟨fun h => absurd h (by omega), fun _ => ⟨by rw [hm51, gf_up_j (by omega)]; exact gf_up_s, hm51⟩⟩⟩
    · skip
      refine gf_bipush C dd_Fi_swap_30 (by decide +kernel) ?_
      refine gf_iret C hQ dd_Fi_swap_32 (by omega) ?_
      exact ⟨fun h => absurd h (by omega), fun _ => ⟨fun _ => ⟨rfl, rfl⟩, fun h => absurd h (by omega)⟩⟩
  · skip
    refine gf_iconst C dd_Fi_swap_16 ?_
    refine gf_iret C hQ dd_Fi_swap_17 (by omega) ?_
    exact ⟨fun _ => ⟨rfl, rfl⟩, fun h => absurd h (by omega)⟩

theorem dd_Fi_undo_0 : decode cc_Fi_undo 0 = .ok (.iload_n 1, 1) := by decide +kernel
theorem dd_Fi_undo_1 : decode cc_Fi_undo 1 = .ok (.ifCond .lt 14, 3) := by decide +kernel
theorem dd_Fi_undo_4 : decode cc_Fi_undo 4 = .ok (.iload_n 1, 1) := by decide +kernel
theorem dd_Fi_undo_5 : decode cc_Fi_undo 5 = .ok (.aload_n 0, 1) := by decide +kernel
theorem dd_Fi_undo_6 : decode cc_Fi_undo 6 = .ok (.getfield 35, 3) := by decide +kernel
theorem dd_Fi_undo_9 : decode cc_Fi_undo 9 = .ok (.getfield 172, 3) := by decide +kernel
theorem dd_Fi_undo_12 : decode cc_Fi_undo 12 = .ok (.if_icmp .le 5, 3) := by decide +kernel
theorem dd_Fi_undo_15 : decode cc_Fi_undo 15 = .ok (.iconst (-1), 1) := by decide +kernel
theorem dd_Fi_undo_16 : decode cc_Fi_undo 16 = .ok (.ireturn, 1) := by decide +kernel
theorem dd_Fi_undo_17 : decode cc_Fi_undo 17 = .ok (.aload_n 0, 1) := by decide +kernel
theorem dd_Fi_undo_18 : decode cc_Fi_undo 18 = .ok (.getfield 35, 3) := by decide +kernel
theorem dd_Fi_undo_21 : decode cc_Fi_undo 21 = .ok (.getfield 172, 3) := by decide +kernel
theorem dd_Fi_undo_24 : decode cc_Fi_undo 24 = .ok (.iload_n 1, 1) := by decide +kernel
theorem dd_Fi_undo_25 : decode cc_Fi_undo 25 = .ok (.isub, 1) := by decide +kernel
theorem dd_Fi_undo_26 : decode cc_Fi_undo 26 = .ok (.istore_n 2, 1) := by decide +kernel
theorem dd_Fi_undo_27 : decode cc_Fi_undo 27 = .ok (.aload_n 0, 1) := by decide +kernel
theorem dd_Fi_undo_28 : decode cc_Fi_undo 28 = .ok (.getfield 35, 3) := by decide +kernel
theorem dd_Fi_undo_31 : decode cc_Fi_undo 31 = .ok (.iload_n 1, 1) := by decide +kernel
theorem dd_Fi_undo_32 : decode cc_Fi_undo 32 = .ok (.invokevirtual 189, 3) := by decide +kernel
theorem dd_Fi_undo_35 : decode cc_Fi_undo 35 = .ok (.iload_n 2, 1) := by decide +kernel
theorem dd_Fi_undo_36 : decode cc_Fi_undo 36 = .ok (.ireturn, 1) := by decide +kernel
set_option maxRecDepth 100000 in
set_option maxHeartbeats 4000000 in
theorem ct_Fi_undo (l : Launch) (E : gf_E) (n : Int) (lf : Int → Int → Int) (ll : Int → Nat) (μ : gf_M) (hn : gf_R n) (hd : 0 ≤ μ 41 2 ∧ μ 41 2 ≤ 40) (hlog : ∀ d : Int, 0 ≤ d → d < μ 41 2 → ll d ≤ 8 ∧ (∀ j : Int, 0 ≤ j → j < ll d → 0 ≤ lf d j ∧ lf d j ≤ 9) ∧ μ 43 d = pf_enc (lf d) (ll d)) : gf_Mi l E yy_Fi_undo cc_Fi_undo 3 .int (gf_rm 1 23) 81 gf_ref μ [.ref (gf_ad E 0), .int (gf_i n)] (fun q μ' => (¬ (0 ≤ n ∧ n ≤ μ 41 2) → q = -1 ∧ μ' = μ) ∧ (n = μ 41 2 → q = 0 ∧ μ' = μ) ∧ (0 ≤ n ∧ n < μ 41 2 → q = μ 41 2 - n ∧ μ' 41 1 = ll n ∧ μ' 41 2 = n ∧ (∀ j : Int, 0 ≤ j → j < ll n → μ' 42 j = lf n j) ∧ ∀ a b : Int, ¬ (a = 41 ∧ (b = 1 ∨ b = 2)) → a ≠ 42 → μ' a b = μ a b)) := by
  refine gf_mi (by decide +kernel) (Nat.le_of_ble_eq_true rfl) (by decide) (fun X Q hlx C hQ => ?_)
  subst hlx
  replace C : gf_C X E cc_Fi_undo 3 "GuardFigures" (gf_rm 1 23) := C
  show gf_G X E Q 3 gf_φ μ 0 [(0, .ref (gf_ad E 0)), (1, .int (gf_i n))] []
  refine gf_iload_n C dd_Fi_undo_0 1 rfl ?_
  refine gf_if_lt 15 C dd_Fi_undo_1 (by decide) (by omega) (fun h1 => ?_) (fun h1 => ?_)
  · skip
    refine gf_iconst C dd_Fi_undo_15 ?_
    refine gf_iret C hQ dd_Fi_undo_16 (by omega) ?_
    exact ⟨fun _ => ⟨rfl, rfl⟩, fun h => absurd h (by omega), fun h => absurd h (by omega)⟩
  · skip
    refine gf_iload_n C dd_Fi_undo_4 1 rfl ?_
    refine gf_aload_n C dd_Fi_undo_5 0 rfl ?_
    refine gf_getA (r := 41) C gf_cl6 fl_Fi_35 dd_Fi_undo_6 rfl (show gf_is 81 0 0 6 17 by decide) (by decide) (by decide) ?_
    refine gf_getI (z := 2) C gf_cl5 fl_Fi_172 dd_Fi_undo_9 rfl rfl (show gf_is 81 41 0 5 5 by decide) (fun hv9 => ?_)
    refine gf_icmp_le 17 C dd_Fi_undo_12 (by decide) (by omega) (by omega) (fun h12 => ?_) (fun h12 => ?_)
    · skip
      refine gf_aload_n C dd_Fi_undo_17 0 rfl ?_
      refine gf_getA (r := 41) C gf_cl6 fl_Fi_35 dd_Fi_undo_18 rfl (show gf_is 81 0 0 6 17 by decide) (by decide) (by decide) ?_
      refine gf_getI (z := 2) C gf_cl5 fl_Fi_172 dd_Fi_undo_21 rfl rfl (show gf_is 81 41 0 5 5 by decide) (fun hv21 => ?_)
      refine gf_iload_n C dd_Fi_undo_24 1 rfl ?_
      refine gf_isub C dd_Fi_undo_25 ?_
      refine gf_nm (fun x26 hx26 => ?_)
      refine gf_istore_n (lv' := [(2, .int (gf_i x26)), (0, .ref (gf_ad E 0)), (1, .int (gf_i n))]) C dd_Fi_undo_26 (by decide) rfl ?_
      obtain ⟨L, f, hL, hf, he, hLn, hfn⟩ : ∃ (L : Nat) (f : Int → Int), L ≤ 8 ∧ (∀ j : Int, 0 ≤ j → j < L → 0 ≤ f j ∧ f j ≤ 9) ∧ (n < μ 41 2 → μ 43 n = pf_enc f L) ∧ (n < μ 41 2 → L = ll n) ∧ (n < μ 41 2 → f = lf n) := by
        by_cases h : n < μ 41 2
        · have h2 := hlog n (by omega) h
          exact ⟨ll n, lf n, h2.1, h2.2.1, fun _ => h2.2.2, fun _ => rfl, fun _ => rfl⟩
        · exact ⟨0, fun _ => 0, by omega, fun j _ _ => by omega, fun z => absurd z h, fun z => absurd z h, fun z => absurd z h⟩
      refine gf_aload_n C dd_Fi_undo_27 1 rfl ?_
      refine gf_getA (r := 41) C gf_cl6 fl_Fi_35 dd_Fi_undo_28 rfl (show gf_is 81 0 0 6 17 by decide) (by decide) (by decide) ?_
      refine gf_iload_n C dd_Fi_undo_31 2 rfl ?_
      refine gf_callVv (st := []) (As := [.int (gf_i n)]) C wk_Fi_189 gf_cl5 (show gf_is 81 41 0 5 5 by decide) (ct_Wr_goBackTo (gf_xl X) E 41 μ gf_oWr41 n f L (by omega) hd.2 hL hf he) rfl ⟨rfl, rfl, rfl, rfl⟩ (Nat.le_of_ble_eq_true rfl) rfl dd_Fi_undo_32 (fun m32 hp32 => ?_)
      refine gf_iload_n C dd_Fi_undo_35 0 rfl ?_
      refine gf_iret C hQ dd_Fi_undo_36 (by omega) ?_
      refine ⟨fun h => absurd h (by omega), fun h => ⟨by omega, hp32.1 h⟩, fun h => ?_⟩
      obtain ⟨h1, h2, h3, h4⟩ := hp32.2 h.2
      rw [hLn h.2, hfn h.2] at h3
      rw [hLn h.2] at h1
      exact ⟨hx26, h1, h2, h3, h4⟩
    · skip
      refine gf_iconst C dd_Fi_undo_15 ?_
      refine gf_iret C hQ dd_Fi_undo_16 (by omega) ?_
      exact ⟨fun _ => ⟨rfl, rfl⟩, fun h => absurd h (by omega), fun h => absurd h (by omega)⟩

theorem dd_Fi_keep_0 : decode cc_Fi_keep 0 = .ok (.iload_n 1, 1) := by decide +kernel
theorem dd_Fi_keep_1 : decode cc_Fi_keep 1 = .ok (.iconst 3, 1) := by decide +kernel
theorem dd_Fi_keep_2 : decode cc_Fi_keep 2 = .ok (.invokestatic 78, 3) := by decide +kernel
theorem dd_Fi_keep_5 : decode cc_Fi_keep 5 = .ok (.ifCond .ne 5, 3) := by decide +kernel
theorem dd_Fi_keep_8 : decode cc_Fi_keep 8 = .ok (.iconst (-1), 1) := by decide +kernel
theorem dd_Fi_keep_9 : decode cc_Fi_keep 9 = .ok (.ireturn, 1) := by decide +kernel
theorem dd_Fi_keep_10 : decode cc_Fi_keep 10 = .ok (.aload_n 0, 1) := by decide +kernel
theorem dd_Fi_keep_11 : decode cc_Fi_keep 11 = .ok (.getfield 131, 3) := by decide +kernel
theorem dd_Fi_keep_14 : decode cc_Fi_keep 14 = .ok (.ifCond .ne 6, 3) := by decide +kernel
theorem dd_Fi_keep_17 : decode cc_Fi_keep 17 = .ok (.bipush (-4), 2) := by decide +kernel
theorem dd_Fi_keep_19 : decode cc_Fi_keep 19 = .ok (.ireturn, 1) := by decide +kernel
theorem dd_Fi_keep_20 : decode cc_Fi_keep 20 = .ok (.aload_n 0, 1) := by decide +kernel
theorem dd_Fi_keep_21 : decode cc_Fi_keep 21 = .ok (.getfield 30, 3) := by decide +kernel
theorem dd_Fi_keep_24 : decode cc_Fi_keep 24 = .ok (.iload_n 1, 1) := by decide +kernel
theorem dd_Fi_keep_25 : decode cc_Fi_keep 25 = .ok (.aaload, 1) := by decide +kernel
theorem dd_Fi_keep_26 : decode cc_Fi_keep 26 = .ok (.aload_n 0, 1) := by decide +kernel
theorem dd_Fi_keep_27 : decode cc_Fi_keep 27 = .ok (.getfield 35, 3) := by decide +kernel
theorem dd_Fi_keep_30 : decode cc_Fi_keep 30 = .ok (.invokevirtual 192, 3) := by decide +kernel
theorem dd_Fi_keep_33 : decode cc_Fi_keep 33 = .ok (.aload_n 0, 1) := by decide +kernel
theorem dd_Fi_keep_34 : decode cc_Fi_keep 34 = .ok (.getfield 30, 3) := by decide +kernel
theorem dd_Fi_keep_37 : decode cc_Fi_keep 37 = .ok (.iload_n 1, 1) := by decide +kernel
theorem dd_Fi_keep_38 : decode cc_Fi_keep 38 = .ok (.aaload, 1) := by decide +kernel
theorem dd_Fi_keep_39 : decode cc_Fi_keep 39 = .ok (.iconst 1, 1) := by decide +kernel
theorem dd_Fi_keep_40 : decode cc_Fi_keep 40 = .ok (.putfield 140, 3) := by decide +kernel
theorem dd_Fi_keep_43 : decode cc_Fi_keep 43 = .ok (.aload_n 0, 1) := by decide +kernel
theorem dd_Fi_keep_44 : decode cc_Fi_keep 44 = .ok (.getfield 35, 3) := by decide +kernel
theorem dd_Fi_keep_47 : decode cc_Fi_keep 47 = .ok (.getfield 172, 3) := by decide +kernel
theorem dd_Fi_keep_50 : decode cc_Fi_keep 50 = .ok (.ireturn, 1) := by decide +kernel
set_option maxRecDepth 100000 in
set_option maxHeartbeats 4000000 in
theorem ct_Fi_keep (l : Launch) (E : gf_E) (k : Int) (μ : gf_M) (hk : gf_R k) (hc7 : 0 ≤ μ 0 3 ∧ μ 0 3 ≤ 7) (hs : 0 ≤ μ 41 1 ∧ μ 41 1 ≤ 8) (hd : 0 ≤ μ 41 2 ∧ μ 41 2 ≤ 40) : gf_Mi l E yy_Fi_keep cc_Fi_keep 2 .int (gf_rm 2 51) 81 gf_ref μ [.ref (gf_ad E 0), .int (gf_i k)] (fun q μ' => (¬ (0 ≤ k ∧ k < 3) → q = -1 ∧ μ' = μ) ∧ (0 ≤ k ∧ k < 3 → (μ 0 3 = 0 → q = -4 ∧ μ' = μ) ∧ (μ 0 3 ≠ 0 → q = μ 41 2 ∧ gf_rsm μ μ' (32 + 3 * k) 41 ∧ μ' (32 + 3 * k) 4 = 1))) := by
  refine gf_mi (by decide +kernel) (Nat.le_of_ble_eq_true rfl) (by decide) (fun X Q hlx C hQ => ?_)
  subst hlx
  replace C : gf_C X E cc_Fi_keep 2 "GuardFigures" (gf_rm 2 51) := C
  show gf_G X E Q 2 gf_φ μ 0 [(0, .ref (gf_ad E 0)), (1, .int (gf_i k))] []
  refine gf_iload_n C dd_Fi_keep_0 1 rfl ?_
  refine gf_iconst C dd_Fi_keep_1 ?_
  refine gf_callSi (st := []) (As := [.int (gf_i k), .int (gf_i 3)]) C wk_Fi_78 (ct_Fi_isWithin (gf_xl X) E k 3 μ (by omega) (by omega)) rfl ⟨rfl, rfl, rfl, rfl⟩ (Nat.le_of_ble_eq_true rfl) rfl dd_Fi_keep_2 (fun r2 m2 hR2 hp2 => ?_)
  have hr2 := hp2.1
  refine gf_pm hp2.2 ?_
  refine gf_if_ne 10 C dd_Fi_keep_5 (by decide) (by omega) (fun h5 => ?_) (fun h5 => ?_)
  · skip
    have hin : 0 ≤ k ∧ k < 3 := by have := hr2.1; have := hr2.2; omega
    refine gf_aload_n C dd_Fi_keep_10 0 rfl ?_
    refine gf_getI (z := 3) C gf_cl6 fl_Fi_131 dd_Fi_keep_11 rfl rfl (show gf_is 81 0 0 6 17 by decide) (fun hv11 => ?_)
    refine gf_if_ne 20 C dd_Fi_keep_14 (by decide) (by omega) (fun h14 => ?_) (fun h14 => ?_)
    · skip
      refine gf_aload_n C dd_Fi_keep_20 0 rfl ?_
      refine gf_getA (r := 31) C gf_cl6 fl_Fi_30 dd_Fi_keep_21 rfl (show gf_is 81 0 0 6 17 by decide) (by decide) (by decide) ?_
      refine gf_iload_n C dd_Fi_keep_24 1 rfl ?_
      have ha25 := gf_kept_of (r := k) (by omega)
      refine gf_aald C dd_Fi_keep_25 (show gf_is 81 31 4 5 3 by decide) (by decide) (by omega) ha25.1 (by first | omega | exact ha25.2.1.1 | exact ha25.2.1) ?_
      refine gf_aload_n C dd_Fi_keep_26 0 rfl ?_
      refine gf_getA (r := 41) C gf_cl6 fl_Fi_35 dd_Fi_keep_27 rfl (show gf_is 81 0 0 6 17 by decide) (by decide) (by decide) ?_
      refine gf_callVv (st := []) (As := [.ref (gf_ad E 41)]) C wk_Fi_192 gf_cl5 ha25.2.1 (ct_Wr_resemble (gf_xl X) E (32 + 3 * k) μ ha25.2 41 gf_oWr41 (by omega) hs hd) rfl ⟨rfl, rfl, rfl, rfl⟩ (Nat.le_of_ble_eq_true rfl) rfl dd_Fi_keep_30 (fun m30 hp30 => ?_)
      obtain ⟨g1, g2, g3, g4, g5⟩ := hp30
      refine gf_aload_n C dd_Fi_keep_33 0 rfl ?_
      refine gf_getA (r := 31) C gf_cl6 fl_Fi_30 dd_Fi_keep_34 rfl (show gf_is 81 0 0 6 17 by decide) (by decide) (by decide) ?_
      refine gf_iload_n C dd_Fi_keep_37 1 rfl ?_
      have ha38 := gf_kept_of (r := k) (by omega)
      refine gf_aald C dd_Fi_keep_38 (show gf_is 81 31 4 5 3 by decide) (by decide) (by omega) ha38.1 (by first | omega | exact ha38.2.1.1 | exact ha38.2.1) ?_
      refine gf_iconst C dd_Fi_keep_39 ?_
      refine gf_putZ (z := 4) C gf_cl5 fl_Fi_140 dd_Fi_keep_40 rfl rfl rfl (by decide +kernel) ha38.2.1 (by omega) ?_
      refine gf_nmM (fun m40 hm40 => ?_)
      have e41 : m40 41 2 = μ 41 2 := by rw [hm40, gf_up_k (by omega)]; exact g5 41 2 (by omega) (by omega) (by omega)
      refine gf_aload_n C dd_Fi_keep_43 0 rfl ?_
      refine gf_getA (r := 41) C gf_cl6 fl_Fi_35 dd_Fi_keep_44 rfl (show gf_is 81 0 0 6 17 by decide) (by decide) (by decide) ?_
      refine gf_getI (z := 2) C gf_cl5 fl_Fi_172 dd_Fi_keep_47 rfl rfl (show gf_is 81 41 0 5 5 by decide) (fun hv47 => ?_)
      refine gf_iret C hQ dd_Fi_keep_50 (by omega) ?_
      refine ⟨fun h => absurd h (by omega), fun _ => ⟨fun h => absurd h (by omega), fun _ => ⟨e41, ⟨?_, ?_, fun j h0 h1 => ?_, fun j h0 h1 => ?_, fun a b h1 h2 h3 => ?_⟩, by rw [hm40]; exact gf_up_s⟩⟩⟩
      · rw [hm40, gf_up_j (by decide)]; exact g1
      · rw [hm40, gf_up_j (by decide)]; exact g2
      · rw [hm40, gf_up_k (by omega)]; exact g3 j h0 h1
      · rw [hm40, gf_up_k (by omega)]; exact g4 j h0 h1
      · rw [hm40, gf_up_o (by omega)]; exact g5 a b (by omega) h2 h3
    · skip
      refine gf_bipush C dd_Fi_keep_17 (by decide +kernel) ?_
      refine gf_iret C hQ dd_Fi_keep_19 (by omega) ?_
      exact ⟨fun h => absurd h (by omega), fun _ => ⟨fun _ => ⟨rfl, rfl⟩, fun h => absurd h (by omega)⟩⟩
  · skip
    refine gf_iconst C dd_Fi_keep_8 ?_
    refine gf_iret C hQ dd_Fi_keep_9 (by omega) ?_
    exact ⟨fun _ => ⟨rfl, rfl⟩, fun h => absurd h (by omega)⟩

theorem dd_Fi_on_0 : decode cc_Fi_on 0 = .ok (.iload_n 1, 1) := by decide +kernel
theorem dd_Fi_on_1 : decode cc_Fi_on 1 = .ok (.iconst 3, 1) := by decide +kernel
theorem dd_Fi_on_2 : decode cc_Fi_on 2 = .ok (.invokestatic 78, 3) := by decide +kernel
theorem dd_Fi_on_5 : decode cc_Fi_on 5 = .ok (.ifCond .ne 5, 3) := by decide +kernel
theorem dd_Fi_on_8 : decode cc_Fi_on 8 = .ok (.iconst (-1), 1) := by decide +kernel
theorem dd_Fi_on_9 : decode cc_Fi_on 9 = .ok (.ireturn, 1) := by decide +kernel
theorem dd_Fi_on_10 : decode cc_Fi_on 10 = .ok (.aload_n 0, 1) := by decide +kernel
theorem dd_Fi_on_11 : decode cc_Fi_on 11 = .ok (.getfield 30, 3) := by decide +kernel
theorem dd_Fi_on_14 : decode cc_Fi_on 14 = .ok (.iload_n 1, 1) := by decide +kernel
theorem dd_Fi_on_15 : decode cc_Fi_on 15 = .ok (.aaload, 1) := by decide +kernel
theorem dd_Fi_on_16 : decode cc_Fi_on 16 = .ok (.getfield 140, 3) := by decide +kernel
theorem dd_Fi_on_19 : decode cc_Fi_on 19 = .ok (.ifCond .ne 9, 3) := by decide +kernel
theorem dd_Fi_on_22 : decode cc_Fi_on 22 = .ok (.aload_n 0, 1) := by decide +kernel
theorem dd_Fi_on_23 : decode cc_Fi_on 23 = .ok (.iconst 1, 1) := by decide +kernel
theorem dd_Fi_on_24 : decode cc_Fi_on 24 = .ok (.invokevirtual 104, 3) := by decide +kernel
theorem dd_Fi_on_27 : decode cc_Fi_on 27 = .ok (.ireturn, 1) := by decide +kernel
theorem dd_Fi_on_28 : decode cc_Fi_on 28 = .ok (.aload_n 0, 1) := by decide +kernel
theorem dd_Fi_on_29 : decode cc_Fi_on 29 = .ok (.getfield 35, 3) := by decide +kernel
theorem dd_Fi_on_32 : decode cc_Fi_on 32 = .ok (.aload_n 0, 1) := by decide +kernel
theorem dd_Fi_on_33 : decode cc_Fi_on 33 = .ok (.getfield 30, 3) := by decide +kernel
theorem dd_Fi_on_36 : decode cc_Fi_on 36 = .ok (.iload_n 1, 1) := by decide +kernel
theorem dd_Fi_on_37 : decode cc_Fi_on 37 = .ok (.aaload, 1) := by decide +kernel
theorem dd_Fi_on_38 : decode cc_Fi_on 38 = .ok (.invokevirtual 192, 3) := by decide +kernel
theorem dd_Fi_on_41 : decode cc_Fi_on 41 = .ok (.aload_n 0, 1) := by decide +kernel
theorem dd_Fi_on_42 : decode cc_Fi_on 42 = .ok (.getfield 35, 3) := by decide +kernel
theorem dd_Fi_on_45 : decode cc_Fi_on 45 = .ok (.getfield 172, 3) := by decide +kernel
theorem dd_Fi_on_48 : decode cc_Fi_on 48 = .ok (.ireturn, 1) := by decide +kernel
set_option maxRecDepth 100000 in
set_option maxHeartbeats 4000000 in
theorem ct_Fi_on (l : Launch) (E : gf_E) (k : Int) (μ : gf_M) (hk : gf_R k) (hkw : ∀ k : Int, 0 ≤ k → k < 3 → μ (32 + 3 * k) 4 ≠ 0 → (0 ≤ μ (32 + 3 * k) 1 ∧ μ (32 + 3 * k) 1 ≤ 8) ∧ 0 ≤ μ (32 + 3 * k) 2 ∧ μ (32 + 3 * k) 2 ≤ 40) : gf_Mi l E yy_Fi_on cc_Fi_on 2 .int (gf_rm 2 51) 81 gf_ref μ [.ref (gf_ad E 0), .int (gf_i k)] (fun q μ' => (¬ (0 ≤ k ∧ k < 3) → q = -1 ∧ μ' = μ) ∧ (0 ≤ k ∧ k < 3 → (μ (32 + 3 * k) 4 = 0 → q = -3 ∧ μ' = gf_fd μ 1) ∧ (μ (32 + 3 * k) 4 ≠ 0 → q = μ (32 + 3 * k) 2 ∧ gf_rsm μ μ' 41 (32 + 3 * k)))) := by
  refine gf_mi (by decide +kernel) (Nat.le_of_ble_eq_true rfl) (by decide) (fun X Q hlx C hQ => ?_)
  subst hlx
  replace C : gf_C X E cc_Fi_on 2 "GuardFigures" (gf_rm 2 51) := C
  show gf_G X E Q 2 gf_φ μ 0 [(0, .ref (gf_ad E 0)), (1, .int (gf_i k))] []
  refine gf_iload_n C dd_Fi_on_0 1 rfl ?_
  refine gf_iconst C dd_Fi_on_1 ?_
  refine gf_callSi (st := []) (As := [.int (gf_i k), .int (gf_i 3)]) C wk_Fi_78 (ct_Fi_isWithin (gf_xl X) E k 3 μ (by omega) (by omega)) rfl ⟨rfl, rfl, rfl, rfl⟩ (Nat.le_of_ble_eq_true rfl) rfl dd_Fi_on_2 (fun r2 m2 hR2 hp2 => ?_)
  have hr2 := hp2.1
  refine gf_pm hp2.2 ?_
  refine gf_if_ne 10 C dd_Fi_on_5 (by decide) (by omega) (fun h5 => ?_) (fun h5 => ?_)
  · skip
    have hin : 0 ≤ k ∧ k < 3 := by have := hr2.1; have := hr2.2; omega
    refine gf_aload_n C dd_Fi_on_10 0 rfl ?_
    refine gf_getA (r := 31) C gf_cl6 fl_Fi_30 dd_Fi_on_11 rfl (show gf_is 81 0 0 6 17 by decide) (by decide) (by decide) ?_
    refine gf_iload_n C dd_Fi_on_14 1 rfl ?_
    have ha15 := gf_kept_of (r := k) (by omega)
    refine gf_aald C dd_Fi_on_15 (show gf_is 81 31 4 5 3 by decide) (by decide) (by omega) ha15.1 (by first | omega | exact ha15.2.1.1 | exact ha15.2.1) ?_
    refine gf_getI (z := 4) C gf_cl5 fl_Fi_140 dd_Fi_on_16 rfl rfl ha15.2.1 (fun hv16 => ?_)
    refine gf_if_ne 28 C dd_Fi_on_19 (by decide) (by omega) (fun h19 => ?_) (fun h19 => ?_)
    · skip
      have hkk := hkw k hin.1 hin.2 (by omega)
      refine gf_aload_n C dd_Fi_on_28 0 rfl ?_
      refine gf_getA (r := 41) C gf_cl6 fl_Fi_35 dd_Fi_on_29 rfl (show gf_is 81 0 0 6 17 by decide) (by decide) (by decide) ?_
      refine gf_aload_n C dd_Fi_on_32 0 rfl ?_
      refine gf_getA (r := 31) C gf_cl6 fl_Fi_30 dd_Fi_on_33 rfl (show gf_is 81 0 0 6 17 by decide) (by decide) (by decide) ?_
      refine gf_iload_n C dd_Fi_on_36 1 rfl ?_
      have ha37 := gf_kept_of (r := k) (by omega)
      refine gf_aald C dd_Fi_on_37 (show gf_is 81 31 4 5 3 by decide) (by decide) (by omega) ha37.1 (by first | omega | exact ha37.2.1.1 | exact ha37.2.1) ?_
      refine gf_callVv (st := []) (As := [.ref (gf_ad E (32 + 3 * k))]) C wk_Fi_192 gf_cl5 (show gf_is 81 41 0 5 5 by decide) (ct_Wr_resemble (gf_xl X) E 41 μ gf_oWr41 (32 + 3 * k) ha37.2 (by omega) hkk.1 hkk.2) rfl ⟨rfl, rfl, rfl, rfl⟩ (Nat.le_of_ble_eq_true rfl) rfl dd_Fi_on_38 (fun m38 hp38 => ?_)
      obtain ⟨g1, g2, g3, g4, g5⟩ := hp38
      refine gf_aload_n C dd_Fi_on_41 0 rfl ?_
      refine gf_getA (r := 41) C gf_cl6 fl_Fi_35 dd_Fi_on_42 rfl (show gf_is 81 0 0 6 17 by decide) (by decide) (by decide) ?_
      refine gf_getI (z := 2) C gf_cl5 fl_Fi_172 dd_Fi_on_45 rfl rfl (show gf_is 81 41 0 5 5 by decide) (fun hv45 => ?_)
      refine gf_iret C hQ dd_Fi_on_48 (by omega) ?_
      exact ⟨fun h => absurd h (by omega), fun _ => ⟨fun h => absurd h (by omega), fun _ => ⟨g2, g1, g2, g3, g4, fun a b h1 h2 h3 => g5 a b (by omega) h2 h3⟩⟩⟩
    · skip
      refine gf_aload_n C dd_Fi_on_22 0 rfl ?_
      refine gf_iconst C dd_Fi_on_23 ?_
      refine gf_callVi (st := []) (As := [.int (gf_i 1)]) C wk_Fi_104 gf_cl6 (show gf_is 81 0 0 6 17 by decide) (ct_Fi_found (gf_xl X) E 1 μ (by omega)) rfl ⟨rfl, rfl, rfl, rfl⟩ (Nat.le_of_ble_eq_true rfl) rfl dd_Fi_on_24 (fun r24 m24 hR24 hp24 => ?_)
      refine gf_iret C hQ dd_Fi_on_27 (by omega) ?_
      exact ⟨fun h => absurd h (by omega), fun _ => ⟨fun _ => hp24, fun h => absurd h (by omega)⟩⟩
  · skip
    refine gf_iconst C dd_Fi_on_8 ?_
    refine gf_iret C hQ dd_Fi_on_9 (by omega) ?_
    exact ⟨fun _ => ⟨rfl, rfl⟩, fun h => absurd h (by omega)⟩
