/-! GuardFigures: rows and texts -/
theorem gf_cvi {X : gf_X} {E : gf_E} {Q : State → Prop} {nL : Nat} {φ : gf_F} {μ : gf_M} {pc : Nat} {lv : List (Nat × Value)} {st : List Value} {x y : Int} (h : gf_i x = gf_i y) (kk : gf_G X E Q nL φ μ pc lv (.int (gf_i y) :: st)) : gf_G X E Q nL φ μ pc lv (.int (gf_i x) :: st) := h ▸ kk
def gf_rnw (μ μ' : gf_M) (k n v : Int) : Prop := μ' k 1 = n ∧ (∀ j : Int, 0 ≤ j → j < n → μ' (k + 1) j = v) ∧ ∀ a b : Int, ¬ (a = k ∧ b = 1) → ¬ (a = k + 1 ∧ 0 ≤ b ∧ b < n) → μ' a b = μ a b
theorem dd_Fi_row_0 : decode cc_Fi_row 0 = .ok (.iload_n 1, 1) := by decide +kernel
theorem dd_Fi_row_1 : decode cc_Fi_row 1 = .ok (.bipush 6, 2) := by decide +kernel
theorem dd_Fi_row_3 : decode cc_Fi_row 3 = .ok (.invokestatic 78, 3) := by decide +kernel
theorem dd_Fi_row_6 : decode cc_Fi_row 6 = .ok (.ifCond .eq 9, 3) := by decide +kernel
theorem dd_Fi_row_9 : decode cc_Fi_row 9 = .ok (.iload_n 2, 1) := by decide +kernel
theorem dd_Fi_row_10 : decode cc_Fi_row 10 = .ok (.bipush 40, 2) := by decide +kernel
theorem dd_Fi_row_12 : decode cc_Fi_row 12 = .ok (.if_icmp .le 5, 3) := by decide +kernel
theorem dd_Fi_row_15 : decode cc_Fi_row 15 = .ok (.iconst (-1), 1) := by decide +kernel
theorem dd_Fi_row_16 : decode cc_Fi_row 16 = .ok (.ireturn, 1) := by decide +kernel
theorem dd_Fi_row_17 : decode cc_Fi_row 17 = .ok (.aload_n 0, 1) := by decide +kernel
theorem dd_Fi_row_18 : decode cc_Fi_row 18 = .ok (.aload_n 0, 1) := by decide +kernel
theorem dd_Fi_row_19 : decode cc_Fi_row 19 = .ok (.getfield 11, 3) := by decide +kernel
theorem dd_Fi_row_22 : decode cc_Fi_row 22 = .ok (.iload_n 1, 1) := by decide +kernel
theorem dd_Fi_row_23 : decode cc_Fi_row 23 = .ok (.aaload, 1) := by decide +kernel
theorem dd_Fi_row_24 : decode cc_Fi_row 24 = .ok (.iload_n 2, 1) := by decide +kernel
theorem dd_Fi_row_25 : decode cc_Fi_row 25 = .ok (.iconst 0, 1) := by decide +kernel
theorem dd_Fi_row_26 : decode cc_Fi_row 26 = .ok (.invokevirtual 82, 3) := by decide +kernel
theorem dd_Fi_row_29 : decode cc_Fi_row 29 = .ok (.ireturn, 1) := by decide +kernel
set_option maxRecDepth 100000 in
set_option maxHeartbeats 4000000 in
theorem ct_Fi_row (l : Launch) (E : gf_E) (r n : Int) (μ : gf_M) (hr : gf_R r) (hn : gf_R n) : gf_Mi l E yy_Fi_row cc_Fi_row 3 .int (gf_rm 3 76) 81 gf_ref μ [.ref (gf_ad E 0), .int (gf_i r), .int (gf_i n)] (fun q μ' => (¬ (0 ≤ r ∧ r < 6) ∨ 40 < n → q = -1 ∧ μ' = μ) ∧ (0 ≤ r ∧ r < 6 ∧ n ≤ 40 → (n < 0 → q = -3 ∧ μ' = gf_fd μ 5) ∧ (0 ≤ n → q = n ∧ gf_rnw μ μ' (2 + 2 * r) n 0))) := by
  refine gf_mi (by decide +kernel) (Nat.le_of_ble_eq_true rfl) (by decide) (fun X Q hlx C hQ => ?_)
  subst hlx
  replace C : gf_C X E cc_Fi_row 3 "GuardFigures" (gf_rm 3 76) := C
  show gf_G X E Q 3 gf_φ μ 0 [(0, .ref (gf_ad E 0)), (1, .int (gf_i r)), (2, .int (gf_i n))] []
  refine gf_iload_n C dd_Fi_row_0 1 rfl ?_
  refine gf_bipush C dd_Fi_row_1 (by decide +kernel) ?_
  refine gf_callSi (st := []) (As := [.int (gf_i r), .int (gf_i 6)]) C wk_Fi_78 (ct_Fi_isWithin (gf_xl X) E r 6 μ (by omega) (by omega)) rfl ⟨rfl, rfl, rfl, rfl⟩ (Nat.le_of_ble_eq_true rfl) rfl dd_Fi_row_3 (fun r3 m3 hR3 hp3 => ?_)
  have hr3 := hp3.1
  refine gf_pm hp3.2 ?_
  refine gf_if_eq 15 C dd_Fi_row_6 (by decide) (by omega) (fun h6 => ?_) (fun h6 => ?_)
  · skip
    refine gf_iconst C dd_Fi_row_15 ?_
    refine gf_iret C hQ dd_Fi_row_16 (by omega) ?_
    exact ⟨fun _ => ⟨rfl, rfl⟩, fun h => absurd h (by omega)⟩
  · skip
    refine gf_iload_n C dd_Fi_row_9 2 rfl ?_
    refine gf_bipush C dd_Fi_row_10 (by decide +kernel) ?_
    refine gf_icmp_le 17 C dd_Fi_row_12 (by decide) (by omega) (by omega) (fun h12 => ?_) (fun h12 => ?_)
    · skip
      refine gf_aload_n C dd_Fi_row_17 0 rfl ?_
      refine gf_aload_n C dd_Fi_row_18 0 rfl ?_
      refine gf_getA (r := 1) C gf_cl6 fl_Fi_11 dd_Fi_row_19 rfl (show gf_is 81 0 0 6 17 by decide) (by decide) (by decide) ?_
      refine gf_iload_n C dd_Fi_row_22 1 rfl ?_
      have ha23 := gf_row_of (r := r) (by omega)
      refine gf_aald C dd_Fi_row_23 (show gf_is 81 1 4 3 6 by decide) (by decide) (by omega) ha23.1 (by first | omega | exact ha23.2.1.1 | exact ha23.2.1) ?_
      refine gf_iload_n C dd_Fi_row_24 2 rfl ?_
      refine gf_iconst C dd_Fi_row_25 ?_
      refine gf_callVi (st := []) (As := [.ref (gf_ad E (2 + 2 * r)), .int (gf_i n), .int (gf_i 0)]) C wk_Fi_82 gf_cl6 (show gf_is 81 0 0 6 17 by decide) (ct_Fi_renew (gf_xl X) E (2 + 2 * r) n 0 40 μ ha23.2 (by omega) (by omega) (by decide)) rfl ⟨rfl, rfl, rfl, rfl⟩ (Nat.le_of_ble_eq_true rfl) rfl dd_Fi_row_26 (fun r26 m26 hR26 hp26 => ?_)
      refine gf_iret C hQ dd_Fi_row_29 (by omega) ?_
      exact ⟨fun h => absurd h (by omega), fun _ => hp26⟩
    · skip
      refine gf_iconst C dd_Fi_row_15 ?_
      refine gf_iret C hQ dd_Fi_row_16 (by omega) ?_
      exact ⟨fun _ => ⟨rfl, rfl⟩, fun h => absurd h (by omega)⟩

theorem dd_Fi_text_0 : decode cc_Fi_text 0 = .ok (.iload_n 1, 1) := by decide +kernel
theorem dd_Fi_text_1 : decode cc_Fi_text 1 = .ok (.iconst 4, 1) := by decide +kernel
theorem dd_Fi_text_2 : decode cc_Fi_text 2 = .ok (.invokestatic 78, 3) := by decide +kernel
theorem dd_Fi_text_5 : decode cc_Fi_text 5 = .ok (.ifCond .eq 9, 3) := by decide +kernel
theorem dd_Fi_text_8 : decode cc_Fi_text 8 = .ok (.iload_n 2, 1) := by decide +kernel
theorem dd_Fi_text_9 : decode cc_Fi_text 9 = .ok (.bipush 60, 2) := by decide +kernel
theorem dd_Fi_text_11 : decode cc_Fi_text 11 = .ok (.if_icmp .le 5, 3) := by decide +kernel
theorem dd_Fi_text_14 : decode cc_Fi_text 14 = .ok (.iconst (-1), 1) := by decide +kernel
theorem dd_Fi_text_15 : decode cc_Fi_text 15 = .ok (.ireturn, 1) := by decide +kernel
theorem dd_Fi_text_16 : decode cc_Fi_text 16 = .ok (.aload_n 0, 1) := by decide +kernel
theorem dd_Fi_text_17 : decode cc_Fi_text 17 = .ok (.aload_n 0, 1) := by decide +kernel
theorem dd_Fi_text_18 : decode cc_Fi_text 18 = .ok (.getfield 18, 3) := by decide +kernel
theorem dd_Fi_text_21 : decode cc_Fi_text 21 = .ok (.iload_n 1, 1) := by decide +kernel
theorem dd_Fi_text_22 : decode cc_Fi_text 22 = .ok (.aaload, 1) := by decide +kernel
theorem dd_Fi_text_23 : decode cc_Fi_text 23 = .ok (.iload_n 2, 1) := by decide +kernel
theorem dd_Fi_text_24 : decode cc_Fi_text 24 = .ok (.bipush 32, 2) := by decide +kernel
theorem dd_Fi_text_26 : decode cc_Fi_text 26 = .ok (.invokevirtual 82, 3) := by decide +kernel
theorem dd_Fi_text_29 : decode cc_Fi_text 29 = .ok (.ireturn, 1) := by decide +kernel
set_option maxRecDepth 100000 in
set_option maxHeartbeats 4000000 in
theorem ct_Fi_text (l : Launch) (E : gf_E) (r n : Int) (μ : gf_M) (hr : gf_R r) (hn : gf_R n) : gf_Mi l E yy_Fi_text cc_Fi_text 3 .int (gf_rm 3 76) 81 gf_ref μ [.ref (gf_ad E 0), .int (gf_i r), .int (gf_i n)] (fun q μ' => (¬ (0 ≤ r ∧ r < 4) ∨ 60 < n → q = -1 ∧ μ' = μ) ∧ (0 ≤ r ∧ r < 4 ∧ n ≤ 60 → (n < 0 → q = -3 ∧ μ' = gf_fd μ 5) ∧ (0 ≤ n → q = n ∧ gf_rnw μ μ' (15 + 2 * r) n 32))) := by
  refine gf_mi (by decide +kernel) (Nat.le_of_ble_eq_true rfl) (by decide) (fun X Q hlx C hQ => ?_)
  subst hlx
  replace C : gf_C X E cc_Fi_text 3 "GuardFigures" (gf_rm 3 76) := C
  show gf_G X E Q 3 gf_φ μ 0 [(0, .ref (gf_ad E 0)), (1, .int (gf_i r)), (2, .int (gf_i n))] []
  refine gf_iload_n C dd_Fi_text_0 1 rfl ?_
  refine gf_iconst C dd_Fi_text_1 ?_
  refine gf_callSi (st := []) (As := [.int (gf_i r), .int (gf_i 4)]) C wk_Fi_78 (ct_Fi_isWithin (gf_xl X) E r 4 μ (by omega) (by omega)) rfl ⟨rfl, rfl, rfl, rfl⟩ (Nat.le_of_ble_eq_true rfl) rfl dd_Fi_text_2 (fun r2 m2 hR2 hp2 => ?_)
  have hr2 := hp2.1
  refine gf_pm hp2.2 ?_
  refine gf_if_eq 14 C dd_Fi_text_5 (by decide) (by omega) (fun h5 => ?_) (fun h5 => ?_)
  · skip
    refine gf_iconst C dd_Fi_text_14 ?_
    refine gf_iret C hQ dd_Fi_text_15 (by omega) ?_
    exact ⟨fun _ => ⟨rfl, rfl⟩, fun h => absurd h (by omega)⟩
  · skip
    refine gf_iload_n C dd_Fi_text_8 2 rfl ?_
    refine gf_bipush C dd_Fi_text_9 (by decide +kernel) ?_
    refine gf_icmp_le 16 C dd_Fi_text_11 (by decide) (by omega) (by omega) (fun h11 => ?_) (fun h11 => ?_)
    · skip
      refine gf_aload_n C dd_Fi_text_16 0 rfl ?_
      refine gf_aload_n C dd_Fi_text_17 0 rfl ?_
      refine gf_getA (r := 14) C gf_cl6 fl_Fi_18 dd_Fi_text_18 rfl (show gf_is 81 0 0 6 17 by decide) (by decide) (by decide) ?_
      refine gf_iload_n C dd_Fi_text_21 1 rfl ?_
      have ha22 := gf_text_of (r := r) (by omega)
      refine gf_aald C dd_Fi_text_22 (show gf_is 81 14 4 3 4 by decide) (by decide) (by omega) ha22.1 (by first | omega | exact ha22.2.1.1 | exact ha22.2.1) ?_
      refine gf_iload_n C dd_Fi_text_23 2 rfl ?_
      refine gf_bipush C dd_Fi_text_24 (by decide +kernel) ?_
      refine gf_callVi (st := []) (As := [.ref (gf_ad E (15 + 2 * r)), .int (gf_i n), .int (gf_i 32)]) C wk_Fi_82 gf_cl6 (show gf_is 81 0 0 6 17 by decide) (ct_Fi_renew (gf_xl X) E (15 + 2 * r) n 32 60 μ ha22.2 (by omega) (by omega) (by decide)) rfl ⟨rfl, rfl, rfl, rfl⟩ (Nat.le_of_ble_eq_true rfl) rfl dd_Fi_text_26 (fun r26 m26 hR26 hp26 => ?_)
      refine gf_iret C hQ dd_Fi_text_29 (by omega) ?_
      exact ⟨fun h => absurd h (by omega), fun _ => hp26⟩
    · skip
      refine gf_iconst C dd_Fi_text_14 ?_
      refine gf_iret C hQ dd_Fi_text_15 (by omega) ?_
      exact ⟨fun _ => ⟨rfl, rfl⟩, fun h => absurd h (by omega)⟩

theorem dd_Fi_lay_0 : decode cc_Fi_lay 0 = .ok (.aload_n 0, 1) := by decide +kernel
theorem dd_Fi_lay_1 : decode cc_Fi_lay 1 = .ok (.iload_n 1, 1) := by decide +kernel
theorem dd_Fi_lay_2 : decode cc_Fi_lay 2 = .ok (.iload_n 2, 1) := by decide +kernel
theorem dd_Fi_lay_3 : decode cc_Fi_lay 3 = .ok (.invokevirtual 86, 3) := by decide +kernel
theorem dd_Fi_lay_6 : decode cc_Fi_lay 6 = .ok (.istore 4, 2) := by decide +kernel
theorem dd_Fi_lay_8 : decode cc_Fi_lay 8 = .ok (.iload 4, 2) := by decide +kernel
theorem dd_Fi_lay_10 : decode cc_Fi_lay 10 = .ok (.ifCond .eq 6, 3) := by decide +kernel
theorem dd_Fi_lay_13 : decode cc_Fi_lay 13 = .ok (.iload 4, 2) := by decide +kernel
theorem dd_Fi_lay_15 : decode cc_Fi_lay 15 = .ok (.ireturn, 1) := by decide +kernel
theorem dd_Fi_lay_16 : decode cc_Fi_lay 16 = .ok (.aload_n 0, 1) := by decide +kernel
theorem dd_Fi_lay_17 : decode cc_Fi_lay 17 = .ok (.aload_n 0, 1) := by decide +kernel
theorem dd_Fi_lay_18 : decode cc_Fi_lay 18 = .ok (.getfield 11, 3) := by decide +kernel
theorem dd_Fi_lay_21 : decode cc_Fi_lay 21 = .ok (.iload_n 1, 1) := by decide +kernel
theorem dd_Fi_lay_22 : decode cc_Fi_lay 22 = .ok (.aaload, 1) := by decide +kernel
theorem dd_Fi_lay_23 : decode cc_Fi_lay 23 = .ok (.iload_n 2, 1) := by decide +kernel
theorem dd_Fi_lay_24 : decode cc_Fi_lay 24 = .ok (.iload_n 3, 1) := by decide +kernel
theorem dd_Fi_lay_25 : decode cc_Fi_lay 25 = .ok (.invokevirtual 90, 3) := by decide +kernel
theorem dd_Fi_lay_28 : decode cc_Fi_lay 28 = .ok (.invokevirtual 93, 3) := by decide +kernel
theorem dd_Fi_lay_31 : decode cc_Fi_lay 31 = .ok (.ireturn, 1) := by decide +kernel
set_option maxRecDepth 100000 in
set_option maxHeartbeats 4000000 in
theorem ct_Fi_lay (l : Launch) (E : gf_E) (r i v : Int) (μ : gf_M) (hr : gf_R r) (hi : gf_R i) (hv : gf_R v) (hrw : ∀ r : Int, 0 ≤ r → r < 6 → -1 ≤ μ (2 + 2 * r) 1 ∧ μ (2 + 2 * r) 1 ≤ 40) : gf_Mi l E yy_Fi_lay cc_Fi_lay 5 .int (gf_rm 2 44) 81 gf_ref μ [.ref (gf_ad E 0), .int (gf_i r), .int (gf_i i), .int (gf_i v)] (fun q μ' => (¬ (0 ≤ r ∧ r < 6) → q = -1 ∧ μ' = μ) ∧ (0 ≤ r ∧ r < 6 → (μ (2 + 2 * r) 1 = -1 → q = -3 ∧ μ' = gf_fd μ 1) ∧ (μ (2 + 2 * r) 1 ≠ -1 → (¬ (0 ≤ i ∧ i < μ (2 + 2 * r) 1) → q = -3 ∧ μ' = gf_fd μ 2) ∧ (0 ≤ i ∧ i < μ (2 + 2 * r) 1 → q = 1 ∧ μ' = gf_tl (gf_up μ (3 + 2 * r) i v) (μ (3 + 2 * r) i))))) := by
  refine gf_mi (by decide +kernel) (Nat.le_of_ble_eq_true rfl) (by decide) (fun X Q hlx C hQ => ?_)
  subst hlx
  replace C : gf_C X E cc_Fi_lay 5 "GuardFigures" (gf_rm 2 44) := C
  show gf_G X E Q 5 gf_φ μ 0 [(0, .ref (gf_ad E 0)), (1, .int (gf_i r)), (2, .int (gf_i i)), (3, .int (gf_i v))] []
  refine gf_aload_n C dd_Fi_lay_0 0 rfl ?_
  refine gf_iload_n C dd_Fi_lay_1 1 rfl ?_
  refine gf_iload_n C dd_Fi_lay_2 2 rfl ?_
  refine gf_callVi (st := []) (As := [.int (gf_i r), .int (gf_i i)]) C wk_Fi_86 gf_cl6 (show gf_is 81 0 0 6 17 by decide) (ct_Fi_refusedPlace (gf_xl X) E r i μ (by omega) (by omega) (hrw)) rfl ⟨rfl, rfl, rfl, rfl⟩ (Nat.le_of_ble_eq_true rfl) rfl dd_Fi_lay_3 (fun r3 m3 hR3 hp3 => ?_)
  refine gf_istore (lv' := [(4, .int (gf_i r3)), (0, .ref (gf_ad E 0)), (1, .int (gf_i r)), (2, .int (gf_i i)), (3, .int (gf_i v))]) C dd_Fi_lay_6 (by decide) rfl ?_
  refine gf_iload C dd_Fi_lay_8 0 rfl ?_
  refine gf_if_eq 16 C dd_Fi_lay_10 (by decide) (by omega) (fun h10 => ?_) (fun h10 => ?_)
  · skip
    have hin : 0 ≤ r ∧ r < 6 := by
      rcases Classical.em (0 ≤ r ∧ r < 6) with h | h
      · exact h
      · have := (hp3.1 h).1; omega
    have h2 := hp3.2 hin
    have hth : μ (2 + 2 * r) 1 ≠ -1 := fun h => by have := (h2.1 h).1; omega
    have h3 := h2.2 hth
    have hpl : 0 ≤ i ∧ i < μ (2 + 2 * r) 1 := by
      rcases Classical.em (0 ≤ i ∧ i < μ (2 + 2 * r) 1) with h | h
      · exact h
      · have := (h3.1 h).1; omega
    have hm3 := (h3.2 hpl).2
    have hrr := hrw r hin.1 hin.2
    
    refine gf_aload_n C dd_Fi_lay_16 1 rfl ?_
    refine gf_aload_n C dd_Fi_lay_17 1 rfl ?_
    refine gf_getA (r := 1) C gf_cl6 fl_Fi_11 dd_Fi_lay_18 rfl (show gf_is 81 0 0 6 17 by decide) (by decide) (by decide) ?_
    refine gf_iload_n C dd_Fi_lay_21 2 rfl ?_
    have ha22 := gf_row_of (r := r) (by omega)
    refine gf_aald C dd_Fi_lay_22 (show gf_is 81 1 4 3 6 by decide) (by decide) (by omega) ha22.1 (by first | omega | exact ha22.2.1.1 | exact ha22.2.1) ?_
    refine gf_iload_n C dd_Fi_lay_23 3 rfl ?_
    refine gf_iload_n C dd_Fi_lay_24 4 rfl ?_
    refine gf_callVi (st := [.ref (gf_ad E 0)]) (As := [.int (gf_i i), .int (gf_i v)]) C wk_Fi_90 gf_cl3 ha22.2.1 (ct_Ro_replace (gf_xl X) E (2 + 2 * r) 40 m3 ha22.2 i v (by omega) (by omega)) rfl ⟨rfl, rfl, rfl, rfl⟩ (Nat.le_of_ble_eq_true rfl) rfl dd_Fi_lay_25 (fun r25 m25 hR25 hp25 => ?_)
    refine gf_callVi (st := []) (As := [.int (gf_i r25)]) C wk_Fi_93 gf_cl6 (show gf_is 81 0 0 6 17 by decide) (ct_Fi_tell (gf_xl X) E r25 m25 (by omega)) rfl ⟨rfl, rfl, rfl, rfl⟩ (Nat.le_of_ble_eq_true rfl) rfl dd_Fi_lay_28 (fun r28 m28 hR28 hp28 => ?_)
    refine gf_iret C hQ dd_Fi_lay_31 (by omega) ?_
    have e3 : (2 + 2 * r + 1 : Int) = 3 + 2 * r := by omega
    refine ⟨fun h => absurd hin h, fun _ => ⟨fun h => absurd h hth, fun _ => ⟨fun h => absurd hpl h, fun _ => ⟨hp28.1, ?_⟩⟩⟩⟩
    rw [hp28.2, hp25.2, hp25.1, hm3, e3]
  · skip
    refine gf_iload C dd_Fi_lay_13 0 rfl ?_
    refine gf_iret C hQ dd_Fi_lay_15 (by omega) ?_
    have hne : ¬ (r3 = 0) := by omega
    refine ⟨hp3.1, fun hin => ⟨(hp3.2 hin).1, fun hth => ⟨((hp3.2 hin).2 hth).1, fun hpl => absurd (((hp3.2 hin).2 hth).2 hpl).1 hne⟩⟩⟩

theorem dd_Fi_at_0 : decode cc_Fi_at 0 = .ok (.aload_n 0, 1) := by decide +kernel
theorem dd_Fi_at_1 : decode cc_Fi_at 1 = .ok (.iload_n 1, 1) := by decide +kernel
theorem dd_Fi_at_2 : decode cc_Fi_at 2 = .ok (.iload_n 2, 1) := by decide +kernel
theorem dd_Fi_at_3 : decode cc_Fi_at 3 = .ok (.invokevirtual 86, 3) := by decide +kernel
theorem dd_Fi_at_6 : decode cc_Fi_at 6 = .ok (.istore_n 3, 1) := by decide +kernel
theorem dd_Fi_at_7 : decode cc_Fi_at 7 = .ok (.iload_n 3, 1) := by decide +kernel
theorem dd_Fi_at_8 : decode cc_Fi_at 8 = .ok (.ifCond .eq 5, 3) := by decide +kernel
theorem dd_Fi_at_11 : decode cc_Fi_at 11 = .ok (.iload_n 3, 1) := by decide +kernel
theorem dd_Fi_at_12 : decode cc_Fi_at 12 = .ok (.ireturn, 1) := by decide +kernel
theorem dd_Fi_at_13 : decode cc_Fi_at 13 = .ok (.aload_n 0, 1) := by decide +kernel
theorem dd_Fi_at_14 : decode cc_Fi_at 14 = .ok (.aload_n 0, 1) := by decide +kernel
theorem dd_Fi_at_15 : decode cc_Fi_at 15 = .ok (.getfield 11, 3) := by decide +kernel
theorem dd_Fi_at_18 : decode cc_Fi_at 18 = .ok (.iload_n 1, 1) := by decide +kernel
theorem dd_Fi_at_19 : decode cc_Fi_at 19 = .ok (.aaload, 1) := by decide +kernel
theorem dd_Fi_at_20 : decode cc_Fi_at 20 = .ok (.getfield 97, 3) := by decide +kernel
theorem dd_Fi_at_23 : decode cc_Fi_at 23 = .ok (.iload_n 2, 1) := by decide +kernel
theorem dd_Fi_at_24 : decode cc_Fi_at 24 = .ok (.iaload, 1) := by decide +kernel
theorem dd_Fi_at_25 : decode cc_Fi_at 25 = .ok (.invokevirtual 93, 3) := by decide +kernel
theorem dd_Fi_at_28 : decode cc_Fi_at 28 = .ok (.ireturn, 1) := by decide +kernel
set_option maxRecDepth 100000 in
set_option maxHeartbeats 4000000 in
theorem ct_Fi_at (l : Launch) (E : gf_E) (r i : Int) (μ : gf_M) (hr : gf_R r) (hi : gf_R i) (hrw : ∀ r : Int, 0 ≤ r → r < 6 → -1 ≤ μ (2 + 2 * r) 1 ∧ μ (2 + 2 * r) 1 ≤ 40) : gf_Mi l E yy_Fi_at cc_Fi_at 4 .int (gf_rm 2 44) 81 gf_ref μ [.ref (gf_ad E 0), .int (gf_i r), .int (gf_i i)] (fun q μ' => (¬ (0 ≤ r ∧ r < 6) → q = -1 ∧ μ' = μ) ∧ (0 ≤ r ∧ r < 6 → (μ (2 + 2 * r) 1 = -1 → q = -3 ∧ μ' = gf_fd μ 1) ∧ (μ (2 + 2 * r) 1 ≠ -1 → (¬ (0 ≤ i ∧ i < μ (2 + 2 * r) 1) → q = -3 ∧ μ' = gf_fd μ 2) ∧ (0 ≤ i ∧ i < μ (2 + 2 * r) 1 → q = 1 ∧ μ' = gf_tl μ (μ (3 + 2 * r) i))))) := by
  refine gf_mi (by decide +kernel) (Nat.le_of_ble_eq_true rfl) (by decide) (fun X Q hlx C hQ => ?_)
  subst hlx
  replace C : gf_C X E cc_Fi_at 4 "GuardFigures" (gf_rm 2 44) := C
  show gf_G X E Q 4 gf_φ μ 0 [(0, .ref (gf_ad E 0)), (1, .int (gf_i r)), (2, .int (gf_i i))] []
  refine gf_aload_n C dd_Fi_at_0 0 rfl ?_
  refine gf_iload_n C dd_Fi_at_1 1 rfl ?_
  refine gf_iload_n C dd_Fi_at_2 2 rfl ?_
  refine gf_callVi (st := []) (As := [.int (gf_i r), .int (gf_i i)]) C wk_Fi_86 gf_cl6 (show gf_is 81 0 0 6 17 by decide) (ct_Fi_refusedPlace (gf_xl X) E r i μ (by omega) (by omega) (hrw)) rfl ⟨rfl, rfl, rfl, rfl⟩ (Nat.le_of_ble_eq_true rfl) rfl dd_Fi_at_3 (fun r3 m3 hR3 hp3 => ?_)
  refine gf_istore_n (lv' := [(3, .int (gf_i r3)), (0, .ref (gf_ad E 0)), (1, .int (gf_i r)), (2, .int (gf_i i))]) C dd_Fi_at_6 (by decide) rfl ?_
  refine gf_iload_n C dd_Fi_at_7 0 rfl ?_
  refine gf_if_eq 13 C dd_Fi_at_8 (by decide) (by omega) (fun h8 => ?_) (fun h8 => ?_)
  · skip
    have hin : 0 ≤ r ∧ r < 6 := by
      rcases Classical.em (0 ≤ r ∧ r < 6) with h | h
      · exact h
      · have := (hp3.1 h).1; omega
    have h2 := hp3.2 hin
    have hth : μ (2 + 2 * r) 1 ≠ -1 := fun h => by have := (h2.1 h).1; omega
    have h3 := h2.2 hth
    have hpl : 0 ≤ i ∧ i < μ (2 + 2 * r) 1 := by
      rcases Classical.em (0 ≤ i ∧ i < μ (2 + 2 * r) 1) with h | h
      · exact h
      · have := (h3.1 h).1; omega
    have hm3 := (h3.2 hpl).2
    have hrr := hrw r hin.1 hin.2
    
    refine gf_aload_n C dd_Fi_at_13 1 rfl ?_
    refine gf_aload_n C dd_Fi_at_14 1 rfl ?_
    refine gf_getA (r := 1) C gf_cl6 fl_Fi_11 dd_Fi_at_15 rfl (show gf_is 81 0 0 6 17 by decide) (by decide) (by decide) ?_
    refine gf_iload_n C dd_Fi_at_18 2 rfl ?_
    have ha19 := gf_row_of (r := r) (by omega)
    refine gf_aald C dd_Fi_at_19 (show gf_is 81 1 4 3 6 by decide) (by decide) (by omega) ha19.1 (by first | omega | exact ha19.2.1.1 | exact ha19.2.1) ?_
    refine gf_getA (r := ((2 + 2 * r) + 1)) C gf_cl3 fl_Fi_97 dd_Fi_at_20 rfl ha19.2.1 ha19.2.2.1 (ha19.2.2.2).1 ?_
    refine gf_iload_n C dd_Fi_at_23 3 rfl ?_
    refine gf_iald C dd_Fi_at_24 ha19.2.2.2 (by omega) (fun hv24 => ?_)
    refine gf_callVi (st := []) (As := [.int (gf_i (m3 ((2 + 2 * r) + 1) i))]) C wk_Fi_93 gf_cl6 (show gf_is 81 0 0 6 17 by decide) (ct_Fi_tell (gf_xl X) E (m3 ((2 + 2 * r) + 1) i) m3 (by omega)) rfl ⟨rfl, rfl, rfl, rfl⟩ (Nat.le_of_ble_eq_true rfl) rfl dd_Fi_at_25 (fun r25 m25 hR25 hp25 => ?_)
    refine gf_iret C hQ dd_Fi_at_28 (by omega) ?_
    have e3 : (2 + 2 * r + 1 : Int) = 3 + 2 * r := by omega
    refine ⟨fun h => absurd hin h, fun _ => ⟨fun h => absurd h hth, fun _ => ⟨fun h => absurd hpl h, fun _ => ⟨hp25.1, ?_⟩⟩⟩⟩
    rw [hp25.2, hm3, e3]
  · skip
    refine gf_iload_n C dd_Fi_at_11 0 rfl ?_
    refine gf_iret C hQ dd_Fi_at_12 (by omega) ?_
    have hne : ¬ (r3 = 0) := by omega
    refine ⟨hp3.1, fun hin => ⟨(hp3.2 hin).1, fun hth => ⟨((hp3.2 hin).2 hth).1, fun hpl => absurd (((hp3.2 hin).2 hth).2 hpl).1 hne⟩⟩⟩

theorem dd_Fi_tear_0 : decode cc_Fi_tear 0 = .ok (.iload_n 1, 1) := by decide +kernel
theorem dd_Fi_tear_1 : decode cc_Fi_tear 1 = .ok (.bipush 6, 2) := by decide +kernel
theorem dd_Fi_tear_3 : decode cc_Fi_tear 3 = .ok (.invokestatic 78, 3) := by decide +kernel
theorem dd_Fi_tear_6 : decode cc_Fi_tear 6 = .ok (.ifCond .ne 5, 3) := by decide +kernel
theorem dd_Fi_tear_9 : decode cc_Fi_tear 9 = .ok (.iconst (-1), 1) := by decide +kernel
theorem dd_Fi_tear_10 : decode cc_Fi_tear 10 = .ok (.ireturn, 1) := by decide +kernel
theorem dd_Fi_tear_11 : decode cc_Fi_tear 11 = .ok (.aload_n 0, 1) := by decide +kernel
theorem dd_Fi_tear_12 : decode cc_Fi_tear 12 = .ok (.getfield 11, 3) := by decide +kernel
theorem dd_Fi_tear_15 : decode cc_Fi_tear 15 = .ok (.iload_n 1, 1) := by decide +kernel
theorem dd_Fi_tear_16 : decode cc_Fi_tear 16 = .ok (.aaload, 1) := by decide +kernel
theorem dd_Fi_tear_17 : decode cc_Fi_tear 17 = .ok (.invokevirtual 100, 3) := by decide +kernel
theorem dd_Fi_tear_20 : decode cc_Fi_tear 20 = .ok (.ifCond .ne 9, 3) := by decide +kernel
theorem dd_Fi_tear_23 : decode cc_Fi_tear 23 = .ok (.aload_n 0, 1) := by decide +kernel
theorem dd_Fi_tear_24 : decode cc_Fi_tear 24 = .ok (.iconst 1, 1) := by decide +kernel
theorem dd_Fi_tear_25 : decode cc_Fi_tear 25 = .ok (.invokevirtual 104, 3) := by decide +kernel
theorem dd_Fi_tear_28 : decode cc_Fi_tear 28 = .ok (.ireturn, 1) := by decide +kernel
theorem dd_Fi_tear_29 : decode cc_Fi_tear 29 = .ok (.aload_n 0, 1) := by decide +kernel
theorem dd_Fi_tear_30 : decode cc_Fi_tear 30 = .ok (.getfield 11, 3) := by decide +kernel
theorem dd_Fi_tear_33 : decode cc_Fi_tear 33 = .ok (.iload_n 1, 1) := by decide +kernel
theorem dd_Fi_tear_34 : decode cc_Fi_tear 34 = .ok (.aaload, 1) := by decide +kernel
theorem dd_Fi_tear_35 : decode cc_Fi_tear 35 = .ok (.iconst (-1), 1) := by decide +kernel
theorem dd_Fi_tear_36 : decode cc_Fi_tear 36 = .ok (.putfield 107, 3) := by decide +kernel
theorem dd_Fi_tear_39 : decode cc_Fi_tear 39 = .ok (.iconst 1, 1) := by decide +kernel
theorem dd_Fi_tear_40 : decode cc_Fi_tear 40 = .ok (.ireturn, 1) := by decide +kernel
set_option maxRecDepth 100000 in
set_option maxHeartbeats 4000000 in
theorem ct_Fi_tear (l : Launch) (E : gf_E) (r : Int) (μ : gf_M) (hr : gf_R r) (hrw : ∀ r : Int, 0 ≤ r → r < 6 → -1 ≤ μ (2 + 2 * r) 1 ∧ μ (2 + 2 * r) 1 ≤ 40) : gf_Mi l E yy_Fi_tear cc_Fi_tear 2 .int (gf_rm 1 21) 81 gf_ref μ [.ref (gf_ad E 0), .int (gf_i r)] (fun q μ' => (¬ (0 ≤ r ∧ r < 6) → q = -1 ∧ μ' = μ) ∧ (0 ≤ r ∧ r < 6 → (μ (2 + 2 * r) 1 = -1 → q = -3 ∧ μ' = gf_fd μ 1) ∧ (μ (2 + 2 * r) 1 ≠ -1 → q = 1 ∧ μ' = gf_up μ (2 + 2 * r) 1 (-1)))) := by
  refine gf_mi (by decide +kernel) (Nat.le_of_ble_eq_true rfl) (by decide) (fun X Q hlx C hQ => ?_)
  subst hlx
  replace C : gf_C X E cc_Fi_tear 2 "GuardFigures" (gf_rm 1 21) := C
  show gf_G X E Q 2 gf_φ μ 0 [(0, .ref (gf_ad E 0)), (1, .int (gf_i r))] []
  refine gf_iload_n C dd_Fi_tear_0 1 rfl ?_
  refine gf_bipush C dd_Fi_tear_1 (by decide +kernel) ?_
  refine gf_callSi (st := []) (As := [.int (gf_i r), .int (gf_i 6)]) C wk_Fi_78 (ct_Fi_isWithin (gf_xl X) E r 6 μ (by omega) (by omega)) rfl ⟨rfl, rfl, rfl, rfl⟩ (Nat.le_of_ble_eq_true rfl) rfl dd_Fi_tear_3 (fun r3 m3 hR3 hp3 => ?_)
  have hr3 := hp3.1
  refine gf_pm hp3.2 ?_
  refine gf_if_ne 11 C dd_Fi_tear_6 (by decide) (by omega) (fun h6 => ?_) (fun h6 => ?_)
  · skip
    refine gf_aload_n C dd_Fi_tear_11 0 rfl ?_
    refine gf_getA (r := 1) C gf_cl6 fl_Fi_11 dd_Fi_tear_12 rfl (show gf_is 81 0 0 6 17 by decide) (by decide) (by decide) ?_
    refine gf_iload_n C dd_Fi_tear_15 1 rfl ?_
    have ha16 := gf_row_of (r := r) (by omega)
    refine gf_aald C dd_Fi_tear_16 (show gf_is 81 1 4 3 6 by decide) (by decide) (by omega) ha16.1 (by first | omega | exact ha16.2.1.1 | exact ha16.2.1) ?_
    refine gf_callVi (st := []) (As := []) C wk_Fi_100 gf_cl3 ha16.2.1 (ct_Ro_isThere (gf_xl X) E (2 + 2 * r) 40 μ ha16.2) rfl ⟨rfl, rfl, rfl, rfl⟩ (Nat.le_of_ble_eq_true rfl) rfl dd_Fi_tear_17 (fun r17 m17 hR17 hp17 => ?_)
    have hr17 := hp17.1
    refine gf_pm hp17.2 ?_
    refine gf_if_ne 29 C dd_Fi_tear_20 (by decide) (by omega) (fun h20 => ?_) (fun h20 => ?_)
    · skip
      refine gf_aload_n C dd_Fi_tear_29 0 rfl ?_
      refine gf_getA (r := 1) C gf_cl6 fl_Fi_11 dd_Fi_tear_30 rfl (show gf_is 81 0 0 6 17 by decide) (by decide) (by decide) ?_
      refine gf_iload_n C dd_Fi_tear_33 1 rfl ?_
      have ha34 := gf_row_of (r := r) (by omega)
      refine gf_aald C dd_Fi_tear_34 (show gf_is 81 1 4 3 6 by decide) (by decide) (by omega) ha34.1 (by first | omega | exact ha34.2.1.1 | exact ha34.2.1) ?_
      refine gf_iconst C dd_Fi_tear_35 ?_
      refine gf_putI (z := 1) C gf_cl3 fl_Fi_107 dd_Fi_tear_36 rfl rfl rfl (by decide +kernel) ha34.2.1 (by omega) ?_
      refine gf_nmM (fun m36 hm36 => ?_)
      refine gf_iconst C dd_Fi_tear_39 ?_
      refine gf_iret C hQ dd_Fi_tear_40 (by omega) ?_
      exact ⟨fun h => absurd h (by omega), fun _ => ⟨fun h => absurd h (by omega), fun _ => ⟨rfl, hm36⟩⟩⟩
    · skip
      refine gf_aload_n C dd_Fi_tear_23 0 rfl ?_
      refine gf_iconst C dd_Fi_tear_24 ?_
      refine gf_callVi (st := []) (As := [.int (gf_i 1)]) C wk_Fi_104 gf_cl6 (show gf_is 81 0 0 6 17 by decide) (ct_Fi_found (gf_xl X) E 1 μ (by omega)) rfl ⟨rfl, rfl, rfl, rfl⟩ (Nat.le_of_ble_eq_true rfl) rfl dd_Fi_tear_25 (fun r25 m25 hR25 hp25 => ?_)
      refine gf_iret C hQ dd_Fi_tear_28 (by omega) ?_
      exact ⟨fun h => absurd h (by omega), fun _ => ⟨fun _ => hp25, fun h => absurd h (by omega)⟩⟩
  · skip
    refine gf_iconst C dd_Fi_tear_9 ?_
    refine gf_iret C hQ dd_Fi_tear_10 (by omega) ?_
    exact ⟨fun _ => ⟨rfl, rfl⟩, fun h => absurd h (by omega)⟩

theorem dd_Fi_mean_0 : decode cc_Fi_mean 0 = .ok (.iload_n 1, 1) := by decide +kernel
theorem dd_Fi_mean_1 : decode cc_Fi_mean 1 = .ok (.bipush 6, 2) := by decide +kernel
theorem dd_Fi_mean_3 : decode cc_Fi_mean 3 = .ok (.invokestatic 78, 3) := by decide +kernel
theorem dd_Fi_mean_6 : decode cc_Fi_mean 6 = .ok (.ifCond .ne 5, 3) := by decide +kernel
theorem dd_Fi_mean_9 : decode cc_Fi_mean 9 = .ok (.iconst (-1), 1) := by decide +kernel
theorem dd_Fi_mean_10 : decode cc_Fi_mean 10 = .ok (.ireturn, 1) := by decide +kernel
theorem dd_Fi_mean_11 : decode cc_Fi_mean 11 = .ok (.aload_n 0, 1) := by decide +kernel
theorem dd_Fi_mean_12 : decode cc_Fi_mean 12 = .ok (.getfield 11, 3) := by decide +kernel
theorem dd_Fi_mean_15 : decode cc_Fi_mean 15 = .ok (.iload_n 1, 1) := by decide +kernel
theorem dd_Fi_mean_16 : decode cc_Fi_mean 16 = .ok (.aaload, 1) := by decide +kernel
theorem dd_Fi_mean_17 : decode cc_Fi_mean 17 = .ok (.astore_n 2, 1) := by decide +kernel
theorem dd_Fi_mean_18 : decode cc_Fi_mean 18 = .ok (.aload_n 2, 1) := by decide +kernel
theorem dd_Fi_mean_19 : decode cc_Fi_mean 19 = .ok (.invokevirtual 100, 3) := by decide +kernel
theorem dd_Fi_mean_22 : decode cc_Fi_mean 22 = .ok (.ifCond .ne 9, 3) := by decide +kernel
theorem dd_Fi_mean_25 : decode cc_Fi_mean 25 = .ok (.aload_n 0, 1) := by decide +kernel
theorem dd_Fi_mean_26 : decode cc_Fi_mean 26 = .ok (.iconst 1, 1) := by decide +kernel
theorem dd_Fi_mean_27 : decode cc_Fi_mean 27 = .ok (.invokevirtual 104, 3) := by decide +kernel
theorem dd_Fi_mean_30 : decode cc_Fi_mean 30 = .ok (.ireturn, 1) := by decide +kernel
theorem dd_Fi_mean_31 : decode cc_Fi_mean 31 = .ok (.aload_n 2, 1) := by decide +kernel
theorem dd_Fi_mean_32 : decode cc_Fi_mean 32 = .ok (.getfield 107, 3) := by decide +kernel
theorem dd_Fi_mean_35 : decode cc_Fi_mean 35 = .ok (.ifCond .ne 9, 3) := by decide +kernel
theorem dd_Fi_mean_38 : decode cc_Fi_mean 38 = .ok (.aload_n 0, 1) := by decide +kernel
theorem dd_Fi_mean_39 : decode cc_Fi_mean 39 = .ok (.iconst 4, 1) := by decide +kernel
theorem dd_Fi_mean_40 : decode cc_Fi_mean 40 = .ok (.invokevirtual 104, 3) := by decide +kernel
theorem dd_Fi_mean_43 : decode cc_Fi_mean 43 = .ok (.ireturn, 1) := by decide +kernel
theorem dd_Fi_mean_44 : decode cc_Fi_mean 44 = .ok (.aload_n 0, 1) := by decide +kernel
theorem dd_Fi_mean_45 : decode cc_Fi_mean 45 = .ok (.aload_n 2, 1) := by decide +kernel
theorem dd_Fi_mean_46 : decode cc_Fi_mean 46 = .ok (.invokevirtual 120, 3) := by decide +kernel
theorem dd_Fi_mean_49 : decode cc_Fi_mean 49 = .ok (.aload_n 2, 1) := by decide +kernel
theorem dd_Fi_mean_50 : decode cc_Fi_mean 50 = .ok (.getfield 107, 3) := by decide +kernel
theorem dd_Fi_mean_53 : decode cc_Fi_mean 53 = .ok (.i2l, 1) := by decide +kernel
theorem dd_Fi_mean_54 : decode cc_Fi_mean 54 = .ok (.ldiv, 1) := by decide +kernel
theorem dd_Fi_mean_55 : decode cc_Fi_mean 55 = .ok (.l2i, 1) := by decide +kernel
theorem dd_Fi_mean_56 : decode cc_Fi_mean 56 = .ok (.invokevirtual 93, 3) := by decide +kernel
theorem dd_Fi_mean_59 : decode cc_Fi_mean 59 = .ok (.ireturn, 1) := by decide +kernel
set_option maxRecDepth 100000 in
set_option maxHeartbeats 4000000 in
theorem ct_Fi_mean (l : Launch) (E : gf_E) (r : Int) (μ : gf_M) (hr : gf_R r) (hrw : ∀ r : Int, 0 ≤ r → r < 6 → -1 ≤ μ (2 + 2 * r) 1 ∧ μ (2 + 2 * r) 1 ≤ 40) : gf_Mi l E yy_Fi_mean cc_Fi_mean 3 .int (gf_rm 1 23) 81 gf_ref μ [.ref (gf_ad E 0), .int (gf_i r)] (fun q μ' => (¬ (0 ≤ r ∧ r < 6) → q = -1 ∧ μ' = μ) ∧ (0 ≤ r ∧ r < 6 → (μ (2 + 2 * r) 1 = -1 → q = -3 ∧ μ' = gf_fd μ 1) ∧ (μ (2 + 2 * r) 1 = 0 → q = -3 ∧ μ' = gf_fd μ 4) ∧ (1 ≤ μ (2 + 2 * r) 1 → q = 1 ∧ μ' = gf_tl μ (gf_w ((pf_sum (μ (3 + 2 * r)) (μ (2 + 2 * r) 1).toNat).tdiv (μ (2 + 2 * r) 1)))))) := by
  refine gf_mi (by decide +kernel) (Nat.le_of_ble_eq_true rfl) (by decide) (fun X Q hlx C hQ => ?_)
  subst hlx
  replace C : gf_C X E cc_Fi_mean 3 "GuardFigures" (gf_rm 1 23) := C
  show gf_G X E Q 3 gf_φ μ 0 [(0, .ref (gf_ad E 0)), (1, .int (gf_i r))] []
  refine gf_iload_n C dd_Fi_mean_0 1 rfl ?_
  refine gf_bipush C dd_Fi_mean_1 (by decide +kernel) ?_
  refine gf_callSi (st := []) (As := [.int (gf_i r), .int (gf_i 6)]) C wk_Fi_78 (ct_Fi_isWithin (gf_xl X) E r 6 μ (by omega) (by omega)) rfl ⟨rfl, rfl, rfl, rfl⟩ (Nat.le_of_ble_eq_true rfl) rfl dd_Fi_mean_3 (fun r3 m3 hR3 hp3 => ?_)
  have hr3 := hp3.1
  refine gf_pm hp3.2 ?_
  refine gf_if_ne 11 C dd_Fi_mean_6 (by decide) (by omega) (fun h6 => ?_) (fun h6 => ?_)
  · skip
    have hin : 0 ≤ r ∧ r < 6 := by have := hr3.1; have := hr3.2; omega
    have hrr := hrw r hin.1 hin.2
    refine gf_aload_n C dd_Fi_mean_11 0 rfl ?_
    refine gf_getA (r := 1) C gf_cl6 fl_Fi_11 dd_Fi_mean_12 rfl (show gf_is 81 0 0 6 17 by decide) (by decide) (by decide) ?_
    refine gf_iload_n C dd_Fi_mean_15 1 rfl ?_
    have ha16 := gf_row_of (r := r) (by omega)
    refine gf_aald C dd_Fi_mean_16 (show gf_is 81 1 4 3 6 by decide) (by decide) (by omega) ha16.1 (by first | omega | exact ha16.2.1.1 | exact ha16.2.1) ?_
    refine gf_astore_n (lv' := [(2, .ref (gf_ad E (2 + 2 * r))), (0, .ref (gf_ad E 0)), (1, .int (gf_i r))]) C dd_Fi_mean_17 (by decide) rfl ?_
    refine gf_aload_n C dd_Fi_mean_18 0 rfl ?_
    refine gf_callVi (st := []) (As := []) C wk_Fi_100 gf_cl3 ha16.2.1 (ct_Ro_isThere (gf_xl X) E (2 + 2 * r) 40 μ ha16.2) rfl ⟨rfl, rfl, rfl, rfl⟩ (Nat.le_of_ble_eq_true rfl) rfl dd_Fi_mean_19 (fun r19 m19 hR19 hp19 => ?_)
    have hr19 := hp19.1
    refine gf_pm hp19.2 ?_
    refine gf_if_ne 31 C dd_Fi_mean_22 (by decide) (by omega) (fun h22 => ?_) (fun h22 => ?_)
    · skip
      refine gf_aload_n C dd_Fi_mean_31 0 rfl ?_
      refine gf_getI (z := 1) C gf_cl3 fl_Fi_107 dd_Fi_mean_32 rfl rfl ha16.2.1 (fun hv32 => ?_)
      refine gf_if_ne 44 C dd_Fi_mean_35 (by decide) (by omega) (fun h35 => ?_) (fun h35 => ?_)
      · skip
        refine gf_aload_n C dd_Fi_mean_44 1 rfl ?_
        refine gf_aload_n C dd_Fi_mean_45 0 rfl ?_
        refine gf_callVl (st := [.ref (gf_ad E 0)]) (As := []) C wk_Fi_120 gf_cl3 ha16.2.1 (ct_Ro_sum (gf_xl X) E (2 + 2 * r) 40 μ ha16.2 (by omega) (by decide)) rfl ⟨rfl, rfl, rfl, rfl⟩ (Nat.le_of_ble_eq_true rfl) rfl dd_Fi_mean_46 (fun r46 m46 hR46 hp46 => ?_)
        have hr46 := hp46.1
        refine gf_pm hp46.2 ?_
        refine gf_aload_n C dd_Fi_mean_49 0 rfl ?_
        refine gf_getI (z := 1) C gf_cl3 fl_Fi_107 dd_Fi_mean_50 rfl rfl ha16.2.1 (fun hv50 => ?_)
        refine gf_gi2l C dd_Fi_mean_53 (by omega) ?_
        refine gf_ldiv C dd_Fi_mean_54 (by omega) ?_
        refine gf_gl2i C dd_Fi_mean_55 ?_
        refine gf_cvi (gf_w_i (Int.tdiv r46 (μ (2 + 2 * r) 1))).symm ?_
        refine gf_callVi (st := []) (As := [.int (gf_i (gf_w (Int.tdiv r46 (μ (2 + 2 * r) 1))))]) C wk_Fi_93 gf_cl6 (show gf_is 81 0 0 6 17 by decide) (ct_Fi_tell (gf_xl X) E (gf_w (Int.tdiv r46 (μ (2 + 2 * r) 1))) μ (gf_w_R _)) rfl ⟨rfl, rfl, rfl, rfl⟩ (Nat.le_of_ble_eq_true rfl) rfl dd_Fi_mean_56 (fun r56 m56 hR56 hp56 => ?_)
        refine gf_iret C hQ dd_Fi_mean_59 (by omega) ?_
        refine ⟨fun h => absurd h (by omega), fun _ => ⟨fun h => absurd h (by omega), fun h => absurd h (by omega), fun _ => ⟨hp56.1, ?_⟩⟩⟩
        rw [hp56.2, hr46.1, show (2 + 2 * r + 1 : Int) = 3 + 2 * r by omega]
      · skip
        refine gf_aload_n C dd_Fi_mean_38 1 rfl ?_
        refine gf_iconst C dd_Fi_mean_39 ?_
        refine gf_callVi (st := []) (As := [.int (gf_i 4)]) C wk_Fi_104 gf_cl6 (show gf_is 81 0 0 6 17 by decide) (ct_Fi_found (gf_xl X) E 4 μ (by omega)) rfl ⟨rfl, rfl, rfl, rfl⟩ (Nat.le_of_ble_eq_true rfl) rfl dd_Fi_mean_40 (fun r40 m40 hR40 hp40 => ?_)
        refine gf_iret C hQ dd_Fi_mean_43 (by omega) ?_
        exact ⟨fun h => absurd h (by omega), fun _ => ⟨fun h => absurd h (by omega), fun _ => hp40, fun h => absurd h (by omega)⟩⟩
    · skip
      refine gf_aload_n C dd_Fi_mean_25 1 rfl ?_
      refine gf_iconst C dd_Fi_mean_26 ?_
      refine gf_callVi (st := []) (As := [.int (gf_i 1)]) C wk_Fi_104 gf_cl6 (show gf_is 81 0 0 6 17 by decide) (ct_Fi_found (gf_xl X) E 1 μ (by omega)) rfl ⟨rfl, rfl, rfl, rfl⟩ (Nat.le_of_ble_eq_true rfl) rfl dd_Fi_mean_27 (fun r27 m27 hR27 hp27 => ?_)
      refine gf_iret C hQ dd_Fi_mean_30 (by omega) ?_
      exact ⟨fun h => absurd h (by omega), fun _ => ⟨fun _ => hp27, fun h => absurd h (by omega), fun h => absurd h (by omega)⟩⟩
  · skip
    refine gf_iconst C dd_Fi_mean_9 ?_
    refine gf_iret C hQ dd_Fi_mean_10 (by omega) ?_
    exact ⟨fun _ => ⟨rfl, rfl⟩, fun h => absurd h (by omega)⟩

theorem dd_Fi_put_0 : decode cc_Fi_put 0 = .ok (.iload_n 1, 1) := by decide +kernel
theorem dd_Fi_put_1 : decode cc_Fi_put 1 = .ok (.iconst 4, 1) := by decide +kernel
theorem dd_Fi_put_2 : decode cc_Fi_put 2 = .ok (.invokestatic 78, 3) := by decide +kernel
theorem dd_Fi_put_5 : decode cc_Fi_put 5 = .ok (.ifCond .ne 5, 3) := by decide +kernel
theorem dd_Fi_put_8 : decode cc_Fi_put 8 = .ok (.iconst (-1), 1) := by decide +kernel
theorem dd_Fi_put_9 : decode cc_Fi_put 9 = .ok (.ireturn, 1) := by decide +kernel
theorem dd_Fi_put_10 : decode cc_Fi_put 10 = .ok (.aload_n 0, 1) := by decide +kernel
theorem dd_Fi_put_11 : decode cc_Fi_put 11 = .ok (.getfield 18, 3) := by decide +kernel
theorem dd_Fi_put_14 : decode cc_Fi_put 14 = .ok (.iload_n 1, 1) := by decide +kernel
theorem dd_Fi_put_15 : decode cc_Fi_put 15 = .ok (.aaload, 1) := by decide +kernel
theorem dd_Fi_put_16 : decode cc_Fi_put 16 = .ok (.invokevirtual 100, 3) := by decide +kernel
theorem dd_Fi_put_19 : decode cc_Fi_put 19 = .ok (.ifCond .ne 9, 3) := by decide +kernel
theorem dd_Fi_put_22 : decode cc_Fi_put 22 = .ok (.aload_n 0, 1) := by decide +kernel
theorem dd_Fi_put_23 : decode cc_Fi_put 23 = .ok (.iconst 1, 1) := by decide +kernel
theorem dd_Fi_put_24 : decode cc_Fi_put 24 = .ok (.invokevirtual 104, 3) := by decide +kernel
theorem dd_Fi_put_27 : decode cc_Fi_put 27 = .ok (.ireturn, 1) := by decide +kernel
theorem dd_Fi_put_28 : decode cc_Fi_put 28 = .ok (.aload_n 0, 1) := by decide +kernel
theorem dd_Fi_put_29 : decode cc_Fi_put 29 = .ok (.getfield 18, 3) := by decide +kernel
theorem dd_Fi_put_32 : decode cc_Fi_put 32 = .ok (.iload_n 1, 1) := by decide +kernel
theorem dd_Fi_put_33 : decode cc_Fi_put 33 = .ok (.aaload, 1) := by decide +kernel
theorem dd_Fi_put_34 : decode cc_Fi_put 34 = .ok (.iload_n 2, 1) := by decide +kernel
theorem dd_Fi_put_35 : decode cc_Fi_put 35 = .ok (.iconst 1, 1) := by decide +kernel
theorem dd_Fi_put_36 : decode cc_Fi_put 36 = .ok (.invokevirtual 111, 3) := by decide +kernel
theorem dd_Fi_put_39 : decode cc_Fi_put 39 = .ok (.ifCond .ne 9, 3) := by decide +kernel
theorem dd_Fi_put_42 : decode cc_Fi_put 42 = .ok (.aload_n 0, 1) := by decide +kernel
theorem dd_Fi_put_43 : decode cc_Fi_put 43 = .ok (.iconst 2, 1) := by decide +kernel
theorem dd_Fi_put_44 : decode cc_Fi_put 44 = .ok (.invokevirtual 104, 3) := by decide +kernel
theorem dd_Fi_put_47 : decode cc_Fi_put 47 = .ok (.ireturn, 1) := by decide +kernel
theorem dd_Fi_put_48 : decode cc_Fi_put 48 = .ok (.aload_n 0, 1) := by decide +kernel
theorem dd_Fi_put_49 : decode cc_Fi_put 49 = .ok (.getfield 18, 3) := by decide +kernel
theorem dd_Fi_put_52 : decode cc_Fi_put 52 = .ok (.iload_n 1, 1) := by decide +kernel
theorem dd_Fi_put_53 : decode cc_Fi_put 53 = .ok (.aaload, 1) := by decide +kernel
theorem dd_Fi_put_54 : decode cc_Fi_put 54 = .ok (.iload_n 2, 1) := by decide +kernel
theorem dd_Fi_put_55 : decode cc_Fi_put 55 = .ok (.iload_n 3, 1) := by decide +kernel
theorem dd_Fi_put_56 : decode cc_Fi_put 56 = .ok (.i2b, 1) := by decide +kernel
theorem dd_Fi_put_57 : decode cc_Fi_put 57 = .ok (.invokevirtual 90, 3) := by decide +kernel
theorem dd_Fi_put_60 : decode cc_Fi_put 60 = .ok (.sipush 1000, 3) := by decide +kernel
theorem dd_Fi_put_63 : decode cc_Fi_put 63 = .ok (.iadd, 1) := by decide +kernel
theorem dd_Fi_put_64 : decode cc_Fi_put 64 = .ok (.ireturn, 1) := by decide +kernel
set_option maxRecDepth 100000 in
set_option maxHeartbeats 4000000 in
theorem ct_Fi_put (l : Launch) (E : gf_E) (t i v : Int) (μ : gf_M) (ht : gf_R t) (hi : gf_R i) (hv : gf_R v) (htx : ∀ t : Int, 0 ≤ t → t < 4 → -1 ≤ μ (15 + 2 * t) 1 ∧ μ (15 + 2 * t) 1 ≤ 60)(htb : ∀ t j : Int, 0 ≤ t → t < 4 → 0 ≤ j → j < μ (15 + 2 * t) 1 → -128 ≤ μ (16 + 2 * t) j ∧ μ (16 + 2 * t) j ≤ 127) : gf_Mi l E yy_Fi_put cc_Fi_put 4 .int (gf_rm 1 23) 81 gf_ref μ [.ref (gf_ad E 0), .int (gf_i t), .int (gf_i i), .int (gf_i v)] (fun q μ' => (¬ (0 ≤ t ∧ t < 4) → q = -1 ∧ μ' = μ) ∧ (0 ≤ t ∧ t < 4 → (μ (15 + 2 * t) 1 = -1 → q = -3 ∧ μ' = gf_fd μ 1) ∧ (μ (15 + 2 * t) 1 ≠ -1 → (¬ (0 ≤ i ∧ i < μ (15 + 2 * t) 1) → q = -3 ∧ μ' = gf_fd μ 2) ∧ (0 ≤ i ∧ i < μ (15 + 2 * t) 1 → q = μ (16 + 2 * t) i + 1000 ∧ μ' = gf_up μ (16 + 2 * t) i (gf_b v))))) := by
  refine gf_mi (by decide +kernel) (Nat.le_of_ble_eq_true rfl) (by decide) (fun X Q hlx C hQ => ?_)
  subst hlx
  replace C : gf_C X E cc_Fi_put 4 "GuardFigures" (gf_rm 1 23) := C
  show gf_G X E Q 4 gf_φ μ 0 [(0, .ref (gf_ad E 0)), (1, .int (gf_i t)), (2, .int (gf_i i)), (3, .int (gf_i v))] []
  refine gf_iload_n C dd_Fi_put_0 1 rfl ?_
  refine gf_iconst C dd_Fi_put_1 ?_
  refine gf_callSi (st := []) (As := [.int (gf_i t), .int (gf_i 4)]) C wk_Fi_78 (ct_Fi_isWithin (gf_xl X) E t 4 μ (by omega) (by omega)) rfl ⟨rfl, rfl, rfl, rfl⟩ (Nat.le_of_ble_eq_true rfl) rfl dd_Fi_put_2 (fun r2 m2 hR2 hp2 => ?_)
  have hr2 := hp2.1
  refine gf_pm hp2.2 ?_
  refine gf_if_ne 10 C dd_Fi_put_5 (by decide) (by omega) (fun h5 => ?_) (fun h5 => ?_)
  · skip
    have hin : 0 ≤ t ∧ t < 4 := by have := hr2.1; have := hr2.2; omega
    have htt := htx t hin.1 hin.2
    refine gf_aload_n C dd_Fi_put_10 0 rfl ?_
    refine gf_getA (r := 14) C gf_cl6 fl_Fi_18 dd_Fi_put_11 rfl (show gf_is 81 0 0 6 17 by decide) (by decide) (by decide) ?_
    refine gf_iload_n C dd_Fi_put_14 1 rfl ?_
    have ha15 := gf_text_of (r := t) (by omega)
    refine gf_aald C dd_Fi_put_15 (show gf_is 81 14 4 3 4 by decide) (by decide) (by omega) ha15.1 (by first | omega | exact ha15.2.1.1 | exact ha15.2.1) ?_
    refine gf_callVi (st := []) (As := []) C wk_Fi_100 gf_cl3 ha15.2.1 (ct_Ro_isThere (gf_xl X) E (15 + 2 * t) 60 μ ha15.2) rfl ⟨rfl, rfl, rfl, rfl⟩ (Nat.le_of_ble_eq_true rfl) rfl dd_Fi_put_16 (fun r16 m16 hR16 hp16 => ?_)
    have hr16 := hp16.1
    refine gf_pm hp16.2 ?_
    refine gf_if_ne 28 C dd_Fi_put_19 (by decide) (by omega) (fun h19 => ?_) (fun h19 => ?_)
    · skip
      refine gf_aload_n C dd_Fi_put_28 0 rfl ?_
      refine gf_getA (r := 14) C gf_cl6 fl_Fi_18 dd_Fi_put_29 rfl (show gf_is 81 0 0 6 17 by decide) (by decide) (by decide) ?_
      refine gf_iload_n C dd_Fi_put_32 1 rfl ?_
      have ha33 := gf_text_of (r := t) (by omega)
      refine gf_aald C dd_Fi_put_33 (show gf_is 81 14 4 3 4 by decide) (by decide) (by omega) ha33.1 (by first | omega | exact ha33.2.1.1 | exact ha33.2.1) ?_
      refine gf_iload_n C dd_Fi_put_34 2 rfl ?_
      refine gf_iconst C dd_Fi_put_35 ?_
      refine gf_callVi (st := []) (As := [.int (gf_i i), .int (gf_i 1)]) C wk_Fi_111 gf_cl3 ha33.2.1 (ct_Ro_hasPlaces (gf_xl X) E (15 + 2 * t) 60 μ ha33.2 i 1 (by omega) (by omega) (by omega)) rfl ⟨rfl, rfl, rfl, rfl⟩ (Nat.le_of_ble_eq_true rfl) rfl dd_Fi_put_36 (fun r36 m36 hR36 hp36 => ?_)
      have hr36 := hp36.1
      refine gf_pm hp36.2 ?_
      refine gf_if_ne 48 C dd_Fi_put_39 (by decide) (by omega) (fun h39 => ?_) (fun h39 => ?_)
      · skip
        refine gf_aload_n C dd_Fi_put_48 0 rfl ?_
        refine gf_getA (r := 14) C gf_cl6 fl_Fi_18 dd_Fi_put_49 rfl (show gf_is 81 0 0 6 17 by decide) (by decide) (by decide) ?_
        refine gf_iload_n C dd_Fi_put_52 1 rfl ?_
        have ha53 := gf_text_of (r := t) (by omega)
        refine gf_aald C dd_Fi_put_53 (show gf_is 81 14 4 3 4 by decide) (by decide) (by omega) ha53.1 (by first | omega | exact ha53.2.1.1 | exact ha53.2.1) ?_
        refine gf_iload_n C dd_Fi_put_54 2 rfl ?_
        refine gf_iload_n C dd_Fi_put_55 3 rfl ?_
        refine gf_gi2b C dd_Fi_put_56 ?_
        have hbv := gf_b_R v
        have hbt := htb t i hin.1 hin.2 (by omega) (by omega)
        have e16 : (15 + 2 * t + 1 : Int) = 16 + 2 * t := by omega
        refine gf_callVi (st := []) (As := [.int (gf_i i), .int (gf_i (gf_b v))]) C wk_Fi_90 gf_cl3 ha53.2.1 (ct_Ro_replace (gf_xl X) E (15 + 2 * t) 60 μ ha53.2 i (gf_b v) (by omega) (by omega)) rfl ⟨rfl, rfl, rfl, rfl⟩ (Nat.le_of_ble_eq_true rfl) rfl dd_Fi_put_57 (fun r57 m57 hR57 hp57 => ?_)
        obtain ⟨hp57a, hp57b⟩ := hp57
        rw [e16] at hp57a hp57b
        refine gf_sipush C dd_Fi_put_60 (by decide +kernel) ?_
        refine gf_iadd C dd_Fi_put_63 ?_
        refine gf_iret C hQ dd_Fi_put_64 (by omega) ?_
        exact ⟨fun h => absurd h (by omega), fun _ => ⟨fun h => absurd h (by omega), fun _ => ⟨fun h => absurd h (by omega), fun _ => ⟨by rw [hp57a], hp57b⟩⟩⟩⟩
      · skip
        refine gf_aload_n C dd_Fi_put_42 0 rfl ?_
        refine gf_iconst C dd_Fi_put_43 ?_
        refine gf_callVi (st := []) (As := [.int (gf_i 2)]) C wk_Fi_104 gf_cl6 (show gf_is 81 0 0 6 17 by decide) (ct_Fi_found (gf_xl X) E 2 μ (by omega)) rfl ⟨rfl, rfl, rfl, rfl⟩ (Nat.le_of_ble_eq_true rfl) rfl dd_Fi_put_44 (fun r44 m44 hR44 hp44 => ?_)
        refine gf_iret C hQ dd_Fi_put_47 (by omega) ?_
        exact ⟨fun h => absurd h (by omega), fun _ => ⟨fun h => absurd h (by omega), fun _ => ⟨fun _ => hp44, fun h => absurd h (by omega)⟩⟩⟩
    · skip
      refine gf_aload_n C dd_Fi_put_22 0 rfl ?_
      refine gf_iconst C dd_Fi_put_23 ?_
      refine gf_callVi (st := []) (As := [.int (gf_i 1)]) C wk_Fi_104 gf_cl6 (show gf_is 81 0 0 6 17 by decide) (ct_Fi_found (gf_xl X) E 1 μ (by omega)) rfl ⟨rfl, rfl, rfl, rfl⟩ (Nat.le_of_ble_eq_true rfl) rfl dd_Fi_put_24 (fun r24 m24 hR24 hp24 => ?_)
      refine gf_iret C hQ dd_Fi_put_27 (by omega) ?_
      exact ⟨fun h => absurd h (by omega), fun _ => ⟨fun _ => hp24, fun h => absurd h (by omega)⟩⟩
  · skip
    refine gf_iconst C dd_Fi_put_8 ?_
    refine gf_iret C hQ dd_Fi_put_9 (by omega) ?_
    exact ⟨fun _ => ⟨rfl, rfl⟩, fun h => absurd h (by omega)⟩

theorem dd_Fi_fault_0 : decode cc_Fi_fault 0 = .ok (.iload_n 1, 1) := by decide +kernel
theorem dd_Fi_fault_1 : decode cc_Fi_fault 1 = .ok (.iconst 4, 1) := by decide +kernel
theorem dd_Fi_fault_2 : decode cc_Fi_fault 2 = .ok (.invokestatic 78, 3) := by decide +kernel
theorem dd_Fi_fault_5 : decode cc_Fi_fault 5 = .ok (.ifCond .ne 5, 3) := by decide +kernel
theorem dd_Fi_fault_8 : decode cc_Fi_fault 8 = .ok (.iconst (-1), 1) := by decide +kernel
theorem dd_Fi_fault_9 : decode cc_Fi_fault 9 = .ok (.ireturn, 1) := by decide +kernel
theorem dd_Fi_fault_10 : decode cc_Fi_fault 10 = .ok (.aload_n 0, 1) := by decide +kernel
theorem dd_Fi_fault_11 : decode cc_Fi_fault 11 = .ok (.getfield 18, 3) := by decide +kernel
theorem dd_Fi_fault_14 : decode cc_Fi_fault 14 = .ok (.iload_n 1, 1) := by decide +kernel
theorem dd_Fi_fault_15 : decode cc_Fi_fault 15 = .ok (.aaload, 1) := by decide +kernel
theorem dd_Fi_fault_16 : decode cc_Fi_fault 16 = .ok (.invokevirtual 100, 3) := by decide +kernel
theorem dd_Fi_fault_19 : decode cc_Fi_fault 19 = .ok (.ifCond .ne 9, 3) := by decide +kernel
theorem dd_Fi_fault_22 : decode cc_Fi_fault 22 = .ok (.aload_n 0, 1) := by decide +kernel
theorem dd_Fi_fault_23 : decode cc_Fi_fault 23 = .ok (.iconst 1, 1) := by decide +kernel
theorem dd_Fi_fault_24 : decode cc_Fi_fault 24 = .ok (.invokevirtual 104, 3) := by decide +kernel
theorem dd_Fi_fault_27 : decode cc_Fi_fault 27 = .ok (.ireturn, 1) := by decide +kernel
theorem dd_Fi_fault_28 : decode cc_Fi_fault 28 = .ok (.aload_n 0, 1) := by decide +kernel
theorem dd_Fi_fault_29 : decode cc_Fi_fault 29 = .ok (.getfield 42, 3) := by decide +kernel
theorem dd_Fi_fault_32 : decode cc_Fi_fault 32 = .ok (.aload_n 0, 1) := by decide +kernel
theorem dd_Fi_fault_33 : decode cc_Fi_fault 33 = .ok (.getfield 18, 3) := by decide +kernel
theorem dd_Fi_fault_36 : decode cc_Fi_fault 36 = .ok (.iload_n 1, 1) := by decide +kernel
theorem dd_Fi_fault_37 : decode cc_Fi_fault 37 = .ok (.aaload, 1) := by decide +kernel
theorem dd_Fi_fault_38 : decode cc_Fi_fault 38 = .ok (.invokevirtual 124, 3) := by decide +kernel
theorem dd_Fi_fault_41 : decode cc_Fi_fault 41 = .ok (.ireturn, 1) := by decide +kernel
set_option maxRecDepth 100000 in
set_option maxHeartbeats 4000000 in
theorem ct_Fi_fault (l : Launch) (E : gf_E) (t : Int) (μ : gf_M) (ht : gf_R t) (htx : ∀ t : Int, 0 ≤ t → t < 4 → -1 ≤ μ (15 + 2 * t) 1 ∧ μ (15 + 2 * t) 1 ≤ 60)(htb : ∀ t j : Int, 0 ≤ t → t < 4 → 0 ≤ j → j < μ (15 + 2 * t) 1 → -128 ≤ μ (16 + 2 * t) j ∧ μ (16 + 2 * t) j ≤ 127) : gf_Mi l E yy_Fi_fault cc_Fi_fault 2 .int (gf_rm 3 69) 81 gf_ref μ [.ref (gf_ad E 0), .int (gf_i t)] (fun q μ' => (¬ (0 ≤ t ∧ t < 4) → q = -1 ∧ μ' = μ) ∧ (0 ≤ t ∧ t < 4 → (μ (15 + 2 * t) 1 = -1 → q = -3 ∧ μ' = gf_fd μ 1) ∧ (μ (15 + 2 * t) 1 ≠ -1 → q = (pf_pr (μ (16 + 2 * t)) (μ (15 + 2 * t) 1) 61 0 []).1 ∧ gf_sc μ' μ))) := by
  refine gf_mi (by decide +kernel) (Nat.le_of_ble_eq_true rfl) (by decide) (fun X Q hlx C hQ => ?_)
  subst hlx
  replace C : gf_C X E cc_Fi_fault 2 "GuardFigures" (gf_rm 3 69) := C
  show gf_G X E Q 2 gf_φ μ 0 [(0, .ref (gf_ad E 0)), (1, .int (gf_i t))] []
  refine gf_iload_n C dd_Fi_fault_0 1 rfl ?_
  refine gf_iconst C dd_Fi_fault_1 ?_
  refine gf_callSi (st := []) (As := [.int (gf_i t), .int (gf_i 4)]) C wk_Fi_78 (ct_Fi_isWithin (gf_xl X) E t 4 μ (by omega) (by omega)) rfl ⟨rfl, rfl, rfl, rfl⟩ (Nat.le_of_ble_eq_true rfl) rfl dd_Fi_fault_2 (fun r2 m2 hR2 hp2 => ?_)
  have hr2 := hp2.1
  refine gf_pm hp2.2 ?_
  refine gf_if_ne 10 C dd_Fi_fault_5 (by decide) (by omega) (fun h5 => ?_) (fun h5 => ?_)
  · skip
    have hin : 0 ≤ t ∧ t < 4 := by have := hr2.1; have := hr2.2; omega
    have htt := htx t hin.1 hin.2
    refine gf_aload_n C dd_Fi_fault_10 0 rfl ?_
    refine gf_getA (r := 14) C gf_cl6 fl_Fi_18 dd_Fi_fault_11 rfl (show gf_is 81 0 0 6 17 by decide) (by decide) (by decide) ?_
    refine gf_iload_n C dd_Fi_fault_14 1 rfl ?_
    have ha15 := gf_text_of (r := t) (by omega)
    refine gf_aald C dd_Fi_fault_15 (show gf_is 81 14 4 3 4 by decide) (by decide) (by omega) ha15.1 (by first | omega | exact ha15.2.1.1 | exact ha15.2.1) ?_
    refine gf_callVi (st := []) (As := []) C wk_Fi_100 gf_cl3 ha15.2.1 (ct_Ro_isThere (gf_xl X) E (15 + 2 * t) 60 μ ha15.2) rfl ⟨rfl, rfl, rfl, rfl⟩ (Nat.le_of_ble_eq_true rfl) rfl dd_Fi_fault_16 (fun r16 m16 hR16 hp16 => ?_)
    have hr16 := hp16.1
    refine gf_pm hp16.2 ?_
    refine gf_if_ne 28 C dd_Fi_fault_19 (by decide) (by omega) (fun h19 => ?_) (fun h19 => ?_)
    · skip
      refine gf_aload_n C dd_Fi_fault_28 0 rfl ?_
      refine gf_getA (r := 44) C gf_cl6 fl_Fi_42 dd_Fi_fault_29 rfl (show gf_is 81 0 0 6 17 by decide) (by decide) (by decide) ?_
      refine gf_aload_n C dd_Fi_fault_32 0 rfl ?_
      refine gf_getA (r := 14) C gf_cl6 fl_Fi_18 dd_Fi_fault_33 rfl (show gf_is 81 0 0 6 17 by decide) (by decide) (by decide) ?_
      refine gf_iload_n C dd_Fi_fault_36 1 rfl ?_
      have ha37 := gf_text_of (r := t) (by omega)
      refine gf_aald C dd_Fi_fault_37 (show gf_is 81 14 4 3 4 by decide) (by decide) (by omega) ha37.1 (by first | omega | exact ha37.2.1.1 | exact ha37.2.1) ?_
      have e16 : (15 + 2 * t + 1 : Int) = 16 + 2 * t := by omega
      refine gf_callVi (st := []) (As := [.ref (gf_ad E (15 + 2 * t))]) C wk_Fi_124 gf_cl2 (show gf_is 81 44 0 2 2 by decide) (ct_Re_read (gf_xl X) E (15 + 2 * t) μ ha37.2 (by omega) (by omega) (fun j h0 h1 => by rw [e16]; exact htb t j hin.1 hin.2 h0 h1)) rfl ⟨rfl, rfl, rfl, rfl⟩ (Nat.le_of_ble_eq_true rfl) rfl dd_Fi_fault_38 (fun r38 m38 hR38 hp38 => ?_)
      refine gf_iret C hQ dd_Fi_fault_41 (by omega) ?_
      obtain ⟨hpa, hpb, hpc⟩ := hp38
      rw [e16] at hpa
      exact ⟨fun h => absurd h (by omega), fun _ => ⟨fun h => absurd h (by omega), fun _ => ⟨hpa, fun a b h => hpc a b (by omega)⟩⟩⟩
    · skip
      refine gf_aload_n C dd_Fi_fault_22 0 rfl ?_
      refine gf_iconst C dd_Fi_fault_23 ?_
      refine gf_callVi (st := []) (As := [.int (gf_i 1)]) C wk_Fi_104 gf_cl6 (show gf_is 81 0 0 6 17 by decide) (ct_Fi_found (gf_xl X) E 1 μ (by omega)) rfl ⟨rfl, rfl, rfl, rfl⟩ (Nat.le_of_ble_eq_true rfl) rfl dd_Fi_fault_24 (fun r24 m24 hR24 hp24 => ?_)
      refine gf_iret C hQ dd_Fi_fault_27 (by omega) ?_
      exact ⟨fun h => absurd h (by omega), fun _ => ⟨fun _ => hp24, fun h => absurd h (by omega)⟩⟩
  · skip
    refine gf_iconst C dd_Fi_fault_8 ?_
    refine gf_iret C hQ dd_Fi_fault_9 (by omega) ?_
    exact ⟨fun _ => ⟨rfl, rfl⟩, fun h => absurd h (by omega)⟩

theorem dd_Fi_figure_0 : decode cc_Fi_figure 0 = .ok (.iload_n 1, 1) := by decide +kernel
theorem dd_Fi_figure_1 : decode cc_Fi_figure 1 = .ok (.aload_n 0, 1) := by decide +kernel
theorem dd_Fi_figure_2 : decode cc_Fi_figure 2 = .ok (.getfield 35, 3) := by decide +kernel
theorem dd_Fi_figure_5 : decode cc_Fi_figure 5 = .ok (.getfield 168, 3) := by decide +kernel
theorem dd_Fi_figure_8 : decode cc_Fi_figure 8 = .ok (.invokestatic 78, 3) := by decide +kernel
theorem dd_Fi_figure_11 : decode cc_Fi_figure 11 = .ok (.ifCond .eq 15, 3) := by decide +kernel
theorem dd_Fi_figure_14 : decode cc_Fi_figure 14 = .ok (.aload_n 0, 1) := by decide +kernel
theorem dd_Fi_figure_15 : decode cc_Fi_figure 15 = .ok (.getfield 35, 3) := by decide +kernel
theorem dd_Fi_figure_18 : decode cc_Fi_figure 18 = .ok (.getfield 169, 3) := by decide +kernel
theorem dd_Fi_figure_21 : decode cc_Fi_figure 21 = .ok (.iload_n 1, 1) := by decide +kernel
theorem dd_Fi_figure_22 : decode cc_Fi_figure 22 = .ok (.iaload, 1) := by decide +kernel
theorem dd_Fi_figure_23 : decode cc_Fi_figure 23 = .ok (.goto 4, 3) := by decide +kernel
theorem dd_Fi_figure_26 : decode cc_Fi_figure 26 = .ok (.iconst (-1), 1) := by decide +kernel
theorem dd_Fi_figure_27 : decode cc_Fi_figure 27 = .ok (.ireturn, 1) := by decide +kernel
set_option maxRecDepth 100000 in
set_option maxHeartbeats 4000000 in
theorem ct_Fi_figure (l : Launch) (E : gf_E) (k : Int) (μ : gf_M) (hk : gf_R k) (hs : 0 ≤ μ 41 1 ∧ μ 41 1 ≤ 8) : gf_Mi l E yy_Fi_figure cc_Fi_figure 2 .int (gf_rm 1 21) 81 gf_ref μ [.ref (gf_ad E 0), .int (gf_i k)] (fun q μ' => ((¬ (0 ≤ k ∧ k < μ 41 1) → q = -1) ∧ (0 ≤ k ∧ k < μ 41 1 → q = μ 42 k)) ∧ μ' = μ) := by
  refine gf_mi (by decide +kernel) (Nat.le_of_ble_eq_true rfl) (by decide) (fun X Q hlx C hQ => ?_)
  subst hlx
  replace C : gf_C X E cc_Fi_figure 2 "GuardFigures" (gf_rm 1 21) := C
  show gf_G X E Q 2 gf_φ μ 0 [(0, .ref (gf_ad E 0)), (1, .int (gf_i k))] []
  refine gf_iload_n C dd_Fi_figure_0 1 rfl ?_
  refine gf_aload_n C dd_Fi_figure_1 0 rfl ?_
  refine gf_getA (r := 41) C gf_cl6 fl_Fi_35 dd_Fi_figure_2 rfl (show gf_is 81 0 0 6 17 by decide) (by decide) (by decide) ?_
  refine gf_getI (z := 1) C gf_cl5 fl_Fi_168 dd_Fi_figure_5 rfl rfl (show gf_is 81 41 0 5 5 by decide) (fun hv5 => ?_)
  refine gf_callSi (st := []) (As := [.int (gf_i k), .int (gf_i (μ 41 1))]) C wk_Fi_78 (ct_Fi_isWithin (gf_xl X) E k (μ 41 1) μ (by omega) (by omega)) rfl ⟨rfl, rfl, rfl, rfl⟩ (Nat.le_of_ble_eq_true rfl) rfl dd_Fi_figure_8 (fun r8 m8 hR8 hp8 => ?_)
  have hr8 := hp8.1
  refine gf_pm hp8.2 ?_
  refine gf_if_eq 26 C dd_Fi_figure_11 (by decide) (by omega) (fun h11 => ?_) (fun h11 => ?_)
  · skip
    refine gf_iconst C dd_Fi_figure_26 ?_
    refine gf_iret C hQ dd_Fi_figure_27 (by omega) ?_
    first
      | exact ⟨⟨fun h => absurd h (by omega), fun _ => rfl⟩, rfl⟩
      | exact ⟨⟨fun _ => rfl, fun h => absurd h (by omega)⟩, rfl⟩
  · skip
    refine gf_aload_n C dd_Fi_figure_14 0 rfl ?_
    refine gf_getA (r := 41) C gf_cl6 fl_Fi_35 dd_Fi_figure_15 rfl (show gf_is 81 0 0 6 17 by decide) (by decide) (by decide) ?_
    refine gf_getA (r := 42) C gf_cl5 fl_Fi_169 dd_Fi_figure_18 rfl (show gf_is 81 41 0 5 5 by decide) (by decide) (by decide) ?_
    refine gf_iload_n C dd_Fi_figure_21 1 rfl ?_
    refine gf_iald C dd_Fi_figure_22 (show gf_is 81 42 1 0 8 by decide) (by omega) (fun hv22 => ?_)
    refine gf_goto 27 C dd_Fi_figure_23 (by decide) ?_
    refine gf_iret C hQ dd_Fi_figure_27 (by omega) ?_
    first
      | exact ⟨⟨fun h => absurd h (by omega), fun _ => rfl⟩, rfl⟩
      | exact ⟨⟨fun _ => rfl, fun h => absurd h (by omega)⟩, rfl⟩

theorem dd_Fi_asked_0 : decode cc_Fi_asked 0 = .ok (.aload_n 0, 1) := by decide +kernel
theorem dd_Fi_asked_1 : decode cc_Fi_asked 1 = .ok (.getfield 205, 3) := by decide +kernel
theorem dd_Fi_asked_4 : decode cc_Fi_asked 4 = .ok (.ireturn, 1) := by decide +kernel
set_option maxRecDepth 100000 in
set_option maxHeartbeats 4000000 in
theorem ct_Fi_asked (l : Launch) (E : gf_E) (μ : gf_M) : gf_Mi l E yy_Fi_asked cc_Fi_asked 1 .int (gf_rm 0 0) 81 gf_ref μ [.ref (gf_ad E 0)] (fun q μ' => q = μ 0 12 ∧ μ' = μ) := by
  refine gf_mi (by decide +kernel) (Nat.le_of_ble_eq_true rfl) (by decide) (fun X Q hlx C hQ => ?_)
  subst hlx
  replace C : gf_C X E cc_Fi_asked 1 "GuardFigures" (gf_rm 0 0) := C
  show gf_G X E Q 1 gf_φ μ 0 [(0, .ref (gf_ad E 0))] []
  refine gf_aload_n C dd_Fi_asked_0 0 rfl ?_
  refine gf_getI (z := 12) C gf_cl6 fl_Fi_205 dd_Fi_asked_1 rfl rfl (show gf_is 81 0 0 6 17 by decide) (fun hv1 => ?_)
  refine gf_iret C hQ dd_Fi_asked_4 (by omega) ?_
  exact ⟨rfl, rfl⟩

theorem dd_Fi_finding_0 : decode cc_Fi_finding 0 = .ok (.aload_n 0, 1) := by decide +kernel
theorem dd_Fi_finding_1 : decode cc_Fi_finding 1 = .ok (.getfield 291, 3) := by decide +kernel
theorem dd_Fi_finding_4 : decode cc_Fi_finding 4 = .ok (.ireturn, 1) := by decide +kernel
set_option maxRecDepth 100000 in
set_option maxHeartbeats 4000000 in
theorem ct_Fi_finding (l : Launch) (E : gf_E) (μ : gf_M) : gf_Mi l E yy_Fi_finding cc_Fi_finding 1 .int (gf_rm 0 0) 81 gf_ref μ [.ref (gf_ad E 0)] (fun q μ' => q = μ 0 15 ∧ μ' = μ) := by
  refine gf_mi (by decide +kernel) (Nat.le_of_ble_eq_true rfl) (by decide) (fun X Q hlx C hQ => ?_)
  subst hlx
  replace C : gf_C X E cc_Fi_finding 1 "GuardFigures" (gf_rm 0 0) := C
  show gf_G X E Q 1 gf_φ μ 0 [(0, .ref (gf_ad E 0))] []
  refine gf_aload_n C dd_Fi_finding_0 0 rfl ?_
  refine gf_getI (z := 15) C gf_cl6 fl_Fi_291 dd_Fi_finding_1 rfl rfl (show gf_is 81 0 0 6 17 by decide) (fun hv1 => ?_)
  refine gf_iret C hQ dd_Fi_finding_4 (by omega) ?_
  exact ⟨rfl, rfl⟩

theorem dd_Fi_upper_0 : decode cc_Fi_upper 0 = .ok (.aload_n 0, 1) := by decide +kernel
theorem dd_Fi_upper_1 : decode cc_Fi_upper 1 = .ok (.getfield 285, 3) := by decide +kernel
theorem dd_Fi_upper_4 : decode cc_Fi_upper 4 = .ok (.lreturn, 1) := by decide +kernel
set_option maxRecDepth 100000 in
set_option maxHeartbeats 4000000 in
theorem ct_Fi_upper (l : Launch) (E : gf_E) (μ : gf_M) : gf_Ml l E yy_Fi_upper cc_Fi_upper 1 (gf_rm 0 0) 81 gf_ref μ [.ref (gf_ad E 0)] (fun q μ' => q = μ 0 13 ∧ μ' = μ) := by
  refine gf_ml (by decide +kernel) (Nat.le_of_ble_eq_true rfl) (by decide) (fun X Q hlx C hQ => ?_)
  subst hlx
  replace C : gf_C X E cc_Fi_upper 1 "GuardFigures" (gf_rm 0 0) := C
  show gf_G X E Q 1 gf_φ μ 0 [(0, .ref (gf_ad E 0))] []
  refine gf_aload_n C dd_Fi_upper_0 0 rfl ?_
  refine gf_getL (z := 13) C gf_cl6 fl_Fi_285 dd_Fi_upper_1 rfl rfl (show gf_is 81 0 0 6 17 by decide) (fun hv1 => ?_)
  refine gf_lret C hQ dd_Fi_upper_4 (by omega) ?_
  exact ⟨rfl, rfl⟩

theorem dd_Fi_lower_0 : decode cc_Fi_lower 0 = .ok (.aload_n 0, 1) := by decide +kernel
theorem dd_Fi_lower_1 : decode cc_Fi_lower 1 = .ok (.getfield 71, 3) := by decide +kernel
theorem dd_Fi_lower_4 : decode cc_Fi_lower 4 = .ok (.lreturn, 1) := by decide +kernel
set_option maxRecDepth 100000 in
set_option maxHeartbeats 4000000 in
theorem ct_Fi_lower (l : Launch) (E : gf_E) (μ : gf_M) : gf_Ml l E yy_Fi_lower cc_Fi_lower 1 (gf_rm 0 0) 81 gf_ref μ [.ref (gf_ad E 0)] (fun q μ' => q = μ 0 14 ∧ μ' = μ) := by
  refine gf_ml (by decide +kernel) (Nat.le_of_ble_eq_true rfl) (by decide) (fun X Q hlx C hQ => ?_)
  subst hlx
  replace C : gf_C X E cc_Fi_lower 1 "GuardFigures" (gf_rm 0 0) := C
  show gf_G X E Q 1 gf_φ μ 0 [(0, .ref (gf_ad E 0))] []
  refine gf_aload_n C dd_Fi_lower_0 0 rfl ?_
  refine gf_getL (z := 14) C gf_cl6 fl_Fi_71 dd_Fi_lower_1 rfl rfl (show gf_is 81 0 0 6 17 by decide) (fun hv1 => ?_)
  refine gf_lret C hQ dd_Fi_lower_4 (by omega) ?_
  exact ⟨rfl, rfl⟩

theorem dd_Fi_findings_0 : decode cc_Fi_findings 0 = .ok (.iload_n 1, 1) := by decide +kernel
theorem dd_Fi_findings_1 : decode cc_Fi_findings 1 = .ok (.iconst 1, 1) := by decide +kernel
theorem dd_Fi_findings_2 : decode cc_Fi_findings 2 = .ok (.if_icmp .lt 17, 3) := by decide +kernel
theorem dd_Fi_findings_5 : decode cc_Fi_findings 5 = .ok (.iload_n 1, 1) := by decide +kernel
theorem dd_Fi_findings_6 : decode cc_Fi_findings 6 = .ok (.iconst 5, 1) := by decide +kernel
theorem dd_Fi_findings_7 : decode cc_Fi_findings 7 = .ok (.if_icmp .gt 12, 3) := by decide +kernel
theorem dd_Fi_findings_10 : decode cc_Fi_findings 10 = .ok (.aload_n 0, 1) := by decide +kernel
theorem dd_Fi_findings_11 : decode cc_Fi_findings 11 = .ok (.getfield 75, 3) := by decide +kernel
theorem dd_Fi_findings_14 : decode cc_Fi_findings 14 = .ok (.iload_n 1, 1) := by decide +kernel
theorem dd_Fi_findings_15 : decode cc_Fi_findings 15 = .ok (.iaload, 1) := by decide +kernel
theorem dd_Fi_findings_16 : decode cc_Fi_findings 16 = .ok (.goto 4, 3) := by decide +kernel
theorem dd_Fi_findings_19 : decode cc_Fi_findings 19 = .ok (.iconst (-1), 1) := by decide +kernel
theorem dd_Fi_findings_20 : decode cc_Fi_findings 20 = .ok (.ireturn, 1) := by decide +kernel
set_option maxRecDepth 100000 in
set_option maxHeartbeats 4000000 in
theorem ct_Fi_findings (l : Launch) (E : gf_E) (f : Int) (μ : gf_M) (hf : gf_R f) : gf_Mi l E yy_Fi_findings cc_Fi_findings 2 .int (gf_rm 0 0) 81 gf_ref μ [.ref (gf_ad E 0), .int (gf_i f)] (fun q μ' => ((¬ (1 ≤ f ∧ f ≤ 5) → q = -1) ∧ (1 ≤ f ∧ f ≤ 5 → q = μ 64 f)) ∧ μ' = μ) := by
  refine gf_mi (by decide +kernel) (Nat.le_of_ble_eq_true rfl) (by decide) (fun X Q hlx C hQ => ?_)
  subst hlx
  replace C : gf_C X E cc_Fi_findings 2 "GuardFigures" (gf_rm 0 0) := C
  show gf_G X E Q 2 gf_φ μ 0 [(0, .ref (gf_ad E 0)), (1, .int (gf_i f))] []
  refine gf_iload_n C dd_Fi_findings_0 1 rfl ?_
  refine gf_iconst C dd_Fi_findings_1 ?_
  refine gf_icmp_lt 19 C dd_Fi_findings_2 (by decide) (by omega) (by omega) (fun h2 => ?_) (fun h2 => ?_)
  · skip
    refine gf_iconst C dd_Fi_findings_19 ?_
    refine gf_iret C hQ dd_Fi_findings_20 (by omega) ?_
    first
      | exact ⟨⟨fun h => absurd h (by omega), fun _ => rfl⟩, rfl⟩
      | exact ⟨⟨fun _ => rfl, fun h => absurd h (by omega)⟩, rfl⟩
  · skip
    refine gf_iload_n C dd_Fi_findings_5 1 rfl ?_
    refine gf_iconst C dd_Fi_findings_6 ?_
    refine gf_icmp_gt 19 C dd_Fi_findings_7 (by decide) (by omega) (by omega) (fun h7 => ?_) (fun h7 => ?_)
    · skip
      refine gf_iconst C dd_Fi_findings_19 ?_
      refine gf_iret C hQ dd_Fi_findings_20 (by omega) ?_
      first
        | exact ⟨⟨fun h => absurd h (by omega), fun _ => rfl⟩, rfl⟩
        | exact ⟨⟨fun _ => rfl, fun h => absurd h (by omega)⟩, rfl⟩
    · skip
      refine gf_aload_n C dd_Fi_findings_10 0 rfl ?_
      refine gf_getA (r := 64) C gf_cl6 fl_Fi_75 dd_Fi_findings_11 rfl (show gf_is 81 0 0 6 17 by decide) (by decide) (by decide) ?_
      refine gf_iload_n C dd_Fi_findings_14 1 rfl ?_
      refine gf_iald C dd_Fi_findings_15 (show gf_is 81 64 1 0 6 by decide) (by omega) (fun hv15 => ?_)
      refine gf_goto 20 C dd_Fi_findings_16 (by decide) ?_
      refine gf_iret C hQ dd_Fi_findings_20 (by omega) ?_
      first
        | exact ⟨⟨fun h => absurd h (by omega), fun _ => rfl⟩, rfl⟩
        | exact ⟨⟨fun _ => rfl, fun h => absurd h (by omega)⟩, rfl⟩

theorem dd_Fi_count_0 : decode cc_Fi_count 0 = .ok (.iload_n 1, 1) := by decide +kernel
theorem dd_Fi_count_1 : decode cc_Fi_count 1 = .ok (.bipush 11, 2) := by decide +kernel
theorem dd_Fi_count_3 : decode cc_Fi_count 3 = .ok (.invokestatic 78, 3) := by decide +kernel
theorem dd_Fi_count_6 : decode cc_Fi_count 6 = .ok (.ifCond .ne 5, 3) := by decide +kernel
theorem dd_Fi_count_9 : decode cc_Fi_count 9 = .ok (.iconst (-1), 1) := by decide +kernel
theorem dd_Fi_count_10 : decode cc_Fi_count 10 = .ok (.ireturn, 1) := by decide +kernel
theorem dd_Fi_count_11 : decode cc_Fi_count 11 = .ok (.aload_n 0, 1) := by decide +kernel
theorem dd_Fi_count_12 : decode cc_Fi_count 12 = .ok (.iload_n 1, 1) := by decide +kernel
theorem dd_Fi_count_13 : decode cc_Fi_count 13 = .ok (.invokevirtual 288, 3) := by decide +kernel
theorem dd_Fi_count_16 : decode cc_Fi_count 16 = .ok (.ireturn, 1) := by decide +kernel
set_option maxRecDepth 100000 in
set_option maxHeartbeats 4000000 in
theorem ct_Fi_count (l : Launch) (E : gf_E) (w : Int) (μ : gf_M) (hw : gf_R w) (hc7 : 0 ≤ μ 0 3 ∧ μ 0 3 ≤ 7) (hG : gf_okGs μ (μ 0 3)) (hs : 0 ≤ μ 41 1 ∧ μ 41 1 ≤ 8) (hF : gf_okF μ 42 (μ 41 1)) (hd : 0 ≤ μ 41 2 ∧ μ 41 2 ≤ 40) : gf_Mi l E yy_Fi_count cc_Fi_count 2 .int (gf_rm 6 138) 81 gf_ref μ [.ref (gf_ad E 0), .int (gf_i w)] (fun q μ' => (¬ (0 ≤ w ∧ w < 11) → q = -1 ∧ μ' = μ) ∧ (0 ≤ w ∧ w < 11 → q = pf_cn μ w ∧ gf_sc μ' μ)) := by
  refine gf_mi (by decide +kernel) (Nat.le_of_ble_eq_true rfl) (by decide) (fun X Q hlx C hQ => ?_)
  subst hlx
  replace C : gf_C X E cc_Fi_count 2 "GuardFigures" (gf_rm 6 138) := C
  show gf_G X E Q 2 gf_φ μ 0 [(0, .ref (gf_ad E 0)), (1, .int (gf_i w))] []
  refine gf_iload_n C dd_Fi_count_0 1 rfl ?_
  refine gf_bipush C dd_Fi_count_1 (by decide +kernel) ?_
  refine gf_callSi (st := []) (As := [.int (gf_i w), .int (gf_i 11)]) C wk_Fi_78 (ct_Fi_isWithin (gf_xl X) E w 11 μ (by omega) (by omega)) rfl ⟨rfl, rfl, rfl, rfl⟩ (Nat.le_of_ble_eq_true rfl) rfl dd_Fi_count_3 (fun r3 m3 hR3 hp3 => ?_)
  have hr3 := hp3.1
  refine gf_pm hp3.2 ?_
  refine gf_if_ne 11 C dd_Fi_count_6 (by decide) (by omega) (fun h6 => ?_) (fun h6 => ?_)
  · skip
    refine gf_aload_n C dd_Fi_count_11 0 rfl ?_
    refine gf_iload_n C dd_Fi_count_12 1 rfl ?_
    refine gf_callVi (st := []) (As := [.int (gf_i w)]) C wk_Fi_288 gf_cl6 (show gf_is 81 0 0 6 17 by decide) (ct_Fi_counted (gf_xl X) E w μ (by omega) (by omega) (hG) (by omega) (hF) (by omega)) rfl ⟨rfl, rfl, rfl, rfl⟩ (Nat.le_of_ble_eq_true rfl) rfl dd_Fi_count_13 (fun r13 m13 hR13 hp13 => ?_)
    refine gf_iret C hQ dd_Fi_count_16 (by omega) ?_
    exact ⟨fun h => absurd h (by omega), fun _ => ⟨hp13.1.1, hp13.2⟩⟩
  · skip
    refine gf_iconst C dd_Fi_count_9 ?_
    refine gf_iret C hQ dd_Fi_count_10 (by omega) ?_
    exact ⟨fun _ => ⟨rfl, rfl⟩, fun h => absurd h (by omega)⟩

theorem dd_Fi_copy_0 : decode cc_Fi_copy 0 = .ok (.iload_n 1, 1) := by decide +kernel
theorem dd_Fi_copy_1 : decode cc_Fi_copy 1 = .ok (.bipush 6, 2) := by decide +kernel
theorem dd_Fi_copy_3 : decode cc_Fi_copy 3 = .ok (.invokestatic 78, 3) := by decide +kernel
theorem dd_Fi_copy_6 : decode cc_Fi_copy 6 = .ok (.ifCond .eq 12, 3) := by decide +kernel
theorem dd_Fi_copy_9 : decode cc_Fi_copy 9 = .ok (.iload_n 3, 1) := by decide +kernel
theorem dd_Fi_copy_10 : decode cc_Fi_copy 10 = .ok (.bipush 6, 2) := by decide +kernel
theorem dd_Fi_copy_12 : decode cc_Fi_copy 12 = .ok (.invokestatic 78, 3) := by decide +kernel
theorem dd_Fi_copy_15 : decode cc_Fi_copy 15 = .ok (.ifCond .ne 5, 3) := by decide +kernel
theorem dd_Fi_copy_18 : decode cc_Fi_copy 18 = .ok (.iconst (-1), 1) := by decide +kernel
theorem dd_Fi_copy_19 : decode cc_Fi_copy 19 = .ok (.ireturn, 1) := by decide +kernel
theorem dd_Fi_copy_20 : decode cc_Fi_copy 20 = .ok (.iload 5, 2) := by decide +kernel
theorem dd_Fi_copy_22 : decode cc_Fi_copy 22 = .ok (.ifCond .ge 9, 3) := by decide +kernel
theorem dd_Fi_copy_25 : decode cc_Fi_copy 25 = .ok (.aload_n 0, 1) := by decide +kernel
theorem dd_Fi_copy_26 : decode cc_Fi_copy 26 = .ok (.iconst 5, 1) := by decide +kernel
theorem dd_Fi_copy_27 : decode cc_Fi_copy 27 = .ok (.invokevirtual 104, 3) := by decide +kernel
theorem dd_Fi_copy_30 : decode cc_Fi_copy 30 = .ok (.ireturn, 1) := by decide +kernel
theorem dd_Fi_copy_31 : decode cc_Fi_copy 31 = .ok (.aload_n 0, 1) := by decide +kernel
theorem dd_Fi_copy_32 : decode cc_Fi_copy 32 = .ok (.getfield 11, 3) := by decide +kernel
theorem dd_Fi_copy_35 : decode cc_Fi_copy 35 = .ok (.iload_n 1, 1) := by decide +kernel
theorem dd_Fi_copy_36 : decode cc_Fi_copy 36 = .ok (.aaload, 1) := by decide +kernel
theorem dd_Fi_copy_37 : decode cc_Fi_copy 37 = .ok (.invokevirtual 100, 3) := by decide +kernel
theorem dd_Fi_copy_40 : decode cc_Fi_copy 40 = .ok (.ifCond .eq 15, 3) := by decide +kernel
theorem dd_Fi_copy_43 : decode cc_Fi_copy 43 = .ok (.aload_n 0, 1) := by decide +kernel
theorem dd_Fi_copy_44 : decode cc_Fi_copy 44 = .ok (.getfield 11, 3) := by decide +kernel
theorem dd_Fi_copy_47 : decode cc_Fi_copy 47 = .ok (.iload_n 3, 1) := by decide +kernel
theorem dd_Fi_copy_48 : decode cc_Fi_copy 48 = .ok (.aaload, 1) := by decide +kernel
theorem dd_Fi_copy_49 : decode cc_Fi_copy 49 = .ok (.invokevirtual 100, 3) := by decide +kernel
theorem dd_Fi_copy_52 : decode cc_Fi_copy 52 = .ok (.ifCond .ne 9, 3) := by decide +kernel
theorem dd_Fi_copy_55 : decode cc_Fi_copy 55 = .ok (.aload_n 0, 1) := by decide +kernel
theorem dd_Fi_copy_56 : decode cc_Fi_copy 56 = .ok (.iconst 1, 1) := by decide +kernel
theorem dd_Fi_copy_57 : decode cc_Fi_copy 57 = .ok (.invokevirtual 104, 3) := by decide +kernel
theorem dd_Fi_copy_60 : decode cc_Fi_copy 60 = .ok (.ireturn, 1) := by decide +kernel
theorem dd_Fi_copy_61 : decode cc_Fi_copy 61 = .ok (.aload_n 0, 1) := by decide +kernel
theorem dd_Fi_copy_62 : decode cc_Fi_copy 62 = .ok (.getfield 11, 3) := by decide +kernel
theorem dd_Fi_copy_65 : decode cc_Fi_copy 65 = .ok (.iload_n 1, 1) := by decide +kernel
theorem dd_Fi_copy_66 : decode cc_Fi_copy 66 = .ok (.aaload, 1) := by decide +kernel
theorem dd_Fi_copy_67 : decode cc_Fi_copy 67 = .ok (.iload_n 2, 1) := by decide +kernel
theorem dd_Fi_copy_68 : decode cc_Fi_copy 68 = .ok (.iload 5, 2) := by decide +kernel
theorem dd_Fi_copy_70 : decode cc_Fi_copy 70 = .ok (.invokevirtual 111, 3) := by decide +kernel
theorem dd_Fi_copy_73 : decode cc_Fi_copy 73 = .ok (.ifCond .eq 19, 3) := by decide +kernel
theorem dd_Fi_copy_76 : decode cc_Fi_copy 76 = .ok (.aload_n 0, 1) := by decide +kernel
theorem dd_Fi_copy_77 : decode cc_Fi_copy 77 = .ok (.getfield 11, 3) := by decide +kernel
theorem dd_Fi_copy_80 : decode cc_Fi_copy 80 = .ok (.iload_n 3, 1) := by decide +kernel
theorem dd_Fi_copy_81 : decode cc_Fi_copy 81 = .ok (.aaload, 1) := by decide +kernel
theorem dd_Fi_copy_82 : decode cc_Fi_copy 82 = .ok (.iload 4, 2) := by decide +kernel
theorem dd_Fi_copy_84 : decode cc_Fi_copy 84 = .ok (.iload 5, 2) := by decide +kernel
theorem dd_Fi_copy_86 : decode cc_Fi_copy 86 = .ok (.invokevirtual 111, 3) := by decide +kernel
theorem dd_Fi_copy_89 : decode cc_Fi_copy 89 = .ok (.ifCond .ne 9, 3) := by decide +kernel
theorem dd_Fi_copy_92 : decode cc_Fi_copy 92 = .ok (.aload_n 0, 1) := by decide +kernel
theorem dd_Fi_copy_93 : decode cc_Fi_copy 93 = .ok (.iconst 2, 1) := by decide +kernel
theorem dd_Fi_copy_94 : decode cc_Fi_copy 94 = .ok (.invokevirtual 104, 3) := by decide +kernel
theorem dd_Fi_copy_97 : decode cc_Fi_copy 97 = .ok (.ireturn, 1) := by decide +kernel
theorem dd_Fi_copy_98 : decode cc_Fi_copy 98 = .ok (.aload_n 0, 1) := by decide +kernel
theorem dd_Fi_copy_99 : decode cc_Fi_copy 99 = .ok (.getfield 11, 3) := by decide +kernel
theorem dd_Fi_copy_102 : decode cc_Fi_copy 102 = .ok (.iload_n 1, 1) := by decide +kernel
theorem dd_Fi_copy_103 : decode cc_Fi_copy 103 = .ok (.aaload, 1) := by decide +kernel
theorem dd_Fi_copy_104 : decode cc_Fi_copy 104 = .ok (.getfield 97, 3) := by decide +kernel
theorem dd_Fi_copy_107 : decode cc_Fi_copy 107 = .ok (.iload_n 2, 1) := by decide +kernel
theorem dd_Fi_copy_108 : decode cc_Fi_copy 108 = .ok (.aload_n 0, 1) := by decide +kernel
theorem dd_Fi_copy_109 : decode cc_Fi_copy 109 = .ok (.getfield 11, 3) := by decide +kernel
theorem dd_Fi_copy_112 : decode cc_Fi_copy 112 = .ok (.iload_n 3, 1) := by decide +kernel
theorem dd_Fi_copy_113 : decode cc_Fi_copy 113 = .ok (.aaload, 1) := by decide +kernel
theorem dd_Fi_copy_114 : decode cc_Fi_copy 114 = .ok (.getfield 97, 3) := by decide +kernel
theorem dd_Fi_copy_117 : decode cc_Fi_copy 117 = .ok (.iload 4, 2) := by decide +kernel
theorem dd_Fi_copy_119 : decode cc_Fi_copy 119 = .ok (.iload 5, 2) := by decide +kernel
theorem dd_Fi_copy_121 : decode cc_Fi_copy 121 = .ok (.invokestatic 114, 3) := by decide +kernel
theorem dd_Fi_copy_124 : decode cc_Fi_copy 124 = .ok (.iconst 1, 1) := by decide +kernel
theorem dd_Fi_copy_125 : decode cc_Fi_copy 125 = .ok (.ireturn, 1) := by decide +kernel
set_option maxRecDepth 100000 in
set_option maxHeartbeats 4000000 in
theorem ct_Fi_copy (l : Launch) (E : gf_E) (r i o j n : Int) (μ : gf_M) (hr : gf_R r) (hi : gf_R i) (ho : gf_R o) (hj : gf_R j) (hn : gf_R n) (hrw : ∀ r : Int, 0 ≤ r → r < 6 → -1 ≤ μ (2 + 2 * r) 1 ∧ μ (2 + 2 * r) 1 ≤ 40) : gf_Mi l E yy_Fi_copy cc_Fi_copy 6 .int (gf_rm 1 30) 81 gf_ref μ [.ref (gf_ad E 0), .int (gf_i r), .int (gf_i i), .int (gf_i o), .int (gf_i j), .int (gf_i n)] (fun q μ' => (¬ (0 ≤ r ∧ r < 6 ∧ 0 ≤ o ∧ o < 6) → q = -1 ∧ μ' = μ) ∧ (0 ≤ r ∧ r < 6 ∧ 0 ≤ o ∧ o < 6 → (n < 0 → q = -3 ∧ μ' = gf_fd μ 5) ∧ (0 ≤ n → (μ (2 + 2 * r) 1 = -1 ∨ μ (2 + 2 * o) 1 = -1 → q = -3 ∧ μ' = gf_fd μ 1) ∧ (μ (2 + 2 * r) 1 ≠ -1 ∧ μ (2 + 2 * o) 1 ≠ -1 → (¬ (0 ≤ i ∧ i + n ≤ μ (2 + 2 * r) 1 ∧ 0 ≤ j ∧ j + n ≤ μ (2 + 2 * o) 1) → q = -3 ∧ μ' = gf_fd μ 2) ∧ (0 ≤ i ∧ i + n ≤ μ (2 + 2 * r) 1 ∧ 0 ≤ j ∧ j + n ≤ μ (2 + 2 * o) 1 → q = 1 ∧ μ' = gf_cp μ (3 + 2 * r) i (3 + 2 * o) j n))))) := by
  refine gf_mi (by decide +kernel) (Nat.le_of_ble_eq_true rfl) (by decide) (fun X Q hlx C hQ => ?_)
  subst hlx
  replace C : gf_C X E cc_Fi_copy 6 "GuardFigures" (gf_rm 1 30) := C
  show gf_G X E Q 6 gf_φ μ 0 [(0, .ref (gf_ad E 0)), (1, .int (gf_i r)), (2, .int (gf_i i)), (3, .int (gf_i o)), (4, .int (gf_i j)), (5, .int (gf_i n))] []
  refine gf_iload_n C dd_Fi_copy_0 1 rfl ?_
  refine gf_bipush C dd_Fi_copy_1 (by decide +kernel) ?_
  refine gf_callSi (st := []) (As := [.int (gf_i r), .int (gf_i 6)]) C wk_Fi_78 (ct_Fi_isWithin (gf_xl X) E r 6 μ (by omega) (by omega)) rfl ⟨rfl, rfl, rfl, rfl⟩ (Nat.le_of_ble_eq_true rfl) rfl dd_Fi_copy_3 (fun r3 m3 hR3 hp3 => ?_)
  have hr3 := hp3.1
  refine gf_pm hp3.2 ?_
  refine gf_if_eq 18 C dd_Fi_copy_6 (by decide) (by omega) (fun h6 => ?_) (fun h6 => ?_)
  · skip
    refine gf_iconst C dd_Fi_copy_18 ?_
    refine gf_iret C hQ dd_Fi_copy_19 (by omega) ?_
    exact ⟨fun _ => ⟨rfl, rfl⟩, fun h => absurd h (by omega)⟩
  · skip
    refine gf_iload_n C dd_Fi_copy_9 3 rfl ?_
    refine gf_bipush C dd_Fi_copy_10 (by decide +kernel) ?_
    refine gf_callSi (st := []) (As := [.int (gf_i o), .int (gf_i 6)]) C wk_Fi_78 (ct_Fi_isWithin (gf_xl X) E o 6 μ (by omega) (by omega)) rfl ⟨rfl, rfl, rfl, rfl⟩ (Nat.le_of_ble_eq_true rfl) rfl dd_Fi_copy_12 (fun r12 m12 hR12 hp12 => ?_)
    have hr12 := hp12.1
    refine gf_pm hp12.2 ?_
    refine gf_if_ne 20 C dd_Fi_copy_15 (by decide) (by omega) (fun h15 => ?_) (fun h15 => ?_)
    · skip
      have hin : 0 ≤ r ∧ r < 6 := by have := hr3.1; have := hr3.2; omega
      have hin2 : 0 ≤ o ∧ o < 6 := by have := hr12.1; have := hr12.2; omega
      have hrr := hrw r hin.1 hin.2
      have hrr2 := hrw o hin2.1 hin2.2
      clear hr3 hr12 hp3 hp12
      refine gf_iload C dd_Fi_copy_20 5 rfl ?_
      refine gf_if_ge 31 C dd_Fi_copy_22 (by decide) (by omega) (fun h22 => ?_) (fun h22 => ?_)
      · skip
        refine gf_aload_n C dd_Fi_copy_31 0 rfl ?_
        refine gf_getA (r := 1) C gf_cl6 fl_Fi_11 dd_Fi_copy_32 rfl (show gf_is 81 0 0 6 17 by decide) (by decide) (by decide) ?_
        refine gf_iload_n C dd_Fi_copy_35 1 rfl ?_
        have ha36 := gf_row_of (r := r) (by omega)
        refine gf_aald C dd_Fi_copy_36 (show gf_is 81 1 4 3 6 by decide) (by decide) (by omega) ha36.1 (by first | omega | exact ha36.2.1.1 | exact ha36.2.1) ?_
        refine gf_callVi (st := []) (As := []) C wk_Fi_100 gf_cl3 ha36.2.1 (ct_Ro_isThere (gf_xl X) E (2 + 2 * r) 40 μ ha36.2) rfl ⟨rfl, rfl, rfl, rfl⟩ (Nat.le_of_ble_eq_true rfl) rfl dd_Fi_copy_37 (fun r37 m37 hR37 hp37 => ?_)
        have hr37 := hp37.1
        refine gf_pm hp37.2 ?_
        refine gf_if_eq 55 C dd_Fi_copy_40 (by decide) (by omega) (fun h40 => ?_) (fun h40 => ?_)
        · skip
          have hA : μ (2 + 2 * r) 1 = -1 := by have := hr37.2; omega
          refine gf_aload_n C dd_Fi_copy_55 0 rfl ?_
          refine gf_iconst C dd_Fi_copy_56 ?_
          refine gf_callVi (st := []) (As := [.int (gf_i 1)]) C wk_Fi_104 gf_cl6 (show gf_is 81 0 0 6 17 by decide) (ct_Fi_found (gf_xl X) E 1 μ (by omega)) rfl ⟨rfl, rfl, rfl, rfl⟩ (Nat.le_of_ble_eq_true rfl) rfl dd_Fi_copy_57 (fun r57 m57 hR57 hp57 => ?_)
          refine gf_iret C hQ dd_Fi_copy_60 (by omega) ?_
          exact ⟨fun h => absurd h (by omega), fun _ => ⟨fun h => absurd h (by omega), fun _ => ⟨fun _ => hp57, fun h => absurd h (by omega)⟩⟩⟩
        · skip
          have hA : μ (2 + 2 * r) 1 ≠ -1 := by have := hr37.1; omega
          clear hr37 hp37
          refine gf_aload_n C dd_Fi_copy_43 0 rfl ?_
          refine gf_getA (r := 1) C gf_cl6 fl_Fi_11 dd_Fi_copy_44 rfl (show gf_is 81 0 0 6 17 by decide) (by decide) (by decide) ?_
          refine gf_iload_n C dd_Fi_copy_47 3 rfl ?_
          have ha48 := gf_row_of (r := o) (by omega)
          refine gf_aald C dd_Fi_copy_48 (show gf_is 81 1 4 3 6 by decide) (by decide) (by omega) ha48.1 (by first | omega | exact ha48.2.1.1 | exact ha48.2.1) ?_
          refine gf_callVi (st := []) (As := []) C wk_Fi_100 gf_cl3 ha48.2.1 (ct_Ro_isThere (gf_xl X) E (2 + 2 * o) 40 μ ha48.2) rfl ⟨rfl, rfl, rfl, rfl⟩ (Nat.le_of_ble_eq_true rfl) rfl dd_Fi_copy_49 (fun r49 m49 hR49 hp49 => ?_)
          have hr49 := hp49.1
          refine gf_pm hp49.2 ?_
          refine gf_if_ne 61 C dd_Fi_copy_52 (by decide) (by omega) (fun h52 => ?_) (fun h52 => ?_)
          · skip
            have hB : μ (2 + 2 * o) 1 ≠ -1 := by have := hr49.1; omega
            clear hr49 hp49
            refine gf_aload_n C dd_Fi_copy_61 0 rfl ?_
            refine gf_getA (r := 1) C gf_cl6 fl_Fi_11 dd_Fi_copy_62 rfl (show gf_is 81 0 0 6 17 by decide) (by decide) (by decide) ?_
            refine gf_iload_n C dd_Fi_copy_65 1 rfl ?_
            have ha66 := gf_row_of (r := r) (by omega)
            refine gf_aald C dd_Fi_copy_66 (show gf_is 81 1 4 3 6 by decide) (by decide) (by omega) ha66.1 (by first | omega | exact ha66.2.1.1 | exact ha66.2.1) ?_
            refine gf_iload_n C dd_Fi_copy_67 2 rfl ?_
            refine gf_iload C dd_Fi_copy_68 5 rfl ?_
            refine gf_callVi (st := []) (As := [.int (gf_i i), .int (gf_i n)]) C wk_Fi_111 gf_cl3 ha66.2.1 (ct_Ro_hasPlaces (gf_xl X) E (2 + 2 * r) 40 μ ha66.2 i n (by omega) (by omega) (by omega)) rfl ⟨rfl, rfl, rfl, rfl⟩ (Nat.le_of_ble_eq_true rfl) rfl dd_Fi_copy_70 (fun r70 m70 hR70 hp70 => ?_)
            have hr70 := hp70.1
            refine gf_pm hp70.2 ?_
            refine gf_if_eq 92 C dd_Fi_copy_73 (by decide) (by omega) (fun h73 => ?_) (fun h73 => ?_)
            · skip
              have hC : ¬ (0 ≤ i ∧ i + n ≤ μ (2 + 2 * r) 1) := by have := hr70.1; omega
              refine gf_aload_n C dd_Fi_copy_92 0 rfl ?_
              refine gf_iconst C dd_Fi_copy_93 ?_
              refine gf_callVi (st := []) (As := [.int (gf_i 2)]) C wk_Fi_104 gf_cl6 (show gf_is 81 0 0 6 17 by decide) (ct_Fi_found (gf_xl X) E 2 μ (by omega)) rfl ⟨rfl, rfl, rfl, rfl⟩ (Nat.le_of_ble_eq_true rfl) rfl dd_Fi_copy_94 (fun r94 m94 hR94 hp94 => ?_)
              refine gf_iret C hQ dd_Fi_copy_97 (by omega) ?_
              exact ⟨fun h => absurd h (by omega), fun _ => ⟨fun h => absurd h (by omega), fun _ => ⟨fun h => absurd h (by omega), fun _ => ⟨fun _ => hp94, fun h => absurd h (by omega)⟩⟩⟩⟩
            · skip
              have hC : 0 ≤ i ∧ i + n ≤ μ (2 + 2 * r) 1 := by have := hr70.2; omega
              clear hr70 hp70
              refine gf_aload_n C dd_Fi_copy_76 0 rfl ?_
              refine gf_getA (r := 1) C gf_cl6 fl_Fi_11 dd_Fi_copy_77 rfl (show gf_is 81 0 0 6 17 by decide) (by decide) (by decide) ?_
              refine gf_iload_n C dd_Fi_copy_80 3 rfl ?_
              have ha81 := gf_row_of (r := o) (by omega)
              refine gf_aald C dd_Fi_copy_81 (show gf_is 81 1 4 3 6 by decide) (by decide) (by omega) ha81.1 (by first | omega | exact ha81.2.1.1 | exact ha81.2.1) ?_
              refine gf_iload C dd_Fi_copy_82 4 rfl ?_
              refine gf_iload C dd_Fi_copy_84 5 rfl ?_
              refine gf_callVi (st := []) (As := [.int (gf_i j), .int (gf_i n)]) C wk_Fi_111 gf_cl3 ha81.2.1 (ct_Ro_hasPlaces (gf_xl X) E (2 + 2 * o) 40 μ ha81.2 j n (by omega) (by omega) (by omega)) rfl ⟨rfl, rfl, rfl, rfl⟩ (Nat.le_of_ble_eq_true rfl) rfl dd_Fi_copy_86 (fun r86 m86 hR86 hp86 => ?_)
              have hr86 := hp86.1
              refine gf_pm hp86.2 ?_
              refine gf_if_ne 98 C dd_Fi_copy_89 (by decide) (by omega) (fun h89 => ?_) (fun h89 => ?_)
              · skip
                have hD : 0 ≤ j ∧ j + n ≤ μ (2 + 2 * o) 1 := by have := hr86.2; omega
                clear hr86 hp86
                refine gf_aload_n C dd_Fi_copy_98 0 rfl ?_
                refine gf_getA (r := 1) C gf_cl6 fl_Fi_11 dd_Fi_copy_99 rfl (show gf_is 81 0 0 6 17 by decide) (by decide) (by decide) ?_
                refine gf_iload_n C dd_Fi_copy_102 1 rfl ?_
                have ha103 := gf_row_of (r := r) (by omega)
                refine gf_aald C dd_Fi_copy_103 (show gf_is 81 1 4 3 6 by decide) (by decide) (by omega) ha103.1 (by first | omega | exact ha103.2.1.1 | exact ha103.2.1) ?_
                refine gf_getA (r := ((2 + 2 * r) + 1)) C gf_cl3 fl_Fi_97 dd_Fi_copy_104 rfl ha103.2.1 ha103.2.2.1 (ha103.2.2.2).1 ?_
                refine gf_iload_n C dd_Fi_copy_107 2 rfl ?_
                refine gf_aload_n C dd_Fi_copy_108 0 rfl ?_
                refine gf_getA (r := 1) C gf_cl6 fl_Fi_11 dd_Fi_copy_109 rfl (show gf_is 81 0 0 6 17 by decide) (by decide) (by decide) ?_
                refine gf_iload_n C dd_Fi_copy_112 3 rfl ?_
                have ha113 := gf_row_of (r := o) (by omega)
                refine gf_aald C dd_Fi_copy_113 (show gf_is 81 1 4 3 6 by decide) (by decide) (by omega) ha113.1 (by first | omega | exact ha113.2.1.1 | exact ha113.2.1) ?_
                refine gf_getA (r := ((2 + 2 * o) + 1)) C gf_cl3 fl_Fi_97 dd_Fi_copy_114 rfl ha113.2.1 ha113.2.2.1 (ha113.2.2.2).1 ?_
                refine gf_iload C dd_Fi_copy_117 4 rfl ?_
                refine gf_iload C dd_Fi_copy_119 5 rfl ?_
                refine gf_copy (x := i) (y := j) (n := n) rfl C (gf_mem 333 (by decide +kernel) (by decide +kernel)) gf_wCp.1 gf_wCp.2.1 gf_wCp.2.2 (by decide) (by decide +kernel) dd_Fi_copy_121 ha103.2.2.2 ha113.2.2.2 (by omega) ?_
                refine gf_nmM (fun m121 hm121 => ?_)
                refine gf_iconst C dd_Fi_copy_124 ?_
                refine gf_iret C hQ dd_Fi_copy_125 (by omega) ?_
                refine ⟨fun h => absurd h (by omega), fun _ => ⟨fun h => absurd h (by omega), fun _ => ⟨fun h => absurd h (by omega), fun _ => ⟨fun h => absurd h (by omega), fun _ => ⟨rfl, ?_⟩⟩⟩⟩⟩
                rw [hm121, show (2 + 2 * r + 1 : Int) = 3 + 2 * r by omega, show (2 + 2 * o + 1 : Int) = 3 + 2 * o by omega]
              · skip
                have hD : ¬ (0 ≤ j ∧ j + n ≤ μ (2 + 2 * o) 1) := by have := hr86.1; omega
                refine gf_aload_n C dd_Fi_copy_92 0 rfl ?_
                refine gf_iconst C dd_Fi_copy_93 ?_
                refine gf_callVi (st := []) (As := [.int (gf_i 2)]) C wk_Fi_104 gf_cl6 (show gf_is 81 0 0 6 17 by decide) (ct_Fi_found (gf_xl X) E 2 μ (by omega)) rfl ⟨rfl, rfl, rfl, rfl⟩ (Nat.le_of_ble_eq_true rfl) rfl dd_Fi_copy_94 (fun r94 m94 hR94 hp94 => ?_)
                refine gf_iret C hQ dd_Fi_copy_97 (by omega) ?_
                exact ⟨fun h => absurd h (by omega), fun _ => ⟨fun h => absurd h (by omega), fun _ => ⟨fun h => absurd h (by omega), fun _ => ⟨fun _ => hp94, fun h => absurd h (by omega)⟩⟩⟩⟩
          · skip
            have hB : μ (2 + 2 * o) 1 = -1 := by have := hr49.2; omega
            refine gf_aload_n C dd_Fi_copy_55 0 rfl ?_
            refine gf_iconst C dd_Fi_copy_56 ?_
            refine gf_callVi (st := []) (As := [.int (gf_i 1)]) C wk_Fi_104 gf_cl6 (show gf_is 81 0 0 6 17 by decide) (ct_Fi_found (gf_xl X) E 1 μ (by omega)) rfl ⟨rfl, rfl, rfl, rfl⟩ (Nat.le_of_ble_eq_true rfl) rfl dd_Fi_copy_57 (fun r57 m57 hR57 hp57 => ?_)
            refine gf_iret C hQ dd_Fi_copy_60 (by omega) ?_
            exact ⟨fun h => absurd h (by omega), fun _ => ⟨fun h => absurd h (by omega), fun _ => ⟨fun _ => hp57, fun h => absurd h (by omega)⟩⟩⟩
      · skip
        refine gf_aload_n C dd_Fi_copy_25 0 rfl ?_
        refine gf_iconst C dd_Fi_copy_26 ?_
        refine gf_callVi (st := []) (As := [.int (gf_i 5)]) C wk_Fi_104 gf_cl6 (show gf_is 81 0 0 6 17 by decide) (ct_Fi_found (gf_xl X) E 5 μ (by omega)) rfl ⟨rfl, rfl, rfl, rfl⟩ (Nat.le_of_ble_eq_true rfl) rfl dd_Fi_copy_27 (fun r27 m27 hR27 hp27 => ?_)
        refine gf_iret C hQ dd_Fi_copy_30 (by omega) ?_
        exact ⟨fun h => absurd h (by omega), fun _ => ⟨fun _ => hp27, fun h => absurd h (by omega)⟩⟩
    · skip
      refine gf_iconst C dd_Fi_copy_18 ?_
      refine gf_iret C hQ dd_Fi_copy_19 (by omega) ?_
      exact ⟨fun _ => ⟨rfl, rfl⟩, fun h => absurd h (by omega)⟩
