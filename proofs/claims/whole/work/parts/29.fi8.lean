/-! GuardFigures: what nobody notices, what to write, which guard it is, by turns, chances -/
theorem gf_sc_rf {μ : gf_M} : gf_sc μ μ := fun _ _ _ => rfl
def pf_og (μ : gf_M) (i w : Int) : Int := if w = 0 then μ (24 + i) 0 else if w = 1 then μ (24 + i) 1 else if w = 2 then μ (24 + i) 2 else if w = 3 then pf_reck (μ (24 + i) 0) (μ (24 + i) 1) (μ (24 + i) 2) (μ 42) (μ 41 1) else ((pf_unS μ i.toNat).length : Int)
theorem gf_sc_tl {μ μ' : gf_M} {v : Int} {m : gf_M} (h : gf_sc m μ) (hm : μ' = gf_up m 0 12 v) : gf_sc μ' (gf_tl μ v) := by
  intro a b hab
  rw [hm]
  unfold gf_tl
  by_cases e : a = 0 ∧ b = 12
  · rw [e.1, e.2, gf_up_s, gf_up_s]
  · rw [gf_up_o e, gf_up_o e]; exact h a b hab
/-- the first i with the least of U -/
def pf_fst (U : Int → Int) : Nat → Int × Int
  | 0 => (0, U 0)
  | i + 1 => if U (i + 1) < (pf_fst U i).2 then ((i : Int) + 1, U (i + 1)) else pf_fst U i
theorem pf_fst_R {U : Int → Int} {B : Int} (h : ∀ i : Int, 0 ≤ U i ∧ U i ≤ B) : ∀ n : Nat, (0 ≤ (pf_fst U n).1 ∧ (pf_fst U n).1 ≤ n) ∧ 0 ≤ (pf_fst U n).2 ∧ (pf_fst U n).2 ≤ B
  | 0 => ⟨by simp [pf_fst], h 0⟩
  | n + 1 => by
    have ih := pf_fst_R h n
    have := h (n + 1)
    unfold pf_fst
    split
    · refine ⟨?_, this⟩
      show 0 ≤ (n : Int) + 1 ∧ (n : Int) + 1 ≤ ((n + 1 : Nat) : Int)
      omega
    · exact ⟨⟨ih.1.1, by omega⟩, ih.2⟩
theorem pf_fst_congr {U V : Int → Int} : ∀ n : Nat, (∀ i : Int, 0 ≤ i → i ≤ n → U i = V i) → pf_fst U n = pf_fst V n
  | 0, h => by unfold pf_fst; rw [h 0 (by omega) (by omega)]
  | n + 1, h => by unfold pf_fst; rw [pf_fst_congr n (fun i h0 h1 => h i h0 (by omega)), h (n + 1) (by omega) (by omega)]
theorem dd_Fi_slips_0 : decode cc_Fi_slips 0 = .ok (.aload_n 0, 1) := by decide +kernel
theorem dd_Fi_slips_1 : decode cc_Fi_slips 1 = .ok (.iload_n 1, 1) := by decide +kernel
theorem dd_Fi_slips_2 : decode cc_Fi_slips 2 = .ok (.iconst 0, 1) := by decide +kernel
theorem dd_Fi_slips_3 : decode cc_Fi_slips 3 = .ok (.invokevirtual 195, 3) := by decide +kernel
theorem dd_Fi_slips_6 : decode cc_Fi_slips 6 = .ok (.ireturn, 1) := by decide +kernel
set_option maxRecDepth 100000 in
set_option maxHeartbeats 4000000 in
theorem ct_Fi_slips (l : Launch) (E : gf_E) (i : Int) (μ : gf_M) (hi : gf_R i) (hc7 : 0 ≤ μ 0 3 ∧ μ 0 3 ≤ 7) (hG : gf_okGs μ (μ 0 3)) (hs : 0 ≤ μ 41 1 ∧ μ 41 1 ≤ 8) (hF : gf_okF μ 42 (μ 41 1)) : gf_Mi l E yy_Fi_slips cc_Fi_slips 2 .int (gf_rm 5 118) 81 gf_ref μ [.ref (gf_ad E 0), .int (gf_i i)] (fun q μ' => (¬ (0 ≤ i ∧ i < μ 0 3) → q = -1 ∧ μ' = μ) ∧ (0 ≤ i ∧ i < μ 0 3 → (pf_unS μ i.toNat = [] → q = -9 ∧ gf_sc μ' μ) ∧ (pf_unS μ i.toNat ≠ [] → q = ((pf_unS μ i.toNat).length : Int) ∧ gf_sc μ' (gf_tl μ ((pf_unS μ i.toNat).head?.getD (-9)))))) := by
  refine gf_mi (by decide +kernel) (Nat.le_of_ble_eq_true rfl) (by decide) (fun X Q hlx C hQ => ?_)
  subst hlx
  replace C : gf_C X E cc_Fi_slips 2 "GuardFigures" (gf_rm 5 118) := C
  show gf_G X E Q 2 gf_φ μ 0 [(0, .ref (gf_ad E 0)), (1, .int (gf_i i))] []
  refine gf_aload_n C dd_Fi_slips_0 0 rfl ?_
  refine gf_iload_n C dd_Fi_slips_1 1 rfl ?_
  refine gf_iconst C dd_Fi_slips_2 ?_
  refine gf_callVi (st := []) (As := [.int (gf_i i), .int (gf_i 0)]) C wk_Fi_195 gf_cl6 (show gf_is 81 0 0 6 17 by decide) (ct_Fi_tellUnseen (gf_xl X) E i 0 μ (by omega) (by omega) (by omega) (hG) (by omega) (hF)) rfl ⟨rfl, rfl, rfl, rfl⟩ (Nat.le_of_ble_eq_true rfl) rfl dd_Fi_slips_3 (fun r3 m3 hR3 hp3 => ?_)
  refine gf_iret C hQ dd_Fi_slips_6 (by omega) ?_
  exact ⟨hp3.1, fun h => (hp3.2 h).1 rfl⟩

theorem dd_Fi_swaps_0 : decode cc_Fi_swaps 0 = .ok (.aload_n 0, 1) := by decide +kernel
theorem dd_Fi_swaps_1 : decode cc_Fi_swaps 1 = .ok (.iload_n 1, 1) := by decide +kernel
theorem dd_Fi_swaps_2 : decode cc_Fi_swaps 2 = .ok (.iconst 1, 1) := by decide +kernel
theorem dd_Fi_swaps_3 : decode cc_Fi_swaps 3 = .ok (.invokevirtual 195, 3) := by decide +kernel
theorem dd_Fi_swaps_6 : decode cc_Fi_swaps 6 = .ok (.ireturn, 1) := by decide +kernel
set_option maxRecDepth 100000 in
set_option maxHeartbeats 4000000 in
theorem ct_Fi_swaps (l : Launch) (E : gf_E) (i : Int) (μ : gf_M) (hi : gf_R i) (hc7 : 0 ≤ μ 0 3 ∧ μ 0 3 ≤ 7) (hG : gf_okGs μ (μ 0 3)) (hs : 0 ≤ μ 41 1 ∧ μ 41 1 ≤ 8) (hF : gf_okF μ 42 (μ 41 1)) : gf_Mi l E yy_Fi_swaps cc_Fi_swaps 2 .int (gf_rm 5 118) 81 gf_ref μ [.ref (gf_ad E 0), .int (gf_i i)] (fun q μ' => (¬ (0 ≤ i ∧ i < μ 0 3) → q = -1 ∧ μ' = μ) ∧ (0 ≤ i ∧ i < μ 0 3 → (pf_unX μ 1 i.toNat = [] → q = -9 ∧ gf_sc μ' μ) ∧ (pf_unX μ 1 i.toNat ≠ [] → q = ((pf_unX μ 1 i.toNat).length : Int) ∧ gf_sc μ' (gf_tl μ ((pf_unX μ 1 i.toNat).head?.getD (-9)))))) := by
  refine gf_mi (by decide +kernel) (Nat.le_of_ble_eq_true rfl) (by decide) (fun X Q hlx C hQ => ?_)
  subst hlx
  replace C : gf_C X E cc_Fi_swaps 2 "GuardFigures" (gf_rm 5 118) := C
  show gf_G X E Q 2 gf_φ μ 0 [(0, .ref (gf_ad E 0)), (1, .int (gf_i i))] []
  refine gf_aload_n C dd_Fi_swaps_0 0 rfl ?_
  refine gf_iload_n C dd_Fi_swaps_1 1 rfl ?_
  refine gf_iconst C dd_Fi_swaps_2 ?_
  refine gf_callVi (st := []) (As := [.int (gf_i i), .int (gf_i 1)]) C wk_Fi_195 gf_cl6 (show gf_is 81 0 0 6 17 by decide) (ct_Fi_tellUnseen (gf_xl X) E i 1 μ (by omega) (by omega) (by omega) (hG) (by omega) (hF)) rfl ⟨rfl, rfl, rfl, rfl⟩ (Nat.le_of_ble_eq_true rfl) rfl dd_Fi_swaps_3 (fun r3 m3 hR3 hp3 => ?_)
  refine gf_iret C hQ dd_Fi_swaps_6 (by omega) ?_
  exact ⟨hp3.1, fun h => (hp3.2 h).2 (by decide)⟩

theorem dd_Fi_jumps_0 : decode cc_Fi_jumps 0 = .ok (.aload_n 0, 1) := by decide +kernel
theorem dd_Fi_jumps_1 : decode cc_Fi_jumps 1 = .ok (.iload_n 1, 1) := by decide +kernel
theorem dd_Fi_jumps_2 : decode cc_Fi_jumps 2 = .ok (.iconst 2, 1) := by decide +kernel
theorem dd_Fi_jumps_3 : decode cc_Fi_jumps 3 = .ok (.invokevirtual 195, 3) := by decide +kernel
theorem dd_Fi_jumps_6 : decode cc_Fi_jumps 6 = .ok (.ireturn, 1) := by decide +kernel
set_option maxRecDepth 100000 in
set_option maxHeartbeats 4000000 in
theorem ct_Fi_jumps (l : Launch) (E : gf_E) (i : Int) (μ : gf_M) (hi : gf_R i) (hc7 : 0 ≤ μ 0 3 ∧ μ 0 3 ≤ 7) (hG : gf_okGs μ (μ 0 3)) (hs : 0 ≤ μ 41 1 ∧ μ 41 1 ≤ 8) (hF : gf_okF μ 42 (μ 41 1)) : gf_Mi l E yy_Fi_jumps cc_Fi_jumps 2 .int (gf_rm 5 118) 81 gf_ref μ [.ref (gf_ad E 0), .int (gf_i i)] (fun q μ' => (¬ (0 ≤ i ∧ i < μ 0 3) → q = -1 ∧ μ' = μ) ∧ (0 ≤ i ∧ i < μ 0 3 → (pf_unX μ 2 i.toNat = [] → q = -9 ∧ gf_sc μ' μ) ∧ (pf_unX μ 2 i.toNat ≠ [] → q = ((pf_unX μ 2 i.toNat).length : Int) ∧ gf_sc μ' (gf_tl μ ((pf_unX μ 2 i.toNat).head?.getD (-9)))))) := by
  refine gf_mi (by decide +kernel) (Nat.le_of_ble_eq_true rfl) (by decide) (fun X Q hlx C hQ => ?_)
  subst hlx
  replace C : gf_C X E cc_Fi_jumps 2 "GuardFigures" (gf_rm 5 118) := C
  show gf_G X E Q 2 gf_φ μ 0 [(0, .ref (gf_ad E 0)), (1, .int (gf_i i))] []
  refine gf_aload_n C dd_Fi_jumps_0 0 rfl ?_
  refine gf_iload_n C dd_Fi_jumps_1 1 rfl ?_
  refine gf_iconst C dd_Fi_jumps_2 ?_
  refine gf_callVi (st := []) (As := [.int (gf_i i), .int (gf_i 2)]) C wk_Fi_195 gf_cl6 (show gf_is 81 0 0 6 17 by decide) (ct_Fi_tellUnseen (gf_xl X) E i 2 μ (by omega) (by omega) (by omega) (hG) (by omega) (hF)) rfl ⟨rfl, rfl, rfl, rfl⟩ (Nat.le_of_ble_eq_true rfl) rfl dd_Fi_jumps_3 (fun r3 m3 hR3 hp3 => ?_)
  refine gf_iret C hQ dd_Fi_jumps_6 (by omega) ?_
  exact ⟨hp3.1, fun h => (hp3.2 h).2 (by decide)⟩

theorem dd_Fi_guard_0 : decode cc_Fi_guard 0 = .ok (.aload_n 0, 1) := by decide +kernel
theorem dd_Fi_guard_1 : decode cc_Fi_guard 1 = .ok (.iload_n 1, 1) := by decide +kernel
theorem dd_Fi_guard_2 : decode cc_Fi_guard 2 = .ok (.invokevirtual 143, 3) := by decide +kernel
theorem dd_Fi_guard_5 : decode cc_Fi_guard 5 = .ok (.ifCond .eq 11, 3) := by decide +kernel
theorem dd_Fi_guard_8 : decode cc_Fi_guard 8 = .ok (.iload_n 2, 1) := by decide +kernel
theorem dd_Fi_guard_9 : decode cc_Fi_guard 9 = .ok (.iconst 5, 1) := by decide +kernel
theorem dd_Fi_guard_10 : decode cc_Fi_guard 10 = .ok (.invokestatic 78, 3) := by decide +kernel
theorem dd_Fi_guard_13 : decode cc_Fi_guard 13 = .ok (.ifCond .ne 5, 3) := by decide +kernel
theorem dd_Fi_guard_16 : decode cc_Fi_guard 16 = .ok (.iconst (-1), 1) := by decide +kernel
theorem dd_Fi_guard_17 : decode cc_Fi_guard 17 = .ok (.ireturn, 1) := by decide +kernel
theorem dd_Fi_guard_18 : decode cc_Fi_guard 18 = .ok (.aload_n 0, 1) := by decide +kernel
theorem dd_Fi_guard_19 : decode cc_Fi_guard 19 = .ok (.aload_n 0, 1) := by decide +kernel
theorem dd_Fi_guard_20 : decode cc_Fi_guard 20 = .ok (.iload_n 1, 1) := by decide +kernel
theorem dd_Fi_guard_21 : decode cc_Fi_guard 21 = .ok (.iload_n 2, 1) := by decide +kernel
theorem dd_Fi_guard_22 : decode cc_Fi_guard 22 = .ok (.invokevirtual 147, 3) := by decide +kernel
theorem dd_Fi_guard_25 : decode cc_Fi_guard 25 = .ok (.invokevirtual 93, 3) := by decide +kernel
theorem dd_Fi_guard_28 : decode cc_Fi_guard 28 = .ok (.ireturn, 1) := by decide +kernel
set_option maxRecDepth 100000 in
set_option maxHeartbeats 4000000 in
theorem ct_Fi_guard (l : Launch) (E : gf_E) (i w : Int) (μ : gf_M) (hi : gf_R i) (hw : gf_R w) (hc7 : 0 ≤ μ 0 3 ∧ μ 0 3 ≤ 7) (hG : gf_okGs μ (μ 0 3)) (hs : 0 ≤ μ 41 1 ∧ μ 41 1 ≤ 8) (hF : gf_okF μ 42 (μ 41 1)) : gf_Mi l E yy_Fi_guard cc_Fi_guard 3 .int (gf_rm 5 117) 81 gf_ref μ [.ref (gf_ad E 0), .int (gf_i i), .int (gf_i w)] (fun q μ' => (¬ (0 ≤ i ∧ i < μ 0 3 ∧ 0 ≤ w ∧ w < 5) → q = -1 ∧ μ' = μ) ∧ (0 ≤ i ∧ i < μ 0 3 ∧ 0 ≤ w ∧ w < 5 → q = 1 ∧ gf_sc μ' (gf_tl μ (pf_og μ i w)))) := by
  refine gf_mi (by decide +kernel) (Nat.le_of_ble_eq_true rfl) (by decide) (fun X Q hlx C hQ => ?_)
  subst hlx
  replace C : gf_C X E cc_Fi_guard 3 "GuardFigures" (gf_rm 5 117) := C
  show gf_G X E Q 3 gf_φ μ 0 [(0, .ref (gf_ad E 0)), (1, .int (gf_i i)), (2, .int (gf_i w))] []
  refine gf_aload_n C dd_Fi_guard_0 0 rfl ?_
  refine gf_iload_n C dd_Fi_guard_1 1 rfl ?_
  refine gf_callVi (st := []) (As := [.int (gf_i i)]) C wk_Fi_143 gf_cl6 (show gf_is 81 0 0 6 17 by decide) (ct_Fi_isGuard (gf_xl X) E i μ (by omega)) rfl ⟨rfl, rfl, rfl, rfl⟩ (Nat.le_of_ble_eq_true rfl) rfl dd_Fi_guard_2 (fun r2 m2 hR2 hp2 => ?_)
  have hr2 := hp2.1
  refine gf_pm hp2.2 ?_
  refine gf_if_eq 16 C dd_Fi_guard_5 (by decide) (by omega) (fun h5 => ?_) (fun h5 => ?_)
  · skip
    refine gf_iconst C dd_Fi_guard_16 ?_
    refine gf_iret C hQ dd_Fi_guard_17 (by omega) ?_
    exact ⟨fun _ => ⟨rfl, rfl⟩, fun h => absurd h (by omega)⟩
  · skip
    refine gf_iload_n C dd_Fi_guard_8 2 rfl ?_
    refine gf_iconst C dd_Fi_guard_9 ?_
    refine gf_callSi (st := []) (As := [.int (gf_i w), .int (gf_i 5)]) C wk_Fi_78 (ct_Fi_isWithin (gf_xl X) E w 5 μ (by omega) (by omega)) rfl ⟨rfl, rfl, rfl, rfl⟩ (Nat.le_of_ble_eq_true rfl) rfl dd_Fi_guard_10 (fun r10 m10 hR10 hp10 => ?_)
    have hr10 := hp10.1
    refine gf_pm hp10.2 ?_
    refine gf_if_ne 18 C dd_Fi_guard_13 (by decide) (by omega) (fun h13 => ?_) (fun h13 => ?_)
    · skip
      have hin : 0 ≤ i ∧ i < μ 0 3 := by have := hr2.1; have := hr2.2; omega
      have hin2 : 0 ≤ w ∧ w < 5 := by have := hr10.1; have := hr10.2; omega
      clear hr2 hr10 hp2 hp10
      refine gf_aload_n C dd_Fi_guard_18 0 rfl ?_
      refine gf_aload_n C dd_Fi_guard_19 0 rfl ?_
      refine gf_iload_n C dd_Fi_guard_20 1 rfl ?_
      refine gf_iload_n C dd_Fi_guard_21 2 rfl ?_
      refine gf_callVi (st := [.ref (gf_ad E 0)]) (As := [.int (gf_i i), .int (gf_i w)]) C wk_Fi_147 gf_cl6 (show gf_is 81 0 0 6 17 by decide) (ct_Fi_ofGuard (gf_xl X) E i w μ (by omega) (by omega) (by omega) (hG) (by omega) (hF)) rfl ⟨rfl, rfl, rfl, rfl⟩ (Nat.le_of_ble_eq_true rfl) rfl dd_Fi_guard_22 (fun r22 m22 hR22 hp22 => ?_)
      refine gf_callVi (st := []) (As := [.int (gf_i r22)]) C wk_Fi_93 gf_cl6 (show gf_is 81 0 0 6 17 by decide) (ct_Fi_tell (gf_xl X) E r22 m22 (by omega)) rfl ⟨rfl, rfl, rfl, rfl⟩ (Nat.le_of_ble_eq_true rfl) rfl dd_Fi_guard_25 (fun r25 m25 hR25 hp25 => ?_)
      refine gf_iret C hQ dd_Fi_guard_28 (by omega) ?_
      refine ⟨fun h => absurd h (by omega), fun _ => ⟨hp25.1, ?_⟩⟩
      have e : r22 = pf_og μ i w := hp22.1.1
      rw [← e]
      exact gf_sc_tl hp22.2 hp25.2
    · skip
      refine gf_iconst C dd_Fi_guard_16 ?_
      refine gf_iret C hQ dd_Fi_guard_17 (by omega) ?_
      exact ⟨fun _ => ⟨rfl, rfl⟩, fun h => absurd h (by omega)⟩

theorem dd_Fi_mark_0 : decode cc_Fi_mark 0 = .ok (.aload_n 0, 1) := by decide +kernel
theorem dd_Fi_mark_1 : decode cc_Fi_mark 1 = .ok (.iload_n 1, 1) := by decide +kernel
theorem dd_Fi_mark_2 : decode cc_Fi_mark 2 = .ok (.invokevirtual 143, 3) := by decide +kernel
theorem dd_Fi_mark_5 : decode cc_Fi_mark 5 = .ok (.ifCond .eq 16, 3) := by decide +kernel
theorem dd_Fi_mark_8 : decode cc_Fi_mark 8 = .ok (.iload_n 2, 1) := by decide +kernel
theorem dd_Fi_mark_9 : decode cc_Fi_mark 9 = .ok (.ifCond .eq 12, 3) := by decide +kernel
theorem dd_Fi_mark_12 : decode cc_Fi_mark 12 = .ok (.iload_n 2, 1) := by decide +kernel
theorem dd_Fi_mark_13 : decode cc_Fi_mark 13 = .ok (.bipush 6, 2) := by decide +kernel
theorem dd_Fi_mark_15 : decode cc_Fi_mark 15 = .ok (.invokestatic 78, 3) := by decide +kernel
theorem dd_Fi_mark_18 : decode cc_Fi_mark 18 = .ok (.ifCond .ne 5, 3) := by decide +kernel
theorem dd_Fi_mark_21 : decode cc_Fi_mark 21 = .ok (.iconst (-1), 1) := by decide +kernel
theorem dd_Fi_mark_22 : decode cc_Fi_mark 22 = .ok (.ireturn, 1) := by decide +kernel
theorem dd_Fi_mark_23 : decode cc_Fi_mark 23 = .ok (.aload_n 0, 1) := by decide +kernel
theorem dd_Fi_mark_24 : decode cc_Fi_mark 24 = .ok (.getfield 23, 3) := by decide +kernel
theorem dd_Fi_mark_27 : decode cc_Fi_mark 27 = .ok (.iload_n 1, 1) := by decide +kernel
theorem dd_Fi_mark_28 : decode cc_Fi_mark 28 = .ok (.aaload, 1) := by decide +kernel
theorem dd_Fi_mark_29 : decode cc_Fi_mark 29 = .ok (.iload_n 2, 1) := by decide +kernel
theorem dd_Fi_mark_30 : decode cc_Fi_mark 30 = .ok (.invokevirtual 150, 3) := by decide +kernel
theorem dd_Fi_mark_33 : decode cc_Fi_mark 33 = .ok (.ifCond .ne 9, 3) := by decide +kernel
theorem dd_Fi_mark_36 : decode cc_Fi_mark 36 = .ok (.aload_n 0, 1) := by decide +kernel
theorem dd_Fi_mark_37 : decode cc_Fi_mark 37 = .ok (.iconst 3, 1) := by decide +kernel
theorem dd_Fi_mark_38 : decode cc_Fi_mark 38 = .ok (.invokevirtual 104, 3) := by decide +kernel
theorem dd_Fi_mark_41 : decode cc_Fi_mark 41 = .ok (.ireturn, 1) := by decide +kernel
theorem dd_Fi_mark_42 : decode cc_Fi_mark 42 = .ok (.aload_n 0, 1) := by decide +kernel
theorem dd_Fi_mark_43 : decode cc_Fi_mark 43 = .ok (.getfield 60, 3) := by decide +kernel
theorem dd_Fi_mark_46 : decode cc_Fi_mark 46 = .ok (.aload_n 0, 1) := by decide +kernel
theorem dd_Fi_mark_47 : decode cc_Fi_mark 47 = .ok (.getfield 23, 3) := by decide +kernel
theorem dd_Fi_mark_50 : decode cc_Fi_mark 50 = .ok (.iload_n 1, 1) := by decide +kernel
theorem dd_Fi_mark_51 : decode cc_Fi_mark 51 = .ok (.aaload, 1) := by decide +kernel
theorem dd_Fi_mark_52 : decode cc_Fi_mark 52 = .ok (.invokevirtual 133, 3) := by decide +kernel
theorem dd_Fi_mark_55 : decode cc_Fi_mark 55 = .ok (.aload_n 0, 1) := by decide +kernel
theorem dd_Fi_mark_56 : decode cc_Fi_mark 56 = .ok (.getfield 60, 3) := by decide +kernel
theorem dd_Fi_mark_59 : decode cc_Fi_mark 59 = .ok (.getstatic 153, 3) := by decide +kernel
theorem dd_Fi_mark_62 : decode cc_Fi_mark 62 = .ok (.iload_n 2, 1) := by decide +kernel
theorem dd_Fi_mark_63 : decode cc_Fi_mark 63 = .ok (.iaload, 1) := by decide +kernel
theorem dd_Fi_mark_64 : decode cc_Fi_mark 64 = .ok (.putfield 156, 3) := by decide +kernel
theorem dd_Fi_mark_67 : decode cc_Fi_mark 67 = .ok (.aload_n 0, 1) := by decide +kernel
theorem dd_Fi_mark_68 : decode cc_Fi_mark 68 = .ok (.aload_n 0, 1) := by decide +kernel
theorem dd_Fi_mark_69 : decode cc_Fi_mark 69 = .ok (.getfield 23, 3) := by decide +kernel
theorem dd_Fi_mark_72 : decode cc_Fi_mark 72 = .ok (.iload_n 1, 1) := by decide +kernel
theorem dd_Fi_mark_73 : decode cc_Fi_mark 73 = .ok (.aaload, 1) := by decide +kernel
theorem dd_Fi_mark_74 : decode cc_Fi_mark 74 = .ok (.invokevirtual 159, 3) := by decide +kernel
theorem dd_Fi_mark_77 : decode cc_Fi_mark 77 = .ok (.aload_n 0, 1) := by decide +kernel
theorem dd_Fi_mark_78 : decode cc_Fi_mark 78 = .ok (.aload_n 0, 1) := by decide +kernel
theorem dd_Fi_mark_79 : decode cc_Fi_mark 79 = .ok (.getfield 60, 3) := by decide +kernel
theorem dd_Fi_mark_82 : decode cc_Fi_mark 82 = .ok (.invokevirtual 159, 3) := by decide +kernel
theorem dd_Fi_mark_85 : decode cc_Fi_mark 85 = .ok (.isub, 1) := by decide +kernel
theorem dd_Fi_mark_86 : decode cc_Fi_mark 86 = .ok (.invokestatic 163, 3) := by decide +kernel
theorem dd_Fi_mark_89 : decode cc_Fi_mark 89 = .ok (.ireturn, 1) := by decide +kernel
set_option maxRecDepth 100000 in
set_option maxHeartbeats 4000000 in
theorem ct_Fi_mark (l : Launch) (E : gf_E) (i w : Int) (μ : gf_M) (hi : gf_R i) (hw : gf_R w) (hc7 : 0 ≤ μ 0 3 ∧ μ 0 3 ≤ 7) (hG : gf_okGs μ (μ 0 3)) (hs : 0 ≤ μ 41 1 ∧ μ 41 1 ≤ 8) (hF : gf_okF μ 42 (μ 41 1)) : gf_Mi l E yy_Fi_mark cc_Fi_mark 3 .int (gf_rm 4 90) 81 gf_ref μ [.ref (gf_ad E 0), .int (gf_i i), .int (gf_i w)] (fun q μ' => (¬ (0 ≤ i ∧ i < μ 0 3 ∧ 1 ≤ w ∧ w ≤ 5) → q = -1 ∧ μ' = μ) ∧ (0 ≤ i ∧ i < μ 0 3 ∧ 1 ≤ w ∧ w ≤ 5 → (¬ pf_is (μ (24 + i) 0) w → q = -3 ∧ μ' = gf_fd μ 3) ∧ (pf_is (μ (24 + i) 0) w → q = gf_abs (pf_reck (μ (24 + i) 0) (μ (24 + i) 1) (μ (24 + i) 2) (μ 42) (μ 41 1) - pf_reck (([-1, 0, 0, 0, 1, 2] : List Int).getD w.toNat 0) (μ (24 + i) 1) (μ (24 + i) 2) (μ 42) (μ 41 1)) ∧ gf_sc μ' μ))) := by
  refine gf_mi (by decide +kernel) (Nat.le_of_ble_eq_true rfl) (by decide) (fun X Q hlx C hQ => ?_)
  subst hlx
  replace C : gf_C X E cc_Fi_mark 3 "GuardFigures" (gf_rm 4 90) := C
  show gf_G X E Q 3 gf_φ μ 0 [(0, .ref (gf_ad E 0)), (1, .int (gf_i i)), (2, .int (gf_i w))] []
  refine gf_aload_n C dd_Fi_mark_0 0 rfl ?_
  refine gf_iload_n C dd_Fi_mark_1 1 rfl ?_
  refine gf_callVi (st := []) (As := [.int (gf_i i)]) C wk_Fi_143 gf_cl6 (show gf_is 81 0 0 6 17 by decide) (ct_Fi_isGuard (gf_xl X) E i μ (by omega)) rfl ⟨rfl, rfl, rfl, rfl⟩ (Nat.le_of_ble_eq_true rfl) rfl dd_Fi_mark_2 (fun r2 m2 hR2 hp2 => ?_)
  have hr2 := hp2.1
  refine gf_pm hp2.2 ?_
  refine gf_if_eq 21 C dd_Fi_mark_5 (by decide) (by omega) (fun h5 => ?_) (fun h5 => ?_)
  · skip
    refine gf_iconst C dd_Fi_mark_21 ?_
    refine gf_iret C hQ dd_Fi_mark_22 (by omega) ?_
    exact ⟨fun _ => ⟨rfl, rfl⟩, fun h => absurd h (by omega)⟩
  · skip
    refine gf_iload_n C dd_Fi_mark_8 2 rfl ?_
    refine gf_if_eq 21 C dd_Fi_mark_9 (by decide) (by omega) (fun h9 => ?_) (fun h9 => ?_)
    · skip
      refine gf_iconst C dd_Fi_mark_21 ?_
      refine gf_iret C hQ dd_Fi_mark_22 (by omega) ?_
      exact ⟨fun _ => ⟨rfl, rfl⟩, fun h => absurd h (by omega)⟩
    · skip
      refine gf_iload_n C dd_Fi_mark_12 2 rfl ?_
      refine gf_bipush C dd_Fi_mark_13 (by decide +kernel) ?_
      refine gf_callSi (st := []) (As := [.int (gf_i w), .int (gf_i 6)]) C wk_Fi_78 (ct_Fi_isWithin (gf_xl X) E w 6 μ (by omega) (by omega)) rfl ⟨rfl, rfl, rfl, rfl⟩ (Nat.le_of_ble_eq_true rfl) rfl dd_Fi_mark_15 (fun r15 m15 hR15 hp15 => ?_)
      have hr15 := hp15.1
      refine gf_pm hp15.2 ?_
      refine gf_if_ne 23 C dd_Fi_mark_18 (by decide) (by omega) (fun h18 => ?_) (fun h18 => ?_)
      · skip
        have hin : 0 ≤ i ∧ i < μ 0 3 := by have := hr2.1; have := hr2.2; omega
        have hin2 : 1 ≤ w ∧ w ≤ 5 := by have := hr15.1; have := hr15.2; omega
        clear hr2 hr15 hp2 hp15
        have hGi := hG i hin.1 hin.2
        have hab := pf_above (x := w) (by omega)
        have habR : 0 ≤ ([-1, 0, 0, 0, 1, 2] : List Int).getD w.toNat 0 ∧ ([-1, 0, 0, 0, 1, 2] : List Int).getD w.toNat 0 ≤ 5 := by
          rcases (show (1 ≤ w ∧ w ≤ 3) ∨ w = 4 ∨ w = 5 by omega) with h | h | h
          · have := hab.2.1 h; omega
          · have := hab.2.2.1 h; omega
          · have := hab.2.2.2 h; omega
        clear hab
        refine gf_aload_n C dd_Fi_mark_23 0 rfl ?_
        refine gf_getA (r := 23) C gf_cl6 fl_Fi_23 dd_Fi_mark_24 rfl (show gf_is 81 0 0 6 17 by decide) (by decide) (by decide) ?_
        refine gf_iload_n C dd_Fi_mark_27 1 rfl ?_
        have ha28 := gf_guard_of (r := i) (by omega)
        refine gf_aald C dd_Fi_mark_28 (show gf_is 81 23 4 4 7 by decide) (by decide) (by omega) ha28.1 (by first | omega | exact ha28.2.1.1 | exact ha28.2.1) ?_
        refine gf_iload_n C dd_Fi_mark_29 2 rfl ?_
        refine gf_callVi (st := []) (As := [.int (gf_i w)]) C wk_Fi_150 gf_cl0 ha28.2 (ct_Gd_is (gf_xl X) E (24 + i) w μ ha28.2 (hG i (by omega) (by omega)) (by omega)) rfl ⟨rfl, rfl, rfl, rfl⟩ (Nat.le_of_ble_eq_true rfl) rfl dd_Fi_mark_30 (fun r30 m30 hR30 hp30 => ?_)
        have hr30 := hp30.1
        refine gf_pm hp30.2 ?_
        refine gf_if_ne 42 C dd_Fi_mark_33 (by decide) (by omega) (fun h33 => ?_) (fun h33 => ?_)
        · skip
          refine gf_aload_n C dd_Fi_mark_42 0 rfl ?_
          refine gf_getA (r := 61) C gf_cl6 fl_Fi_60 dd_Fi_mark_43 rfl (show gf_is 81 0 0 6 17 by decide) (by decide) (by decide) ?_
          refine gf_aload_n C dd_Fi_mark_46 0 rfl ?_
          refine gf_getA (r := 23) C gf_cl6 fl_Fi_23 dd_Fi_mark_47 rfl (show gf_is 81 0 0 6 17 by decide) (by decide) (by decide) ?_
          refine gf_iload_n C dd_Fi_mark_50 1 rfl ?_
          have ha51 := gf_guard_of (r := i) (by omega)
          refine gf_aald C dd_Fi_mark_51 (show gf_is 81 23 4 4 7 by decide) (by decide) (by omega) ha51.1 (by first | omega | exact ha51.2.1.1 | exact ha51.2.1) ?_
          refine gf_callVv (st := []) (As := [.ref (gf_ad E (24 + i))]) C wk_Fi_133 gf_cl0 (show gf_is 81 61 0 0 3 by decide) (ct_Gd_resemble (gf_xl X) E 61 (24 + i) μ (show gf_is 81 61 0 0 3 by decide) ha51.2) rfl ⟨rfl, rfl, rfl, rfl⟩ (Nat.le_of_ble_eq_true rfl) rfl dd_Fi_mark_52 (fun m52 hp52 => ?_)
          have f52 : ∀ x y : Int, x ≠ 61 → m52 x y = μ x y := fun x y h => by rw [hp52, gf_up_k h, gf_up_k h, gf_up_k h]
          have f521 : m52 61 1 = μ (24 + i) 1 := by rw [hp52, gf_up_j (by decide)]; exact gf_up_s
          have f522 : m52 61 2 = μ (24 + i) 2 := by rw [hp52]; exact gf_up_s
          refine gf_aload_n C dd_Fi_mark_55 0 rfl ?_
          refine gf_getA (r := 61) C gf_cl6 fl_Fi_60 dd_Fi_mark_56 rfl (show gf_is 81 0 0 6 17 by decide) (by decide) (by decide) ?_
          refine gf_getsF C (gf_mem 464 (by decide +kernel) (by decide +kernel)) dd_Fi_mark_59 ?_
          refine gf_iload_n C dd_Fi_mark_62 2 rfl ?_
          refine gf_tldA C dd_Fi_mark_63 (by omega) ?_
          refine gf_putI (z := 0) C gf_cl0 fl_Fi_156 dd_Fi_mark_64 rfl rfl rfl (by decide +kernel) (show gf_is 81 61 0 0 3 by decide) (by omega) ?_
          refine gf_nmM (fun m64 hm64 => ?_)
          have f64 : ∀ x y : Int, x ≠ 61 → m64 x y = μ x y := fun x y h => by rw [hm64, gf_up_k h]; exact f52 x y h
          have f640 : m64 61 0 = ([-1, 0, 0, 0, 1, 2] : List Int).getD w.toNat 0 := by rw [hm64]; exact gf_up_s
          have f641 : m64 61 1 = μ (24 + i) 1 := by rw [hm64, gf_up_j (by decide)]; exact f521
          have f642 : m64 61 2 = μ (24 + i) 2 := by rw [hm64, gf_up_j (by decide)]; exact f522
          have g41 : m64 41 1 = μ 41 1 := f64 41 1 (by decide)
          have g42 : m64 42 = μ 42 := funext fun y => f64 42 y (by decide)
          have hG64 : gf_okG m64 (24 + i) := by unfold gf_okG; rw [f64 _ 0 (by omega), f64 _ 1 (by omega), f64 _ 2 (by omega)]; exact hGi
          have hG61 : gf_okG m64 61 := by unfold gf_okG; rw [f640, f641, f642]; exact ⟨by omega, hGi.2.1, hGi.2.2⟩
          have hs64 : 0 ≤ m64 41 1 ∧ m64 41 1 ≤ 8 := by rw [g41]; exact hs
          have hF64 : gf_okF m64 42 (m64 41 1) := by rw [g41]; intro j h0 h1; rw [g42]; exact hF j h0 h1
          refine gf_aload_n C dd_Fi_mark_67 0 rfl ?_
          refine gf_aload_n C dd_Fi_mark_68 0 rfl ?_
          refine gf_getA (r := 23) C gf_cl6 fl_Fi_23 dd_Fi_mark_69 rfl (show gf_is 81 0 0 6 17 by decide) (by decide) (by decide) ?_
          refine gf_iload_n C dd_Fi_mark_72 1 rfl ?_
          have ha73 := gf_guard_of (r := i) (by omega)
          refine gf_aald C dd_Fi_mark_73 (show gf_is 81 23 4 4 7 by decide) (by decide) (by omega) ha73.1 (by first | omega | exact ha73.2.1.1 | exact ha73.2.1) ?_
          refine gf_callVi (st := []) (As := [.ref (gf_ad E (24 + i))]) C wk_Fi_159 gf_cl6 (show gf_is 81 0 0 6 17 by decide) (ct_Fi_reckoned (gf_xl X) E (24 + i) m64 ha73.2 hG64 hs64 hF64) rfl ⟨rfl, rfl, rfl, rfl⟩ (Nat.le_of_ble_eq_true rfl) rfl dd_Fi_mark_74 (fun r74 m74 hR74 hp74 => ?_)
          have hr74 := hp74.1
          refine gf_pm hp74.2 ?_
          refine gf_aload_n C dd_Fi_mark_77 0 rfl ?_
          refine gf_aload_n C dd_Fi_mark_78 0 rfl ?_
          refine gf_getA (r := 61) C gf_cl6 fl_Fi_60 dd_Fi_mark_79 rfl (show gf_is 81 0 0 6 17 by decide) (by decide) (by decide) ?_
          refine gf_callVi (st := [.int (gf_i r74)]) (As := [.ref (gf_ad E 61)]) C wk_Fi_159 gf_cl6 (show gf_is 81 0 0 6 17 by decide) (ct_Fi_reckoned (gf_xl X) E 61 m64 (show gf_is 81 61 0 0 3 by decide) hG61 hs64 hF64) rfl ⟨rfl, rfl, rfl, rfl⟩ (Nat.le_of_ble_eq_true rfl) rfl dd_Fi_mark_82 (fun r82 m82 hR82 hp82 => ?_)
          have hr82 := hp82.1
          refine gf_pm hp82.2 ?_
          refine gf_isub C dd_Fi_mark_85 ?_
          refine gf_mabs C (gf_mem 465 (by decide +kernel) (by decide +kernel)) dd_Fi_mark_86 (by omega) ⟨by decide, Nat.le_of_ble_eq_true rfl, rfl, rfl⟩ ?_
          refine gf_iret C hQ dd_Fi_mark_89 (by unfold gf_abs; split <;> omega) ?_
          refine ⟨fun h => absurd h (by omega), fun _ => ⟨fun h => ?_, fun _ => ⟨?_, fun a b h => f64 a b (by omega)⟩⟩⟩
          · have := hr30.2 h
            omega
          · rw [hr74.1, hr82.1, f640, f641, f642, g41, g42, f64 (24 + i) 0 (by omega), f64 (24 + i) 1 (by omega), f64 (24 + i) 2 (by omega)]
        · skip
          refine gf_aload_n C dd_Fi_mark_36 0 rfl ?_
          refine gf_iconst C dd_Fi_mark_37 ?_
          refine gf_callVi (st := []) (As := [.int (gf_i 3)]) C wk_Fi_104 gf_cl6 (show gf_is 81 0 0 6 17 by decide) (ct_Fi_found (gf_xl X) E 3 μ (by omega)) rfl ⟨rfl, rfl, rfl, rfl⟩ (Nat.le_of_ble_eq_true rfl) rfl dd_Fi_mark_38 (fun r38 m38 hR38 hp38 => ?_)
          refine gf_iret C hQ dd_Fi_mark_41 (by omega) ?_
          refine ⟨fun h => absurd h (by omega), fun _ => ⟨fun _ => hp38, fun h => ?_⟩⟩
          have := hr30.1 h
          omega
      · skip
        refine gf_iconst C dd_Fi_mark_21 ?_
        refine gf_iret C hQ dd_Fi_mark_22 (by omega) ?_
        exact ⟨fun _ => ⟨rfl, rfl⟩, fun h => absurd h (by omega)⟩

theorem dd_Fi_next_0 : decode cc_Fi_next 0 = .ok (.aload_n 0, 1) := by decide +kernel
theorem dd_Fi_next_1 : decode cc_Fi_next 1 = .ok (.iload_n 1, 1) := by decide +kernel
theorem dd_Fi_next_2 : decode cc_Fi_next 2 = .ok (.invokevirtual 143, 3) := by decide +kernel
theorem dd_Fi_next_5 : decode cc_Fi_next 5 = .ok (.ifCond .eq 10, 3) := by decide +kernel
theorem dd_Fi_next_8 : decode cc_Fi_next 8 = .ok (.iload_n 2, 1) := by decide +kernel
theorem dd_Fi_next_9 : decode cc_Fi_next 9 = .ok (.invokestatic 219, 3) := by decide +kernel
theorem dd_Fi_next_12 : decode cc_Fi_next 12 = .ok (.ifCond .ne 5, 3) := by decide +kernel
theorem dd_Fi_next_15 : decode cc_Fi_next 15 = .ok (.iconst (-1), 1) := by decide +kernel
theorem dd_Fi_next_16 : decode cc_Fi_next 16 = .ok (.ireturn, 1) := by decide +kernel
theorem dd_Fi_next_17 : decode cc_Fi_next 17 = .ok (.aload_n 0, 1) := by decide +kernel
theorem dd_Fi_next_18 : decode cc_Fi_next 18 = .ok (.getfield 35, 3) := by decide +kernel
theorem dd_Fi_next_21 : decode cc_Fi_next 21 = .ok (.getfield 168, 3) := by decide +kernel
theorem dd_Fi_next_24 : decode cc_Fi_next 24 = .ok (.bipush 8, 2) := by decide +kernel
theorem dd_Fi_next_26 : decode cc_Fi_next 26 = .ok (.if_icmp .lt 6, 3) := by decide +kernel
theorem dd_Fi_next_29 : decode cc_Fi_next 29 = .ok (.bipush (-4), 2) := by decide +kernel
theorem dd_Fi_next_31 : decode cc_Fi_next 31 = .ok (.ireturn, 1) := by decide +kernel
theorem dd_Fi_next_32 : decode cc_Fi_next 32 = .ok (.iconst 0, 1) := by decide +kernel
theorem dd_Fi_next_33 : decode cc_Fi_next 33 = .ok (.istore_n 3, 1) := by decide +kernel
theorem dd_Fi_next_34 : decode cc_Fi_next 34 = .ok (.iconst 0, 1) := by decide +kernel
theorem dd_Fi_next_35 : decode cc_Fi_next 35 = .ok (.istore 4, 2) := by decide +kernel
theorem dd_Fi_next_37 : decode cc_Fi_next 37 = .ok (.iload 4, 2) := by decide +kernel
theorem dd_Fi_next_39 : decode cc_Fi_next 39 = .ok (.bipush 10, 2) := by decide +kernel
theorem dd_Fi_next_41 : decode cc_Fi_next 41 = .ok (.if_icmp .ge 32, 3) := by decide +kernel
theorem dd_Fi_next_44 : decode cc_Fi_next 44 = .ok (.aload_n 0, 1) := by decide +kernel
theorem dd_Fi_next_45 : decode cc_Fi_next 45 = .ok (.aload_n 0, 1) := by decide +kernel
theorem dd_Fi_next_46 : decode cc_Fi_next 46 = .ok (.getfield 23, 3) := by decide +kernel
theorem dd_Fi_next_49 : decode cc_Fi_next 49 = .ok (.iload_n 1, 1) := by decide +kernel
theorem dd_Fi_next_50 : decode cc_Fi_next 50 = .ok (.aaload, 1) := by decide +kernel
theorem dd_Fi_next_51 : decode cc_Fi_next 51 = .ok (.iload 4, 2) := by decide +kernel
theorem dd_Fi_next_53 : decode cc_Fi_next 53 = .ok (.invokevirtual 222, 3) := by decide +kernel
theorem dd_Fi_next_56 : decode cc_Fi_next 56 = .ok (.iload_n 2, 1) := by decide +kernel
theorem dd_Fi_next_57 : decode cc_Fi_next 57 = .ok (.if_icmp .ne 10, 3) := by decide +kernel
theorem dd_Fi_next_60 : decode cc_Fi_next 60 = .ok (.iload_n 3, 1) := by decide +kernel
theorem dd_Fi_next_61 : decode cc_Fi_next 61 = .ok (.iconst 1, 1) := by decide +kernel
theorem dd_Fi_next_62 : decode cc_Fi_next 62 = .ok (.iload 4, 2) := by decide +kernel
theorem dd_Fi_next_64 : decode cc_Fi_next 64 = .ok (.ishl, 1) := by decide +kernel
theorem dd_Fi_next_65 : decode cc_Fi_next 65 = .ok (.ior, 1) := by decide +kernel
theorem dd_Fi_next_66 : decode cc_Fi_next 66 = .ok (.istore_n 3, 1) := by decide +kernel
theorem dd_Fi_next_67 : decode cc_Fi_next 67 = .ok (.iinc 4 1, 3) := by decide +kernel
theorem dd_Fi_next_70 : decode cc_Fi_next 70 = .ok (.goto (-33), 3) := by decide +kernel
theorem dd_Fi_next_73 : decode cc_Fi_next 73 = .ok (.iload_n 3, 1) := by decide +kernel
theorem dd_Fi_next_74 : decode cc_Fi_next 74 = .ok (.ireturn, 1) := by decide +kernel
set_option maxRecDepth 100000 in
set_option maxHeartbeats 4000000 in
theorem ct_Fi_next (l : Launch) (E : gf_E) (i c : Int) (μ : gf_M) (hi : gf_R i) (hcR : gf_R c) (hc7 : 0 ≤ μ 0 3 ∧ μ 0 3 ≤ 7) (hG : gf_okGs μ (μ 0 3)) (hs : 0 ≤ μ 41 1 ∧ μ 41 1 ≤ 8) (hF : gf_okF μ 42 (μ 41 1)) : gf_Mi l E yy_Fi_next cc_Fi_next 5 .int (gf_rm 4 92) 81 gf_ref μ [.ref (gf_ad E 0), .int (gf_i i), .int (gf_i c)] (fun q μ' => (¬ (0 ≤ i ∧ i < μ 0 3 ∧ 0 ≤ c ∧ c ≤ 10) → q = -1 ∧ μ' = μ) ∧ (0 ≤ i ∧ i < μ 0 3 ∧ 0 ≤ c ∧ c ≤ 10 → (μ 41 1 = 8 → q = -4 ∧ μ' = μ) ∧ (μ 41 1 < 8 → q = pf_set (fun f => decide (pf_reck (μ (24 + i) 0) (μ (24 + i) 1) (μ (24 + i) 2) (pf_apd (μ 42) (μ 41 1) f) (μ 41 1 + 1) = c)) 10 ∧ gf_sc μ' μ))) := by
  refine gf_mi (by decide +kernel) (Nat.le_of_ble_eq_true rfl) (by decide) (fun X Q hlx C hQ => ?_)
  subst hlx
  replace C : gf_C X E cc_Fi_next 5 "GuardFigures" (gf_rm 4 92) := C
  show gf_G X E Q 5 gf_φ μ 0 [(0, .ref (gf_ad E 0)), (1, .int (gf_i i)), (2, .int (gf_i c))] []
  refine gf_aload_n C dd_Fi_next_0 0 rfl ?_
  refine gf_iload_n C dd_Fi_next_1 1 rfl ?_
  refine gf_callVi (st := []) (As := [.int (gf_i i)]) C wk_Fi_143 gf_cl6 (show gf_is 81 0 0 6 17 by decide) (ct_Fi_isGuard (gf_xl X) E i μ (by omega)) rfl ⟨rfl, rfl, rfl, rfl⟩ (Nat.le_of_ble_eq_true rfl) rfl dd_Fi_next_2 (fun r2 m2 hR2 hp2 => ?_)
  have hr2 := hp2.1
  refine gf_pm hp2.2 ?_
  refine gf_if_eq 15 C dd_Fi_next_5 (by decide) (by omega) (fun h5 => ?_) (fun h5 => ?_)
  · skip
    refine gf_iconst C dd_Fi_next_15 ?_
    refine gf_iret C hQ dd_Fi_next_16 (by omega) ?_
    exact ⟨fun _ => ⟨rfl, rfl⟩, fun h => absurd h (by omega)⟩
  · skip
    refine gf_iload_n C dd_Fi_next_8 2 rfl ?_
    refine gf_callSi (st := []) (As := [.int (gf_i c)]) C wk_Fi_219 (ct_Fi_isCheck (gf_xl X) E c μ (by omega)) rfl ⟨rfl, rfl, rfl, rfl⟩ (Nat.le_of_ble_eq_true rfl) rfl dd_Fi_next_9 (fun r9 m9 hR9 hp9 => ?_)
    have hr9 := hp9.1
    refine gf_pm hp9.2 ?_
    refine gf_if_ne 17 C dd_Fi_next_12 (by decide) (by omega) (fun h12 => ?_) (fun h12 => ?_)
    · skip
      have hin : 0 ≤ i ∧ i < μ 0 3 := by have := hr2.1; have := hr2.2; omega
      have hin2 : 0 ≤ c ∧ c ≤ 10 := by have := hr9.1; have := hr9.2; omega
      clear hr2 hr9 hp2 hp9
      have hGi := hG i hin.1 hin.2
      refine gf_aload_n C dd_Fi_next_17 0 rfl ?_
      refine gf_getA (r := 41) C gf_cl6 fl_Fi_35 dd_Fi_next_18 rfl (show gf_is 81 0 0 6 17 by decide) (by decide) (by decide) ?_
      refine gf_getI (z := 1) C gf_cl5 fl_Fi_168 dd_Fi_next_21 rfl rfl (show gf_is 81 41 0 5 5 by decide) (fun hv21 => ?_)
      refine gf_bipush C dd_Fi_next_24 (by decide +kernel) ?_
      refine gf_icmp_lt 32 C dd_Fi_next_26 (by decide) (by omega) (by omega) (fun h26 => ?_) (fun h26 => ?_)
      · skip
        refine gf_iconst C dd_Fi_next_32 ?_
        refine gf_istore_n (lv' := [(3, .int (gf_i 0)), (0, .ref (gf_ad E 0)), (1, .int (gf_i i)), (2, .int (gf_i c))]) C dd_Fi_next_33 (by decide) rfl ?_
        refine gf_iconst C dd_Fi_next_34 ?_
        refine gf_istore (lv' := [(4, .int (gf_i 0)), (3, .int (gf_i 0)), (0, .ref (gf_ad E 0)), (1, .int (gf_i i)), (2, .int (gf_i c))]) C dd_Fi_next_35 (by decide) rfl ?_
        have L37_1 : ∀ (N : Nat) (s f : Int) (m : gf_M) , (0 ≤ f ∧ f ≤ 10 ∧ s = pf_set (fun f => decide (pf_reck (μ (24 + i) 0) (μ (24 + i) 1) (μ (24 + i) 2) (pf_apd (μ 42) (μ 41 1) f) (μ 41 1 + 1) = c)) f.toNat ∧ ∀ x y : Int, x ≠ 62 → m x y = μ x y) → (10 - f).toNat < N → gf_G X E Q 5 gf_φ m 37 [(3, .int (gf_i s)), (4, .int (gf_i f)), (0, .ref (gf_ad E 0)), (1, .int (gf_i i)), (2, .int (gf_i c))] [] := by
          intro N
          induction N with
          | zero => intro s f m hinv hN; exact absurd hN (Nat.not_lt_zero _)
          | succ N ih37_1 =>
            intro s f m hinv hN
            have hinv0 := hinv
            obtain ⟨hf0, hf1, hs3, hfr⟩ := hinv
            have hsR := pf_set_R (fun f => decide (pf_reck (μ (24 + i) 0) (μ (24 + i) 1) (μ (24 + i) 2) (pf_apd (μ 42) (μ 41 1) f) (μ 41 1 + 1) = c)) f.toNat
            rw [← hs3] at hsR
            have h210 := pf_2_10 (n := f.toNat) (by omega)
            have e41 : m 41 1 = μ 41 1 := hfr 41 1 (by decide)
            have e42 : m 42 = μ 42 := funext fun y => hfr 42 y (by decide)
            have hGm : gf_okG m (24 + i) := by unfold gf_okG; rw [hfr _ 0 (by omega), hfr _ 1 (by omega), hfr _ 2 (by omega)]; exact hGi
            refine gf_iload C dd_Fi_next_37 1 rfl ?_
            refine gf_bipush C dd_Fi_next_39 (by decide +kernel) ?_
            refine gf_icmp_ge 73 C dd_Fi_next_41 (by decide) (by omega) (by omega) (fun h41 => ?_) (fun h41 => ?_)
            · skip
              refine gf_iload_n C dd_Fi_next_73 0 rfl ?_
              refine gf_iret C hQ dd_Fi_next_74 (by omega) ?_
              have e10 : f.toNat = 10 := by omega
              rw [e10] at hs3
              exact ⟨fun h => absurd h (by omega), fun _ => ⟨fun h => absurd h (by omega), fun _ => ⟨hs3, fun a b h => hfr a b (by omega)⟩⟩⟩
            · skip
              refine gf_aload_n C dd_Fi_next_44 2 rfl ?_
              refine gf_aload_n C dd_Fi_next_45 2 rfl ?_
              refine gf_getA (r := 23) C gf_cl6 fl_Fi_23 dd_Fi_next_46 rfl (show gf_is 81 0 0 6 17 by decide) (by decide) (by decide) ?_
              refine gf_iload_n C dd_Fi_next_49 3 rfl ?_
              have ha50 := gf_guard_of (r := i) (by omega)
              refine gf_aald C dd_Fi_next_50 (show gf_is 81 23 4 4 7 by decide) (by decide) (by omega) ha50.1 (by first | omega | exact ha50.2.1.1 | exact ha50.2.1) ?_
              refine gf_iload C dd_Fi_next_51 1 rfl ?_
              refine gf_callVi (st := []) (As := [.ref (gf_ad E (24 + i)), .int (gf_i f)]) C wk_Fi_222 gf_cl6 (show gf_is 81 0 0 6 17 by decide) (ct_Fi_reckonedWith (gf_xl X) E (24 + i) f m ha50.2 (by omega) hGm (by omega) (by rw [e41]; omega) (by rw [e41]; intro j h0 h1; rw [e42]; exact hF j h0 h1)) rfl ⟨rfl, rfl, rfl, rfl⟩ (Nat.le_of_ble_eq_true rfl) rfl dd_Fi_next_53 (fun r53 m53 hR53 hp53 => ?_)
              refine gf_iload_n C dd_Fi_next_56 4 rfl ?_
              refine gf_icmp_ne 67 C dd_Fi_next_57 (by decide) (by have := hp53.1; omega) (by omega) (fun h57 => ?_) (fun h57 => ?_)
              · skip
                skip
                obtain ⟨x67, hx67⟩ : ∃ y : Int, y = f + 1 := ⟨_, rfl⟩
                refine gf_iinc (q := 1) (v := x67) (lv' := [(4, .int (gf_i x67)), (3, .int (gf_i s)), (0, .ref (gf_ad E 0)), (1, .int (gf_i i)), (2, .int (gf_i c))]) C dd_Fi_next_67 rfl hx67 (by decide) rfl ?_
                refine gf_goto 37 C dd_Fi_next_70 (by decide) ?_
                refine gf_lsub [1, 0, 2, 3, 4] rfl ?_
                exact ih37_1 s x67 m53 (by
                        have e1 : (f + 1).toNat = f.toNat + 1 := by omega
                        obtain ⟨hra, hrb⟩ := hp53
                        have hre := hra.1
                        rw [hfr (24 + i) 0 (by omega), hfr (24 + i) 1 (by omega), hfr (24 + i) 2 (by omega), e41, e42] at hre
                        refine ⟨by omega, by omega, ?_, fun x y h => by rw [hrb x y h]; exact hfr x y h⟩
                        rw [hx67, e1]
                        show _ = if decide (pf_reck _ _ _ (pf_apd _ _ ((f.toNat : Nat) : Int)) _ = c) = true then gf_or (pf_set _ f.toNat) (gf_shl 1 ((f.toNat : Nat) : Int)) else pf_set _ f.toNat
                        rw [show ((f.toNat : Nat) : Int) = f by omega, ← hs3, ← hre]
                        by_cases e : r53 = c
                        · rw [if_pos (by simpa using e)]
                          first | omega | exact hx66
                        · rw [if_neg (by simpa using e)] <;> first | omega | rfl) (by omega)
              · skip
                refine gf_iload_n C dd_Fi_next_60 0 rfl ?_
                refine gf_iconst C dd_Fi_next_61 ?_
                refine gf_iload C dd_Fi_next_62 1 rfl ?_
                refine gf_ishl C dd_Fi_next_64 (by omega) ?_
                refine gf_ior C dd_Fi_next_65 (by have := gf_shl1 (i := f) (by omega); omega) ?_
                refine gf_nm (fun x66 hx66 => ?_)
                refine gf_istore_n (lv' := [(3, .int (gf_i x66)), (4, .int (gf_i f)), (0, .ref (gf_ad E 0)), (1, .int (gf_i i)), (2, .int (gf_i c))]) C dd_Fi_next_66 (by decide) rfl ?_
                skip
                obtain ⟨x67, hx67⟩ : ∃ y : Int, y = f + 1 := ⟨_, rfl⟩
                refine gf_iinc (q := 1) (v := x67) (lv' := [(4, .int (gf_i x67)), (3, .int (gf_i x66)), (0, .ref (gf_ad E 0)), (1, .int (gf_i i)), (2, .int (gf_i c))]) C dd_Fi_next_67 rfl hx67 (by decide) rfl ?_
                refine gf_goto 37 C dd_Fi_next_70 (by decide) ?_
                refine gf_lsub [1, 0, 2, 3, 4] rfl ?_
                exact ih37_1 x66 x67 m53 (by
                        have e1 : (f + 1).toNat = f.toNat + 1 := by omega
                        obtain ⟨hra, hrb⟩ := hp53
                        have hre := hra.1
                        rw [hfr (24 + i) 0 (by omega), hfr (24 + i) 1 (by omega), hfr (24 + i) 2 (by omega), e41, e42] at hre
                        refine ⟨by omega, by omega, ?_, fun x y h => by rw [hrb x y h]; exact hfr x y h⟩
                        rw [hx67, e1]
                        show _ = if decide (pf_reck _ _ _ (pf_apd _ _ ((f.toNat : Nat) : Int)) _ = c) = true then gf_or (pf_set _ f.toNat) (gf_shl 1 ((f.toNat : Nat) : Int)) else pf_set _ f.toNat
                        rw [show ((f.toNat : Nat) : Int) = f by omega, ← hs3, ← hre]
                        by_cases e : r53 = c
                        · rw [if_pos (by simpa using e)]
                          first | omega | exact hx66
                        · rw [if_neg (by simpa using e)] <;> first | omega | rfl) (by omega)
        refine gf_lsub [1, 0, 2, 3, 4] rfl ?_
        exact L37_1 _ 0 0 μ (⟨by omega, by omega, rfl, fun x y _ => rfl⟩) (Nat.lt_succ_self _)
      · skip
        refine gf_bipush C dd_Fi_next_29 (by decide +kernel) ?_
        refine gf_iret C hQ dd_Fi_next_31 (by omega) ?_
        exact ⟨fun h => absurd h (by omega), fun _ => ⟨fun _ => ⟨rfl, rfl⟩, fun h => absurd h (by omega)⟩⟩
    · skip
      refine gf_iconst C dd_Fi_next_15 ?_
      refine gf_iret C hQ dd_Fi_next_16 (by omega) ?_
      exact ⟨fun _ => ⟨rfl, rfl⟩, fun h => absurd h (by omega)⟩

theorem dd_Fi_near_0 : decode cc_Fi_near 0 = .ok (.aload_n 0, 1) := by decide +kernel
theorem dd_Fi_near_1 : decode cc_Fi_near 1 = .ok (.iload_n 1, 1) := by decide +kernel
theorem dd_Fi_near_2 : decode cc_Fi_near 2 = .ok (.invokevirtual 143, 3) := by decide +kernel
theorem dd_Fi_near_5 : decode cc_Fi_near 5 = .ok (.ifCond .eq 10, 3) := by decide +kernel
theorem dd_Fi_near_8 : decode cc_Fi_near 8 = .ok (.iload_n 2, 1) := by decide +kernel
theorem dd_Fi_near_9 : decode cc_Fi_near 9 = .ok (.invokestatic 219, 3) := by decide +kernel
theorem dd_Fi_near_12 : decode cc_Fi_near 12 = .ok (.ifCond .ne 5, 3) := by decide +kernel
theorem dd_Fi_near_15 : decode cc_Fi_near 15 = .ok (.iconst (-1), 1) := by decide +kernel
theorem dd_Fi_near_16 : decode cc_Fi_near 16 = .ok (.ireturn, 1) := by decide +kernel
theorem dd_Fi_near_17 : decode cc_Fi_near 17 = .ok (.aload_n 0, 1) := by decide +kernel
theorem dd_Fi_near_18 : decode cc_Fi_near 18 = .ok (.getfield 56, 3) := by decide +kernel
theorem dd_Fi_near_21 : decode cc_Fi_near 21 = .ok (.aload_n 0, 1) := by decide +kernel
theorem dd_Fi_near_22 : decode cc_Fi_near 22 = .ok (.getfield 23, 3) := by decide +kernel
theorem dd_Fi_near_25 : decode cc_Fi_near 25 = .ok (.iload_n 1, 1) := by decide +kernel
theorem dd_Fi_near_26 : decode cc_Fi_near 26 = .ok (.aaload, 1) := by decide +kernel
theorem dd_Fi_near_27 : decode cc_Fi_near 27 = .ok (.aload_n 0, 1) := by decide +kernel
theorem dd_Fi_near_28 : decode cc_Fi_near 28 = .ok (.getfield 35, 3) := by decide +kernel
theorem dd_Fi_near_31 : decode cc_Fi_near 31 = .ok (.iload_n 2, 1) := by decide +kernel
theorem dd_Fi_near_32 : decode cc_Fi_near 32 = .ok (.invokevirtual 226, 3) := by decide +kernel
theorem dd_Fi_near_35 : decode cc_Fi_near 35 = .ok (.istore_n 3, 1) := by decide +kernel
theorem dd_Fi_near_36 : decode cc_Fi_near 36 = .ok (.iload_n 3, 1) := by decide +kernel
theorem dd_Fi_near_37 : decode cc_Fi_near 37 = .ok (.iconst 2, 1) := by decide +kernel
theorem dd_Fi_near_38 : decode cc_Fi_near 38 = .ok (.if_icmp .le 6, 3) := by decide +kernel
theorem dd_Fi_near_41 : decode cc_Fi_near 41 = .ok (.bipush (-9), 2) := by decide +kernel
theorem dd_Fi_near_43 : decode cc_Fi_near 43 = .ok (.ireturn, 1) := by decide +kernel
theorem dd_Fi_near_44 : decode cc_Fi_near 44 = .ok (.aload_n 0, 1) := by decide +kernel
theorem dd_Fi_near_45 : decode cc_Fi_near 45 = .ok (.aload_n 0, 1) := by decide +kernel
theorem dd_Fi_near_46 : decode cc_Fi_near 46 = .ok (.getfield 56, 3) := by decide +kernel
theorem dd_Fi_near_49 : decode cc_Fi_near 49 = .ok (.getfield 230, 3) := by decide +kernel
theorem dd_Fi_near_52 : decode cc_Fi_near 52 = .ok (.putfield 205, 3) := by decide +kernel
theorem dd_Fi_near_55 : decode cc_Fi_near 55 = .ok (.iload_n 3, 1) := by decide +kernel
theorem dd_Fi_near_56 : decode cc_Fi_near 56 = .ok (.ireturn, 1) := by decide +kernel
set_option maxRecDepth 100000 in
set_option maxHeartbeats 4000000 in
theorem ct_Fi_near (l : Launch) (E : gf_E) (i c : Int) (μ : gf_M) (hi : gf_R i) (hcR : gf_R c) (hc7 : 0 ≤ μ 0 3 ∧ μ 0 3 ≤ 7) (hG : gf_okGs μ (μ 0 3)) (hs : 0 ≤ μ 41 1 ∧ μ 41 1 ≤ 8) (hF : gf_okF μ 42 (μ 41 1)) : gf_Mi l E yy_Fi_near cc_Fi_near 4 .int (gf_rm 4 101) 81 gf_ref μ [.ref (gf_ad E 0), .int (gf_i i), .int (gf_i c)] (fun q μ' => (¬ (0 ≤ i ∧ i < μ 0 3 ∧ 0 ≤ c ∧ c ≤ 10) → q = -1 ∧ μ' = μ) ∧ (0 ≤ i ∧ i < μ 0 3 ∧ 0 ≤ c ∧ c ≤ 10 → (2 < pf_VN (μ (24 + i) 0) (μ (24 + i) 1) (μ (24 + i) 2) (μ 41 1) c (μ 42) (μ 41 1).toNat 0 → q = -9 ∧ gf_sc μ' μ) ∧ (pf_VN (μ (24 + i) 0) (μ (24 + i) 1) (μ (24 + i) 2) (μ 41 1) c (μ 42) (μ 41 1).toNat 0 ≤ 2 → q = pf_VN (μ (24 + i) 0) (μ (24 + i) 1) (μ (24 + i) 2) (μ 41 1) c (μ 42) (μ 41 1).toNat 0 ∧ gf_sc μ' (gf_tl μ (pf_run (μ (24 + i) 0) (μ (24 + i) 1) (μ (24 + i) 2) (μ 41 1) (pf_pkN (μ (24 + i) 0) (μ (24 + i) 1) (μ (24 + i) 2) (μ 41 1) c (μ 42)) (μ 41 1).toNat).2)))) := by
  refine gf_mi (by decide +kernel) (Nat.le_of_ble_eq_true rfl) (by decide) (fun X Q hlx C hQ => ?_)
  subst hlx
  replace C : gf_C X E cc_Fi_near 4 "GuardFigures" (gf_rm 4 101) := C
  show gf_G X E Q 4 gf_φ μ 0 [(0, .ref (gf_ad E 0)), (1, .int (gf_i i)), (2, .int (gf_i c))] []
  refine gf_aload_n C dd_Fi_near_0 0 rfl ?_
  refine gf_iload_n C dd_Fi_near_1 1 rfl ?_
  refine gf_callVi (st := []) (As := [.int (gf_i i)]) C wk_Fi_143 gf_cl6 (show gf_is 81 0 0 6 17 by decide) (ct_Fi_isGuard (gf_xl X) E i μ (by omega)) rfl ⟨rfl, rfl, rfl, rfl⟩ (Nat.le_of_ble_eq_true rfl) rfl dd_Fi_near_2 (fun r2 m2 hR2 hp2 => ?_)
  have hr2 := hp2.1
  refine gf_pm hp2.2 ?_
  refine gf_if_eq 15 C dd_Fi_near_5 (by decide) (by omega) (fun h5 => ?_) (fun h5 => ?_)
  · skip
    refine gf_iconst C dd_Fi_near_15 ?_
    refine gf_iret C hQ dd_Fi_near_16 (by omega) ?_
    exact ⟨fun _ => ⟨rfl, rfl⟩, fun h => absurd h (by omega)⟩
  · skip
    refine gf_iload_n C dd_Fi_near_8 2 rfl ?_
    refine gf_callSi (st := []) (As := [.int (gf_i c)]) C wk_Fi_219 (ct_Fi_isCheck (gf_xl X) E c μ (by omega)) rfl ⟨rfl, rfl, rfl, rfl⟩ (Nat.le_of_ble_eq_true rfl) rfl dd_Fi_near_9 (fun r9 m9 hR9 hp9 => ?_)
    have hr9 := hp9.1
    refine gf_pm hp9.2 ?_
    refine gf_if_ne 17 C dd_Fi_near_12 (by decide) (by omega) (fun h12 => ?_) (fun h12 => ?_)
    · skip
      have hin : 0 ≤ i ∧ i < μ 0 3 := by have := hr2.1; have := hr2.2; omega
      have hin2 : 0 ≤ c ∧ c ≤ 10 := by have := hr9.1; have := hr9.2; omega
      clear hr2 hr9 hp2 hp9
      have hGi := hG i hin.1 hin.2
      refine gf_aload_n C dd_Fi_near_17 0 rfl ?_
      refine gf_getA (r := 59) C gf_cl6 fl_Fi_56 dd_Fi_near_18 rfl (show gf_is 81 0 0 6 17 by decide) (by decide) (by decide) ?_
      refine gf_aload_n C dd_Fi_near_21 0 rfl ?_
      refine gf_getA (r := 23) C gf_cl6 fl_Fi_23 dd_Fi_near_22 rfl (show gf_is 81 0 0 6 17 by decide) (by decide) (by decide) ?_
      refine gf_iload_n C dd_Fi_near_25 1 rfl ?_
      have ha26 := gf_guard_of (r := i) (by omega)
      refine gf_aald C dd_Fi_near_26 (show gf_is 81 23 4 4 7 by decide) (by decide) (by omega) ha26.1 (by first | omega | exact ha26.2.1.1 | exact ha26.2.1) ?_
      refine gf_aload_n C dd_Fi_near_27 0 rfl ?_
      refine gf_getA (r := 41) C gf_cl6 fl_Fi_35 dd_Fi_near_28 rfl (show gf_is 81 0 0 6 17 by decide) (by decide) (by decide) ?_
      refine gf_iload_n C dd_Fi_near_31 2 rfl ?_
      refine gf_callVi (st := []) (As := [.ref (gf_ad E (24 + i)), .ref (gf_ad E 41), .int (gf_i c)]) C wk_Fi_226 gf_cl1 (show gf_is 81 59 0 1 2 by decide) (ct_Ou_fewestOthers (gf_xl X) E (24 + i) μ ha26.2 (by omega) hGi c hcR hs hF) rfl ⟨rfl, rfl, rfl, rfl⟩ (Nat.le_of_ble_eq_true rfl) rfl dd_Fi_near_32 (fun r32 m32 hR32 hp32 => ?_)
      obtain ⟨hra, hrb, hrc⟩ := hp32
      have hre := hra.1
      have hsc : gf_sc m32 μ := fun a b h => hrc a b (by omega) (by omega)
      refine gf_istore_n (lv' := [(3, .int (gf_i r32)), (0, .ref (gf_ad E 0)), (1, .int (gf_i i)), (2, .int (gf_i c))]) C dd_Fi_near_35 (by decide) rfl ?_
      refine gf_iload_n C dd_Fi_near_36 0 rfl ?_
      refine gf_iconst C dd_Fi_near_37 ?_
      refine gf_icmp_le 44 C dd_Fi_near_38 (by decide) (by omega) (by omega) (fun h38 => ?_) (fun h38 => ?_)
      · skip
        refine gf_aload_n C dd_Fi_near_44 1 rfl ?_
        refine gf_aload_n C dd_Fi_near_45 1 rfl ?_
        refine gf_getA (r := 59) C gf_cl6 fl_Fi_56 dd_Fi_near_46 rfl (show gf_is 81 0 0 6 17 by decide) (by decide) (by decide) ?_
        refine gf_getI (z := 1) C gf_cl1 fl_Fi_230 dd_Fi_near_49 rfl rfl (show gf_is 81 59 0 1 2 by decide) (fun hv49 => ?_)
        refine gf_putI (z := 12) C gf_cl6 fl_Fi_205 dd_Fi_near_52 rfl rfl rfl (by decide +kernel) (show gf_is 81 0 0 6 17 by decide) (by omega) ?_
        refine gf_nmM (fun m52 hm52 => ?_)
        refine gf_iload_n C dd_Fi_near_55 0 rfl ?_
        refine gf_iret C hQ dd_Fi_near_56 (by omega) ?_
        exact ⟨fun h => absurd h (by omega), fun _ => ⟨fun h => absurd h (by omega), fun _ => ⟨hre, by rw [← hrb]; exact gf_sc_tl hsc hm52⟩⟩⟩
      · skip
        refine gf_bipush C dd_Fi_near_41 (by decide +kernel) ?_
        refine gf_iret C hQ dd_Fi_near_43 (by omega) ?_
        exact ⟨fun h => absurd h (by omega), fun _ => ⟨fun _ => ⟨rfl, hsc⟩, fun h => absurd h (by omega)⟩⟩
    · skip
      refine gf_iconst C dd_Fi_near_15 ?_
      refine gf_iret C hQ dd_Fi_near_16 (by omega) ?_
      exact ⟨fun _ => ⟨rfl, rfl⟩, fun h => absurd h (by omega)⟩

theorem dd_Fi_fills_0 : decode cc_Fi_fills 0 = .ok (.aload_n 0, 1) := by decide +kernel
theorem dd_Fi_fills_1 : decode cc_Fi_fills 1 = .ok (.iload_n 1, 1) := by decide +kernel
theorem dd_Fi_fills_2 : decode cc_Fi_fills 2 = .ok (.invokevirtual 143, 3) := by decide +kernel
theorem dd_Fi_fills_5 : decode cc_Fi_fills 5 = .ok (.ifCond .eq 19, 3) := by decide +kernel
theorem dd_Fi_fills_8 : decode cc_Fi_fills 8 = .ok (.iload_n 2, 1) := by decide +kernel
theorem dd_Fi_fills_9 : decode cc_Fi_fills 9 = .ok (.invokestatic 219, 3) := by decide +kernel
theorem dd_Fi_fills_12 : decode cc_Fi_fills 12 = .ok (.ifCond .eq 12, 3) := by decide +kernel
theorem dd_Fi_fills_15 : decode cc_Fi_fills 15 = .ok (.iload_n 3, 1) := by decide +kernel
theorem dd_Fi_fills_16 : decode cc_Fi_fills 16 = .ok (.bipush 6, 2) := by decide +kernel
theorem dd_Fi_fills_18 : decode cc_Fi_fills 18 = .ok (.invokestatic 78, 3) := by decide +kernel
theorem dd_Fi_fills_21 : decode cc_Fi_fills 21 = .ok (.ifCond .ne 5, 3) := by decide +kernel
theorem dd_Fi_fills_24 : decode cc_Fi_fills 24 = .ok (.iconst (-1), 1) := by decide +kernel
theorem dd_Fi_fills_25 : decode cc_Fi_fills 25 = .ok (.ireturn, 1) := by decide +kernel
theorem dd_Fi_fills_26 : decode cc_Fi_fills 26 = .ok (.aload_n 0, 1) := by decide +kernel
theorem dd_Fi_fills_27 : decode cc_Fi_fills 27 = .ok (.getfield 11, 3) := by decide +kernel
theorem dd_Fi_fills_30 : decode cc_Fi_fills 30 = .ok (.iload_n 3, 1) := by decide +kernel
theorem dd_Fi_fills_31 : decode cc_Fi_fills 31 = .ok (.aaload, 1) := by decide +kernel
theorem dd_Fi_fills_32 : decode cc_Fi_fills 32 = .ok (.astore 4, 2) := by decide +kernel
theorem dd_Fi_fills_34 : decode cc_Fi_fills 34 = .ok (.aload 4, 2) := by decide +kernel
theorem dd_Fi_fills_36 : decode cc_Fi_fills 36 = .ok (.invokevirtual 100, 3) := by decide +kernel
theorem dd_Fi_fills_39 : decode cc_Fi_fills 39 = .ok (.ifCond .ne 9, 3) := by decide +kernel
theorem dd_Fi_fills_42 : decode cc_Fi_fills 42 = .ok (.aload_n 0, 1) := by decide +kernel
theorem dd_Fi_fills_43 : decode cc_Fi_fills 43 = .ok (.iconst 1, 1) := by decide +kernel
theorem dd_Fi_fills_44 : decode cc_Fi_fills 44 = .ok (.invokevirtual 104, 3) := by decide +kernel
theorem dd_Fi_fills_47 : decode cc_Fi_fills 47 = .ok (.ireturn, 1) := by decide +kernel
theorem dd_Fi_fills_48 : decode cc_Fi_fills 48 = .ok (.aload 4, 2) := by decide +kernel
theorem dd_Fi_fills_50 : decode cc_Fi_fills 50 = .ok (.getfield 107, 3) := by decide +kernel
theorem dd_Fi_fills_53 : decode cc_Fi_fills 53 = .ok (.iconst 1, 1) := by decide +kernel
theorem dd_Fi_fills_54 : decode cc_Fi_fills 54 = .ok (.if_icmp .lt 13, 3) := by decide +kernel
theorem dd_Fi_fills_57 : decode cc_Fi_fills 57 = .ok (.aload 4, 2) := by decide +kernel
theorem dd_Fi_fills_59 : decode cc_Fi_fills 59 = .ok (.getfield 107, 3) := by decide +kernel
theorem dd_Fi_fills_62 : decode cc_Fi_fills 62 = .ok (.bipush 8, 2) := by decide +kernel
theorem dd_Fi_fills_64 : decode cc_Fi_fills 64 = .ok (.if_icmp .le 9, 3) := by decide +kernel
theorem dd_Fi_fills_67 : decode cc_Fi_fills 67 = .ok (.aload_n 0, 1) := by decide +kernel
theorem dd_Fi_fills_68 : decode cc_Fi_fills 68 = .ok (.iconst 5, 1) := by decide +kernel
theorem dd_Fi_fills_69 : decode cc_Fi_fills 69 = .ok (.invokevirtual 104, 3) := by decide +kernel
theorem dd_Fi_fills_72 : decode cc_Fi_fills 72 = .ok (.ireturn, 1) := by decide +kernel
theorem dd_Fi_fills_73 : decode cc_Fi_fills 73 = .ok (.aload 4, 2) := by decide +kernel
theorem dd_Fi_fills_75 : decode cc_Fi_fills 75 = .ok (.invokestatic 233, 3) := by decide +kernel
theorem dd_Fi_fills_78 : decode cc_Fi_fills 78 = .ok (.ifCond .ne 9, 3) := by decide +kernel
theorem dd_Fi_fills_81 : decode cc_Fi_fills 81 = .ok (.aload_n 0, 1) := by decide +kernel
theorem dd_Fi_fills_82 : decode cc_Fi_fills 82 = .ok (.iconst 3, 1) := by decide +kernel
theorem dd_Fi_fills_83 : decode cc_Fi_fills 83 = .ok (.invokevirtual 104, 3) := by decide +kernel
theorem dd_Fi_fills_86 : decode cc_Fi_fills 86 = .ok (.ireturn, 1) := by decide +kernel
theorem dd_Fi_fills_87 : decode cc_Fi_fills 87 = .ok (.aload_n 0, 1) := by decide +kernel
theorem dd_Fi_fills_88 : decode cc_Fi_fills 88 = .ok (.getfield 56, 3) := by decide +kernel
theorem dd_Fi_fills_91 : decode cc_Fi_fills 91 = .ok (.aload_n 0, 1) := by decide +kernel
theorem dd_Fi_fills_92 : decode cc_Fi_fills 92 = .ok (.getfield 23, 3) := by decide +kernel
theorem dd_Fi_fills_95 : decode cc_Fi_fills 95 = .ok (.iload_n 1, 1) := by decide +kernel
theorem dd_Fi_fills_96 : decode cc_Fi_fills 96 = .ok (.aaload, 1) := by decide +kernel
theorem dd_Fi_fills_97 : decode cc_Fi_fills 97 = .ok (.aload 4, 2) := by decide +kernel
theorem dd_Fi_fills_99 : decode cc_Fi_fills 99 = .ok (.iload_n 2, 1) := by decide +kernel
theorem dd_Fi_fills_100 : decode cc_Fi_fills 100 = .ok (.invokevirtual 237, 3) := by decide +kernel
theorem dd_Fi_fills_103 : decode cc_Fi_fills 103 = .ok (.istore 5, 2) := by decide +kernel
theorem dd_Fi_fills_105 : decode cc_Fi_fills 105 = .ok (.iload 5, 2) := by decide +kernel
theorem dd_Fi_fills_107 : decode cc_Fi_fills 107 = .ok (.ifCond .ne 6, 3) := by decide +kernel
theorem dd_Fi_fills_110 : decode cc_Fi_fills 110 = .ok (.bipush (-9), 2) := by decide +kernel
theorem dd_Fi_fills_112 : decode cc_Fi_fills 112 = .ok (.ireturn, 1) := by decide +kernel
theorem dd_Fi_fills_113 : decode cc_Fi_fills 113 = .ok (.aload_n 0, 1) := by decide +kernel
theorem dd_Fi_fills_114 : decode cc_Fi_fills 114 = .ok (.aload_n 0, 1) := by decide +kernel
theorem dd_Fi_fills_115 : decode cc_Fi_fills 115 = .ok (.getfield 56, 3) := by decide +kernel
theorem dd_Fi_fills_118 : decode cc_Fi_fills 118 = .ok (.getfield 230, 3) := by decide +kernel
theorem dd_Fi_fills_121 : decode cc_Fi_fills 121 = .ok (.putfield 205, 3) := by decide +kernel
theorem dd_Fi_fills_124 : decode cc_Fi_fills 124 = .ok (.iload 5, 2) := by decide +kernel
theorem dd_Fi_fills_126 : decode cc_Fi_fills 126 = .ok (.ireturn, 1) := by decide +kernel
set_option maxRecDepth 100000 in
set_option maxHeartbeats 4000000 in
theorem ct_Fi_fills (l : Launch) (E : gf_E) (i c r : Int) (μ : gf_M) (hi : gf_R i) (hcR : gf_R c) (hr : gf_R r) (hc7 : 0 ≤ μ 0 3 ∧ μ 0 3 ≤ 7) (hG : gf_okGs μ (μ 0 3)) (hs : 0 ≤ μ 41 1 ∧ μ 41 1 ≤ 8) (hF : gf_okF μ 42 (μ 41 1))(hrw : ∀ r : Int, 0 ≤ r → r < 6 → -1 ≤ μ (2 + 2 * r) 1 ∧ μ (2 + 2 * r) 1 ≤ 40) : gf_Mi l E yy_Fi_fills cc_Fi_fills 6 .int (gf_rm 4 101) 81 gf_ref μ [.ref (gf_ad E 0), .int (gf_i i), .int (gf_i c), .int (gf_i r)] (fun q μ' => (¬ (0 ≤ i ∧ i < μ 0 3 ∧ 0 ≤ c ∧ c ≤ 10 ∧ 0 ≤ r ∧ r < 6) → q = -1 ∧ μ' = μ) ∧ (0 ≤ i ∧ i < μ 0 3 ∧ 0 ≤ c ∧ c ≤ 10 ∧ 0 ≤ r ∧ r < 6 → (μ (2 + 2 * r) 1 = -1 → q = -3 ∧ μ' = gf_fd μ 1) ∧ (μ (2 + 2 * r) 1 ≠ -1 → (¬ (1 ≤ μ (2 + 2 * r) 1 ∧ μ (2 + 2 * r) 1 ≤ 8) → q = -3 ∧ μ' = gf_fd μ 5) ∧ (1 ≤ μ (2 + 2 * r) 1 ∧ μ (2 + 2 * r) 1 ≤ 8 → (¬ ((∀ j : Int, 0 ≤ j → j < μ (2 + 2 * r) 1 → -1 ≤ μ (3 + 2 * r) j ∧ μ (3 + 2 * r) j ≤ 9) ∧ pf_cnt (fun j => decide (μ (3 + 2 * r) j = -1)) (μ (2 + 2 * r) 1).toNat ≤ 3) → q = -3 ∧ μ' = gf_fd μ 3) ∧ ((∀ j : Int, 0 ≤ j → j < μ (2 + 2 * r) 1 → -1 ≤ μ (3 + 2 * r) j ∧ μ (3 + 2 * r) j ≤ 9) ∧ pf_cnt (fun j => decide (μ (3 + 2 * r) j = -1)) (μ (2 + 2 * r) 1).toNat ≤ 3 → (pf_VW (μ (24 + i) 0) (μ (24 + i) 1) (μ (24 + i) 2) (μ (2 + 2 * r) 1) c (μ (3 + 2 * r)) (μ (2 + 2 * r) 1).toNat 0 = 0 → q = -9 ∧ gf_sc μ' μ) ∧ (pf_VW (μ (24 + i) 0) (μ (24 + i) 1) (μ (24 + i) 2) (μ (2 + 2 * r) 1) c (μ (3 + 2 * r)) (μ (2 + 2 * r) 1).toNat 0 ≠ 0 → q = pf_VW (μ (24 + i) 0) (μ (24 + i) 1) (μ (24 + i) 2) (μ (2 + 2 * r) 1) c (μ (3 + 2 * r)) (μ (2 + 2 * r) 1).toNat 0 ∧ gf_sc μ' (gf_tl μ (pf_run (μ (24 + i) 0) (μ (24 + i) 1) (μ (24 + i) 2) (μ (2 + 2 * r) 1) (pf_pkW (μ (24 + i) 0) (μ (24 + i) 1) (μ (24 + i) 2) (μ (2 + 2 * r) 1) c (μ (3 + 2 * r))) (μ (2 + 2 * r) 1).toNat).2))))))) := by
  refine gf_mi (by decide +kernel) (Nat.le_of_ble_eq_true rfl) (by decide) (fun X Q hlx C hQ => ?_)
  subst hlx
  replace C : gf_C X E cc_Fi_fills 6 "GuardFigures" (gf_rm 4 101) := C
  show gf_G X E Q 6 gf_φ μ 0 [(0, .ref (gf_ad E 0)), (1, .int (gf_i i)), (2, .int (gf_i c)), (3, .int (gf_i r))] []
  refine gf_aload_n C dd_Fi_fills_0 0 rfl ?_
  refine gf_iload_n C dd_Fi_fills_1 1 rfl ?_
  refine gf_callVi (st := []) (As := [.int (gf_i i)]) C wk_Fi_143 gf_cl6 (show gf_is 81 0 0 6 17 by decide) (ct_Fi_isGuard (gf_xl X) E i μ (by omega)) rfl ⟨rfl, rfl, rfl, rfl⟩ (Nat.le_of_ble_eq_true rfl) rfl dd_Fi_fills_2 (fun r2 m2 hR2 hp2 => ?_)
  have hr2 := hp2.1
  refine gf_pm hp2.2 ?_
  refine gf_if_eq 24 C dd_Fi_fills_5 (by decide) (by omega) (fun h5 => ?_) (fun h5 => ?_)
  · skip
    refine gf_iconst C dd_Fi_fills_24 ?_
    refine gf_iret C hQ dd_Fi_fills_25 (by omega) ?_
    exact ⟨fun _ => ⟨rfl, rfl⟩, fun h => absurd h (by omega)⟩
  · skip
    refine gf_iload_n C dd_Fi_fills_8 2 rfl ?_
    refine gf_callSi (st := []) (As := [.int (gf_i c)]) C wk_Fi_219 (ct_Fi_isCheck (gf_xl X) E c μ (by omega)) rfl ⟨rfl, rfl, rfl, rfl⟩ (Nat.le_of_ble_eq_true rfl) rfl dd_Fi_fills_9 (fun r9 m9 hR9 hp9 => ?_)
    have hr9 := hp9.1
    refine gf_pm hp9.2 ?_
    refine gf_if_eq 24 C dd_Fi_fills_12 (by decide) (by omega) (fun h12 => ?_) (fun h12 => ?_)
    · skip
      refine gf_iconst C dd_Fi_fills_24 ?_
      refine gf_iret C hQ dd_Fi_fills_25 (by omega) ?_
      exact ⟨fun _ => ⟨rfl, rfl⟩, fun h => absurd h (by omega)⟩
    · skip
      refine gf_iload_n C dd_Fi_fills_15 3 rfl ?_
      refine gf_bipush C dd_Fi_fills_16 (by decide +kernel) ?_
      refine gf_callSi (st := []) (As := [.int (gf_i r), .int (gf_i 6)]) C wk_Fi_78 (ct_Fi_isWithin (gf_xl X) E r 6 μ (by omega) (by omega)) rfl ⟨rfl, rfl, rfl, rfl⟩ (Nat.le_of_ble_eq_true rfl) rfl dd_Fi_fills_18 (fun r18 m18 hR18 hp18 => ?_)
      have hr18 := hp18.1
      refine gf_pm hp18.2 ?_
      refine gf_if_ne 26 C dd_Fi_fills_21 (by decide) (by omega) (fun h21 => ?_) (fun h21 => ?_)
      · skip
        have hin : 0 ≤ i ∧ i < μ 0 3 := by have := hr2.1; have := hr2.2; omega
        have hin2 : 0 ≤ c ∧ c ≤ 10 := by have := hr9.1; have := hr9.2; omega
        have hin3 : 0 ≤ r ∧ r < 6 := by have := hr18.1; have := hr18.2; omega
        clear hr2 hr9 hr18 hp2 hp9 hp18
        have hGi := hG i hin.1 hin.2
        have hrr := hrw r hin3.1 hin3.2
        have e3 : (2 + 2 * r + 1 : Int) = 3 + 2 * r := by omega
        refine gf_aload_n C dd_Fi_fills_26 0 rfl ?_
        refine gf_getA (r := 1) C gf_cl6 fl_Fi_11 dd_Fi_fills_27 rfl (show gf_is 81 0 0 6 17 by decide) (by decide) (by decide) ?_
        refine gf_iload_n C dd_Fi_fills_30 3 rfl ?_
        have ha31 := gf_row_of (r := r) (by omega)
        refine gf_aald C dd_Fi_fills_31 (show gf_is 81 1 4 3 6 by decide) (by decide) (by omega) ha31.1 (by first | omega | exact ha31.2.1.1 | exact ha31.2.1) ?_
        refine gf_astore (lv' := [(4, .ref (gf_ad E (2 + 2 * r))), (0, .ref (gf_ad E 0)), (1, .int (gf_i i)), (2, .int (gf_i c)), (3, .int (gf_i r))]) C dd_Fi_fills_32 (by decide) rfl ?_
        refine gf_aload C dd_Fi_fills_34 0 rfl ?_
        refine gf_callVi (st := []) (As := []) C wk_Fi_100 gf_cl3 ha31.2.1 (ct_Ro_isThere (gf_xl X) E (2 + 2 * r) 40 μ ha31.2) rfl ⟨rfl, rfl, rfl, rfl⟩ (Nat.le_of_ble_eq_true rfl) rfl dd_Fi_fills_36 (fun r36 m36 hR36 hp36 => ?_)
        have hr36 := hp36.1
        refine gf_pm hp36.2 ?_
        refine gf_if_ne 48 C dd_Fi_fills_39 (by decide) (by omega) (fun h39 => ?_) (fun h39 => ?_)
        · skip
          have hth : μ (2 + 2 * r) 1 ≠ -1 := by have := hr36.1; omega
          clear hr36 hp36
          refine gf_aload C dd_Fi_fills_48 0 rfl ?_
          refine gf_getI (z := 1) C gf_cl3 fl_Fi_107 dd_Fi_fills_50 rfl rfl ha31.2.1 (fun hv50 => ?_)
          refine gf_iconst C dd_Fi_fills_53 ?_
          refine gf_icmp_lt 67 C dd_Fi_fills_54 (by decide) (by omega) (by omega) (fun h54 => ?_) (fun h54 => ?_)
          · skip
            refine gf_aload_n C dd_Fi_fills_67 1 rfl ?_
            refine gf_iconst C dd_Fi_fills_68 ?_
            refine gf_callVi (st := []) (As := [.int (gf_i 5)]) C wk_Fi_104 gf_cl6 (show gf_is 81 0 0 6 17 by decide) (ct_Fi_found (gf_xl X) E 5 μ (by omega)) rfl ⟨rfl, rfl, rfl, rfl⟩ (Nat.le_of_ble_eq_true rfl) rfl dd_Fi_fills_69 (fun r69 m69 hR69 hp69 => ?_)
            refine gf_iret C hQ dd_Fi_fills_72 (by omega) ?_
            exact ⟨fun h => absurd h (by omega), fun _ => ⟨fun h => absurd h (by omega), fun _ => ⟨fun _ => hp69, fun h => absurd h (by omega)⟩⟩⟩
          · skip
            refine gf_aload C dd_Fi_fills_57 0 rfl ?_
            refine gf_getI (z := 1) C gf_cl3 fl_Fi_107 dd_Fi_fills_59 rfl rfl ha31.2.1 (fun hv59 => ?_)
            refine gf_bipush C dd_Fi_fills_62 (by decide +kernel) ?_
            refine gf_icmp_le 73 C dd_Fi_fills_64 (by decide) (by omega) (by omega) (fun h64 => ?_) (fun h64 => ?_)
            · skip
              refine gf_aload C dd_Fi_fills_73 0 rfl ?_
              refine gf_callSi (st := []) (As := [.ref (gf_ad E (2 + 2 * r))]) C wk_Fi_233 (ct_Fi_isSmearedNumber (gf_xl X) E (2 + 2 * r) μ ha31.2 (by omega)) rfl ⟨rfl, rfl, rfl, rfl⟩ (Nat.le_of_ble_eq_true rfl) rfl dd_Fi_fills_75 (fun r75 m75 hR75 hp75 => ?_)
              have hr75 := hp75.1
              refine gf_pm hp75.2 ?_
              rw [e3] at hr75
              refine gf_if_ne 87 C dd_Fi_fills_78 (by decide) (by omega) (fun h78 => ?_) (fun h78 => ?_)
              · skip
                have hsm : (∀ j : Int, 0 ≤ j → j < μ (2 + 2 * r) 1 → -1 ≤ μ (3 + 2 * r) j ∧ μ (3 + 2 * r) j ≤ 9) ∧ pf_cnt (fun j => decide (μ (3 + 2 * r) j = -1)) (μ (2 + 2 * r) 1).toNat ≤ 3 := by
                  rcases Classical.em ((∀ j : Int, 0 ≤ j → j < μ (2 + 2 * r) 1 → -1 ≤ μ (3 + 2 * r) j ∧ μ (3 + 2 * r) j ≤ 9) ∧ pf_cnt (fun j => decide (μ (3 + 2 * r) j = -1)) (μ (2 + 2 * r) 1).toNat ≤ 3) with h | h
                  · exact h
                  · have := hr75.2 h; omega
                refine gf_aload_n C dd_Fi_fills_87 1 rfl ?_
                refine gf_getA (r := 59) C gf_cl6 fl_Fi_56 dd_Fi_fills_88 rfl (show gf_is 81 0 0 6 17 by decide) (by decide) (by decide) ?_
                refine gf_aload_n C dd_Fi_fills_91 1 rfl ?_
                refine gf_getA (r := 23) C gf_cl6 fl_Fi_23 dd_Fi_fills_92 rfl (show gf_is 81 0 0 6 17 by decide) (by decide) (by decide) ?_
                refine gf_iload_n C dd_Fi_fills_95 2 rfl ?_
                have ha96 := gf_guard_of (r := i) (by omega)
                refine gf_aald C dd_Fi_fills_96 (show gf_is 81 23 4 4 7 by decide) (by decide) (by omega) ha96.1 (by first | omega | exact ha96.2.1.1 | exact ha96.2.1) ?_
                refine gf_aload C dd_Fi_fills_97 0 rfl ?_
                refine gf_iload_n C dd_Fi_fills_99 3 rfl ?_
                refine gf_callVi (st := []) (As := [.ref (gf_ad E (24 + i)), .ref (gf_ad E (2 + 2 * r)), .int (gf_i c)]) C wk_Fi_237 gf_cl1 (show gf_is 81 59 0 1 2 by decide) (ct_Ou_waysToFill (gf_xl X) E (24 + i) (2 + 2 * r) μ ha96.2 (by omega) hGi ha31.2 (by omega) c hcR (by omega)) rfl ⟨rfl, rfl, rfl, rfl⟩ (Nat.le_of_ble_eq_true rfl) rfl dd_Fi_fills_100 (fun r100 m100 hR100 hp100 => ?_)
                obtain ⟨hra, hrb, hrc⟩ := hp100
                have hre := hra.1
                rw [e3] at hre hrb
                have hsc : gf_sc m100 μ := fun a b h => hrc a b (by omega) (by omega)
                refine gf_istore (lv' := [(5, .int (gf_i r100)), (4, .ref (gf_ad E (2 + 2 * r))), (0, .ref (gf_ad E 0)), (1, .int (gf_i i)), (2, .int (gf_i c)), (3, .int (gf_i r))]) C dd_Fi_fills_103 (by decide) rfl ?_
                refine gf_iload C dd_Fi_fills_105 0 rfl ?_
                refine gf_if_ne 113 C dd_Fi_fills_107 (by decide) (by omega) (fun h107 => ?_) (fun h107 => ?_)
                · skip
                  refine gf_aload_n C dd_Fi_fills_113 2 rfl ?_
                  refine gf_aload_n C dd_Fi_fills_114 2 rfl ?_
                  refine gf_getA (r := 59) C gf_cl6 fl_Fi_56 dd_Fi_fills_115 rfl (show gf_is 81 0 0 6 17 by decide) (by decide) (by decide) ?_
                  refine gf_getI (z := 1) C gf_cl1 fl_Fi_230 dd_Fi_fills_118 rfl rfl (show gf_is 81 59 0 1 2 by decide) (fun hv118 => ?_)
                  refine gf_putI (z := 12) C gf_cl6 fl_Fi_205 dd_Fi_fills_121 rfl rfl rfl (by decide +kernel) (show gf_is 81 0 0 6 17 by decide) (by omega) ?_
                  refine gf_nmM (fun m121 hm121 => ?_)
                  refine gf_iload C dd_Fi_fills_124 0 rfl ?_
                  refine gf_iret C hQ dd_Fi_fills_126 (by omega) ?_
                  exact ⟨fun h => absurd h (by omega), fun _ => ⟨fun h => absurd h (by omega), fun _ => ⟨fun h => absurd h (by omega), fun _ => ⟨fun h => absurd hsm h, fun _ => ⟨fun h => absurd h (by omega), fun _ => ⟨hre, by rw [← hrb]; exact gf_sc_tl hsc hm121⟩⟩⟩⟩⟩⟩
                · skip
                  refine gf_bipush C dd_Fi_fills_110 (by decide +kernel) ?_
                  refine gf_iret C hQ dd_Fi_fills_112 (by omega) ?_
                  exact ⟨fun h => absurd h (by omega), fun _ => ⟨fun h => absurd h (by omega), fun _ => ⟨fun h => absurd h (by omega), fun _ => ⟨fun h => absurd hsm h, fun _ => ⟨fun _ => ⟨rfl, hsc⟩, fun h => absurd h (by omega)⟩⟩⟩⟩⟩
              · skip
                have hsm : ¬ ((∀ j : Int, 0 ≤ j → j < μ (2 + 2 * r) 1 → -1 ≤ μ (3 + 2 * r) j ∧ μ (3 + 2 * r) j ≤ 9) ∧ pf_cnt (fun j => decide (μ (3 + 2 * r) j = -1)) (μ (2 + 2 * r) 1).toNat ≤ 3) := fun h => by have := hr75.1 h; omega
                refine gf_aload_n C dd_Fi_fills_81 1 rfl ?_
                refine gf_iconst C dd_Fi_fills_82 ?_
                refine gf_callVi (st := []) (As := [.int (gf_i 3)]) C wk_Fi_104 gf_cl6 (show gf_is 81 0 0 6 17 by decide) (ct_Fi_found (gf_xl X) E 3 μ (by omega)) rfl ⟨rfl, rfl, rfl, rfl⟩ (Nat.le_of_ble_eq_true rfl) rfl dd_Fi_fills_83 (fun r83 m83 hR83 hp83 => ?_)
                refine gf_iret C hQ dd_Fi_fills_86 (by omega) ?_
                exact ⟨fun h => absurd h (by omega), fun _ => ⟨fun h => absurd h (by omega), fun _ => ⟨fun h => absurd h (by omega), fun _ => ⟨fun _ => hp83, fun h => absurd h hsm⟩⟩⟩⟩
            · skip
              refine gf_aload_n C dd_Fi_fills_67 1 rfl ?_
              refine gf_iconst C dd_Fi_fills_68 ?_
              refine gf_callVi (st := []) (As := [.int (gf_i 5)]) C wk_Fi_104 gf_cl6 (show gf_is 81 0 0 6 17 by decide) (ct_Fi_found (gf_xl X) E 5 μ (by omega)) rfl ⟨rfl, rfl, rfl, rfl⟩ (Nat.le_of_ble_eq_true rfl) rfl dd_Fi_fills_69 (fun r69 m69 hR69 hp69 => ?_)
              refine gf_iret C hQ dd_Fi_fills_72 (by omega) ?_
              exact ⟨fun h => absurd h (by omega), fun _ => ⟨fun h => absurd h (by omega), fun _ => ⟨fun _ => hp69, fun h => absurd h (by omega)⟩⟩⟩
        · skip
          refine gf_aload_n C dd_Fi_fills_42 1 rfl ?_
          refine gf_iconst C dd_Fi_fills_43 ?_
          refine gf_callVi (st := []) (As := [.int (gf_i 1)]) C wk_Fi_104 gf_cl6 (show gf_is 81 0 0 6 17 by decide) (ct_Fi_found (gf_xl X) E 1 μ (by omega)) rfl ⟨rfl, rfl, rfl, rfl⟩ (Nat.le_of_ble_eq_true rfl) rfl dd_Fi_fills_44 (fun r44 m44 hR44 hp44 => ?_)
          refine gf_iret C hQ dd_Fi_fills_47 (by omega) ?_
          exact ⟨fun h => absurd h (by omega), fun _ => ⟨fun _ => hp44, fun h => absurd h (by have := hr36.2; omega)⟩⟩
      · skip
        refine gf_iconst C dd_Fi_fills_24 ?_
        refine gf_iret C hQ dd_Fi_fills_25 (by omega) ?_
        exact ⟨fun _ => ⟨rfl, rfl⟩, fun h => absurd h (by omega)⟩
