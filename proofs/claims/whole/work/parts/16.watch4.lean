/-! the watch's look and what is told of it -/
theorem gf_lk_bit {μ0 m : gf_M} {a b : Nat} (h : gf_lk μ0 m a b) {t : Nat} {q : Int × (Int → Int)} (hq : (pf_T (μ0 42) (μ0 41 1))[t]? = some q) {i : Int} (hi : (a : Int) ≤ i ∧ i < b) : 0 ≤ m 55 t ∧ (gf_and (m 55 t) (gf_shl 1 i) = 0 ↔ pf_no μ0 (μ0 42) (μ0 41 1) q.2 i.toNat = false) := by
  have h2 := (h.2.1 t q hq).2
  refine ⟨by rw [h2]; omega, ?_⟩
  have e : gf_and (m 55 t) (gf_shl 1 i) = (((pf_nb (pf_no μ0 (μ0 42) (μ0 41 1) q.2) a (b - a)) &&& 2 ^ i.toNat : Nat) : Int) := by
    unfold gf_and gf_shl
    rw [h2, Int.one_mul]
    have e2 : ((2 : Int) ^ i.toNat).toNat = 2 ^ i.toNat := by
      have : ((2 : Int) ^ i.toNat) = ((2 ^ i.toNat : Nat) : Int) := by simp
      rw [this, Int.toNat_natCast]
    rw [e2, Int.toNat_natCast]
  rw [e]
  have h3 := pf_and_bit (pf_nb (pf_no μ0 (μ0 42) (μ0 41 1) q.2) a (b - a)) i.toNat
  rw [pf_nb_bit] at h3
  have h4 : decide (a ≤ i.toNat ∧ i.toNat < a + (b - a)) = true := by simp; omega
  rw [h4, Bool.true_and] at h3
  exact (show ((_ : Nat) : Int) = 0 ↔ _ = 0 by omega).trans h3
theorem gf_shl1 {i : Int} (h : 0 ≤ i ∧ i ≤ 9) : 1 ≤ gf_shl 1 i ∧ gf_shl 1 i ≤ 512 := by
  unfold gf_shl
  have : i = 0 ∨ i = 1 ∨ i = 2 ∨ i = 3 ∨ i = 4 ∨ i = 5 ∨ i = 6 ∨ i = 7 ∨ i = 8 ∨ i = 9 := by omega
  rcases this with rfl | rfl | rfl | rfl | rfl | rfl | rfl | rfl | rfl | rfl <;> decide
theorem pf_take_flt {α : Type} (p : α → Bool) (S : List α) {j : Nat} {q : α} (h : S[j]? = some q) : (S.take (j + 1)).filter p = (S.take j).filter p ++ (if p q = true then [q] else []) := by
  rw [List.take_succ, h, List.filter_append]
  congr 1
  by_cases e : p q = true
  · simp [e]
  · simp [e]
def pf_uf (μ0 : gf_M) (i : Nat) : (Int × (Int → Int)) → Bool := fun q => !pf_no μ0 (μ0 42) (μ0 41 1) q.2 i
def gf_okGs (μ : gf_M) (c : Int) : Prop := ∀ i : Int, 0 ≤ i → i < c → gf_okG μ (24 + i)
theorem dd_Wa_unseen_0 : decode cc_Wa_unseen 0 = .ok (.iconst 0, 1) := by decide +kernel
theorem dd_Wa_unseen_1 : decode cc_Wa_unseen 1 = .ok (.istore_n 3, 1) := by decide +kernel
theorem dd_Wa_unseen_2 : decode cc_Wa_unseen 2 = .ok (.aload_n 0, 1) := by decide +kernel
theorem dd_Wa_unseen_3 : decode cc_Wa_unseen 3 = .ok (.iload_n 2, 1) := by decide +kernel
theorem dd_Wa_unseen_4 : decode cc_Wa_unseen 4 = .ok (.invokevirtual 57, 3) := by decide +kernel
theorem dd_Wa_unseen_7 : decode cc_Wa_unseen 7 = .ok (.istore 4, 2) := by decide +kernel
theorem dd_Wa_unseen_9 : decode cc_Wa_unseen 9 = .ok (.iload 4, 2) := by decide +kernel
theorem dd_Wa_unseen_11 : decode cc_Wa_unseen 11 = .ok (.aload_n 0, 1) := by decide +kernel
theorem dd_Wa_unseen_12 : decode cc_Wa_unseen 12 = .ok (.getfield 18, 3) := by decide +kernel
theorem dd_Wa_unseen_15 : decode cc_Wa_unseen 15 = .ok (.iload_n 2, 1) := by decide +kernel
theorem dd_Wa_unseen_16 : decode cc_Wa_unseen 16 = .ok (.iaload, 1) := by decide +kernel
theorem dd_Wa_unseen_17 : decode cc_Wa_unseen 17 = .ok (.if_icmp .ge 24, 3) := by decide +kernel
theorem dd_Wa_unseen_20 : decode cc_Wa_unseen 20 = .ok (.aload_n 0, 1) := by decide +kernel
theorem dd_Wa_unseen_21 : decode cc_Wa_unseen 21 = .ok (.iload 4, 2) := by decide +kernel
theorem dd_Wa_unseen_23 : decode cc_Wa_unseen 23 = .ok (.iconst 1, 1) := by decide +kernel
theorem dd_Wa_unseen_24 : decode cc_Wa_unseen 24 = .ok (.iload_n 1, 1) := by decide +kernel
theorem dd_Wa_unseen_25 : decode cc_Wa_unseen 25 = .ok (.ishl, 1) := by decide +kernel
theorem dd_Wa_unseen_26 : decode cc_Wa_unseen 26 = .ok (.invokevirtual 61, 3) := by decide +kernel
theorem dd_Wa_unseen_29 : decode cc_Wa_unseen 29 = .ok (.ifCond .ne 6, 3) := by decide +kernel
theorem dd_Wa_unseen_32 : decode cc_Wa_unseen 32 = .ok (.iinc 3 1, 3) := by decide +kernel
theorem dd_Wa_unseen_35 : decode cc_Wa_unseen 35 = .ok (.iinc 4 1, 3) := by decide +kernel
theorem dd_Wa_unseen_38 : decode cc_Wa_unseen 38 = .ok (.goto (-29), 3) := by decide +kernel
theorem dd_Wa_unseen_41 : decode cc_Wa_unseen 41 = .ok (.iload_n 3, 1) := by decide +kernel
theorem dd_Wa_unseen_42 : decode cc_Wa_unseen 42 = .ok (.ireturn, 1) := by decide +kernel
set_option maxRecDepth 100000 in
set_option maxHeartbeats 4000000 in
theorem ct_Wa_unseen (l : Launch) (E : gf_E) (i s : Int) (S Pr Po : List (Int × (Int → Int))) (μ μ0 : gf_M) (a b : Nat) (hlk : gf_lk μ0 μ a b) (hi : (a : Int) ≤ i ∧ i < b) (hb : b ≤ 7) (hs : 0 ≤ s ∧ s ≤ 2) (hT : pf_T (μ0 42) (μ0 41 1) = Pr ++ S ++ Po) (hst : (s = 0 ∧ Pr.length = 0) ∨ (s ≠ 0 ∧ μ 56 (s - 1) = (Pr.length : Int))) (hen : μ 56 s = (Pr.length : Int) + (S.length : Int)) (h88 : (pf_T (μ0 42) (μ0 41 1)).length ≤ 85) : gf_Mi l E yy_Wa_unseen cc_Wa_unseen 5 .int (gf_rm 1 22) 81 gf_ref μ [.ref (gf_ad E 53), .int (gf_i i), .int (gf_i s)] (fun r μ' => (r = ((S.filter (pf_uf μ0 i.toNat)).length : Int) ∧ 0 ≤ r ∧ r ≤ 85) ∧ μ' = μ) := by
  refine gf_mi (by decide +kernel) (Nat.le_of_ble_eq_true rfl) (by decide) (fun X Q hlx C hQ => ?_)
  subst hlx
  replace C : gf_C X E cc_Wa_unseen 5 "GuardFigures$Watch" (gf_rm 1 22) := C
  show gf_G X E Q 5 gf_φ μ 0 [(0, .ref (gf_ad E 53)), (1, .int (gf_i i)), (2, .int (gf_i s))] []
  have hTl : Pr.length + S.length + Po.length ≤ 85 := by
    have := congrArg List.length hT
    simp only [List.length_append] at this
    omega
  have hTat : ∀ (j : Nat) (q : Int × (Int → Int)), S[j]? = some q → (pf_T (μ0 42) (μ0 41 1))[Pr.length + j]? = some q := fun j q h => by
    have hj := (List.getElem?_eq_some_iff.mp h).1
    rw [hT, List.append_assoc, List.getElem?_append_right (by omega), List.getElem?_append_left (by omega), Nat.add_sub_cancel_left]
    exact h
  have hsh := gf_shl1 (i := i) (by omega)
  refine gf_iconst C dd_Wa_unseen_0 ?_
  refine gf_istore_n (lv' := [(3, .int (gf_i 0)), (0, .ref (gf_ad E 53)), (1, .int (gf_i i)), (2, .int (gf_i s))]) C dd_Wa_unseen_1 (by decide) rfl ?_
  refine gf_aload_n C dd_Wa_unseen_2 1 rfl ?_
  refine gf_iload_n C dd_Wa_unseen_3 3 rfl ?_
  refine gf_callVi (st := []) (As := [.int (gf_i s)]) C wk_Wa_57 gf_cl4 (show gf_is 81 53 0 4 6 by decide) (ct_Wa_startOf (gf_xl X) E s μ (hs)) rfl ⟨rfl, rfl, rfl, rfl⟩ (Nat.le_of_ble_eq_true rfl) rfl dd_Wa_unseen_4 (fun r4 m4 hR4 hp4 => ?_)
  have hr4 := hp4.1
  refine gf_pm hp4.2 ?_
  refine gf_istore (lv' := [(4, .int (gf_i r4)), (3, .int (gf_i 0)), (0, .ref (gf_ad E 53)), (1, .int (gf_i i)), (2, .int (gf_i s))]) C dd_Wa_unseen_7 (by decide) rfl ?_
  have L9_1 : ∀ (N : Nat) (c t : Int) , ((Pr.length : Int) ≤ t ∧ t ≤ (Pr.length : Int) + S.length ∧ c = (((S.take (t - Pr.length).toNat).filter (pf_uf μ0 i.toNat)).length : Int)) → (88 - t).toNat < N → gf_G X E Q 5 gf_φ μ 9 [(3, .int (gf_i c)), (4, .int (gf_i t)), (0, .ref (gf_ad E 53)), (1, .int (gf_i i)), (2, .int (gf_i s))] [] := by
    intro N
    induction N with
    | zero => intro c t hinv hN; exact absurd hN (Nat.not_lt_zero _)
    | succ N ih9_1 =>
      intro c t hinv hN
      have hinv0 := hinv
      obtain ⟨ht0, ht1, hc⟩ := hinv
      have hcl : ((S.take (t - Pr.length).toNat).filter (pf_uf μ0 i.toNat)).length ≤ 85 := by
        have h1 := List.length_filter_le (pf_uf μ0 i.toNat) (S.take (t - Pr.length).toNat)
        have h2 := List.length_take_le' (t - Pr.length).toNat S
        omega
      refine gf_iload C dd_Wa_unseen_9 1 rfl ?_
      refine gf_aload_n C dd_Wa_unseen_11 2 rfl ?_
      refine gf_getA (r := 56) C gf_cl4 fl_Wa_18 dd_Wa_unseen_12 rfl (show gf_is 81 53 0 4 6 by decide) (by decide) (by decide) ?_
      refine gf_iload_n C dd_Wa_unseen_15 4 rfl ?_
      refine gf_iald C dd_Wa_unseen_16 (show gf_is 81 56 1 0 3 by decide) (by omega) (fun hv16 => ?_)
      refine gf_icmp_ge 41 C dd_Wa_unseen_17 (by decide) (by omega) (by omega) (fun h17 => ?_) (fun h17 => ?_)
      · skip
        refine gf_iload_n C dd_Wa_unseen_41 0 rfl ?_
        refine gf_iret C hQ dd_Wa_unseen_42 (by omega) ?_
        refine ⟨⟨?_, by omega, by omega⟩, rfl⟩
        rw [hc, show (t - (Pr.length : Int)).toNat = S.length by omega, List.take_length]
      · skip
        have hj := show (t - (Pr.length : Int)).toNat < S.length by omega
        have hSq : S[(t - (Pr.length : Int)).toNat]? = some S[(t - (Pr.length : Int)).toNat] := List.getElem?_eq_getElem hj
        have hTq := hTat _ _ hSq
        rw [show Pr.length + (t - (Pr.length : Int)).toNat = t.toNat by omega] at hTq
        have hbit := gf_lk_bit hlk hTq hi
        rw [show ((t.toNat : Nat) : Int) = t by omega] at hbit
        refine gf_aload_n C dd_Wa_unseen_20 2 rfl ?_
        refine gf_iload C dd_Wa_unseen_21 1 rfl ?_
        refine gf_iconst C dd_Wa_unseen_23 ?_
        refine gf_iload_n C dd_Wa_unseen_24 3 rfl ?_
        refine gf_ishl C dd_Wa_unseen_25 (by omega) ?_
        refine gf_callVi (st := []) (As := [.int (gf_i t), .int (gf_i (gf_shl 1 i))]) C wk_Wa_61 gf_cl4 (show gf_is 81 53 0 4 6 by decide) (ct_Wa_isNoticed (gf_xl X) E t (gf_shl 1 i) μ (by omega) (by omega) (by omega)) rfl ⟨rfl, rfl, rfl, rfl⟩ (Nat.le_of_ble_eq_true rfl) rfl dd_Wa_unseen_26 (fun r26 m26 hR26 hp26 => ?_)
        have hr26 := hp26.1
        refine gf_pm hp26.2 ?_
        refine gf_if_ne 35 C dd_Wa_unseen_29 (by decide) (by omega) (fun h29 => ?_) (fun h29 => ?_)
        · skip
          obtain ⟨x35, hx35⟩ : ∃ y : Int, y = t + 1 := ⟨_, rfl⟩
          refine gf_iinc (q := 1) (v := x35) (lv' := [(4, .int (gf_i x35)), (3, .int (gf_i c)), (0, .ref (gf_ad E 53)), (1, .int (gf_i i)), (2, .int (gf_i s))]) C dd_Wa_unseen_35 rfl hx35 (by decide) rfl ?_
          refine gf_goto 9 C dd_Wa_unseen_38 (by decide) ?_
          refine gf_lsub [1, 0, 2, 3, 4] rfl ?_
          exact ih9_1 c x35 (by
                  refine ⟨by omega, by omega, ?_⟩
                  rw [hx35, show (t + 1 - (Pr.length : Int)).toNat = (t - (Pr.length : Int)).toNat + 1 by omega, pf_take_flt _ _ hSq, List.length_append]
                  have hu : pf_uf μ0 i.toNat S[(t - (Pr.length : Int)).toNat] = !pf_no μ0 (μ0 42) (μ0 41 1) (S[(t - (Pr.length : Int)).toNat]).2 i.toNat := rfl
                  by_cases e : pf_no μ0 (μ0 42) (μ0 41 1) (S[(t - (Pr.length : Int)).toNat]).2 i.toNat = false
                  · have e0 := hbit.2.mpr e
                    have := hr26.1 e0
                    rw [if_pos (by rw [hu, e]; rfl)]
                    simp only [List.length_singleton]
                    omega
                  · have e0 : gf_and (μ 55 t) (gf_shl 1 i) ≠ 0 := fun z => e (hbit.2.mp z)
                    have := hr26.2 e0
                    rw [if_neg (by rw [hu]; simpa using e)]
                    simp only [List.length_nil]
                    omega) (by omega)
        · skip
          obtain ⟨x32, hx32⟩ : ∃ y : Int, y = c + 1 := ⟨_, rfl⟩
          refine gf_iinc (q := 0) (v := x32) (lv' := [(3, .int (gf_i x32)), (4, .int (gf_i t)), (0, .ref (gf_ad E 53)), (1, .int (gf_i i)), (2, .int (gf_i s))]) C dd_Wa_unseen_32 rfl hx32 (by decide) rfl ?_
          obtain ⟨x35, hx35⟩ : ∃ y : Int, y = t + 1 := ⟨_, rfl⟩
          refine gf_iinc (q := 1) (v := x35) (lv' := [(4, .int (gf_i x35)), (3, .int (gf_i x32)), (0, .ref (gf_ad E 53)), (1, .int (gf_i i)), (2, .int (gf_i s))]) C dd_Wa_unseen_35 rfl hx35 (by decide) rfl ?_
          refine gf_goto 9 C dd_Wa_unseen_38 (by decide) ?_
          refine gf_lsub [1, 0, 2, 3, 4] rfl ?_
          exact ih9_1 x32 x35 (by
                  refine ⟨by omega, by omega, ?_⟩
                  rw [hx35, show (t + 1 - (Pr.length : Int)).toNat = (t - (Pr.length : Int)).toNat + 1 by omega, pf_take_flt _ _ hSq, List.length_append]
                  have hu : pf_uf μ0 i.toNat S[(t - (Pr.length : Int)).toNat] = !pf_no μ0 (μ0 42) (μ0 41 1) (S[(t - (Pr.length : Int)).toNat]).2 i.toNat := rfl
                  by_cases e : pf_no μ0 (μ0 42) (μ0 41 1) (S[(t - (Pr.length : Int)).toNat]).2 i.toNat = false
                  · have e0 := hbit.2.mpr e
                    have := hr26.1 e0
                    rw [if_pos (by rw [hu, e]; rfl)]
                    simp only [List.length_singleton]
                    omega
                  · have e0 : gf_and (μ 55 t) (gf_shl 1 i) ≠ 0 := fun z => e (hbit.2.mp z)
                    have := hr26.2 e0
                    rw [if_neg (by rw [hu]; simpa using e)]
                    simp only [List.length_nil]
                    omega) (by omega)
  refine gf_lsub [1, 0, 2, 3, 4] rfl ?_
  exact L9_1 _ 0 r4 (⟨by omega, by omega, by rw [show (r4 - (Pr.length : Int)).toNat = 0 by omega]; rfl⟩) (Nat.lt_succ_self _)

theorem dd_Wa_firstUnseen_0 : decode cc_Wa_firstUnseen 0 = .ok (.aload_n 0, 1) := by decide +kernel
theorem dd_Wa_firstUnseen_1 : decode cc_Wa_firstUnseen 1 = .ok (.iload_n 2, 1) := by decide +kernel
theorem dd_Wa_firstUnseen_2 : decode cc_Wa_firstUnseen 2 = .ok (.invokevirtual 57, 3) := by decide +kernel
theorem dd_Wa_firstUnseen_5 : decode cc_Wa_firstUnseen 5 = .ok (.istore_n 3, 1) := by decide +kernel
theorem dd_Wa_firstUnseen_6 : decode cc_Wa_firstUnseen 6 = .ok (.iload_n 3, 1) := by decide +kernel
theorem dd_Wa_firstUnseen_7 : decode cc_Wa_firstUnseen 7 = .ok (.aload_n 0, 1) := by decide +kernel
theorem dd_Wa_firstUnseen_8 : decode cc_Wa_firstUnseen 8 = .ok (.getfield 18, 3) := by decide +kernel
theorem dd_Wa_firstUnseen_11 : decode cc_Wa_firstUnseen 11 = .ok (.iload_n 2, 1) := by decide +kernel
theorem dd_Wa_firstUnseen_12 : decode cc_Wa_firstUnseen 12 = .ok (.iaload, 1) := by decide +kernel
theorem dd_Wa_firstUnseen_13 : decode cc_Wa_firstUnseen 13 = .ok (.if_icmp .ge 27, 3) := by decide +kernel
theorem dd_Wa_firstUnseen_16 : decode cc_Wa_firstUnseen 16 = .ok (.aload_n 0, 1) := by decide +kernel
theorem dd_Wa_firstUnseen_17 : decode cc_Wa_firstUnseen 17 = .ok (.iload_n 3, 1) := by decide +kernel
theorem dd_Wa_firstUnseen_18 : decode cc_Wa_firstUnseen 18 = .ok (.iconst 1, 1) := by decide +kernel
theorem dd_Wa_firstUnseen_19 : decode cc_Wa_firstUnseen 19 = .ok (.iload_n 1, 1) := by decide +kernel
theorem dd_Wa_firstUnseen_20 : decode cc_Wa_firstUnseen 20 = .ok (.ishl, 1) := by decide +kernel
theorem dd_Wa_firstUnseen_21 : decode cc_Wa_firstUnseen 21 = .ok (.invokevirtual 61, 3) := by decide +kernel
theorem dd_Wa_firstUnseen_24 : decode cc_Wa_firstUnseen 24 = .ok (.ifCond .ne 10, 3) := by decide +kernel
theorem dd_Wa_firstUnseen_27 : decode cc_Wa_firstUnseen 27 = .ok (.aload_n 0, 1) := by decide +kernel
theorem dd_Wa_firstUnseen_28 : decode cc_Wa_firstUnseen 28 = .ok (.getfield 11, 3) := by decide +kernel
theorem dd_Wa_firstUnseen_31 : decode cc_Wa_firstUnseen 31 = .ok (.iload_n 3, 1) := by decide +kernel
theorem dd_Wa_firstUnseen_32 : decode cc_Wa_firstUnseen 32 = .ok (.iaload, 1) := by decide +kernel
theorem dd_Wa_firstUnseen_33 : decode cc_Wa_firstUnseen 33 = .ok (.ireturn, 1) := by decide +kernel
theorem dd_Wa_firstUnseen_34 : decode cc_Wa_firstUnseen 34 = .ok (.iinc 3 1, 3) := by decide +kernel
theorem dd_Wa_firstUnseen_37 : decode cc_Wa_firstUnseen 37 = .ok (.goto (-31), 3) := by decide +kernel
theorem dd_Wa_firstUnseen_40 : decode cc_Wa_firstUnseen 40 = .ok (.bipush (-9), 2) := by decide +kernel
theorem dd_Wa_firstUnseen_42 : decode cc_Wa_firstUnseen 42 = .ok (.ireturn, 1) := by decide +kernel
set_option maxRecDepth 100000 in
set_option maxHeartbeats 4000000 in
theorem ct_Wa_firstUnseen (l : Launch) (E : gf_E) (i s : Int) (S Pr Po : List (Int × (Int → Int))) (μ μ0 : gf_M) (a b : Nat) (hlk : gf_lk μ0 μ a b) (hi : (a : Int) ≤ i ∧ i < b) (hb : b ≤ 7) (hs : 0 ≤ s ∧ s ≤ 2) (hT : pf_T (μ0 42) (μ0 41 1) = Pr ++ S ++ Po) (hst : (s = 0 ∧ Pr.length = 0) ∨ (s ≠ 0 ∧ μ 56 (s - 1) = (Pr.length : Int))) (hen : μ 56 s = (Pr.length : Int) + (S.length : Int)) (h88 : (pf_T (μ0 42) (μ0 41 1)).length ≤ 85) : gf_Mi l E yy_Wa_firstUnseen cc_Wa_firstUnseen 4 .int (gf_rm 1 22) 81 gf_ref μ [.ref (gf_ad E 53), .int (gf_i i), .int (gf_i s)] (fun r μ' => r = (((S.filter (pf_uf μ0 i.toNat)).head?.map (fun q => q.1)).getD (-9)) ∧ μ' = μ) := by
  refine gf_mi (by decide +kernel) (Nat.le_of_ble_eq_true rfl) (by decide) (fun X Q hlx C hQ => ?_)
  subst hlx
  replace C : gf_C X E cc_Wa_firstUnseen 4 "GuardFigures$Watch" (gf_rm 1 22) := C
  show gf_G X E Q 4 gf_φ μ 0 [(0, .ref (gf_ad E 53)), (1, .int (gf_i i)), (2, .int (gf_i s))] []
  have hTl : Pr.length + S.length + Po.length ≤ 85 := by
    have := congrArg List.length hT
    simp only [List.length_append] at this
    omega
  have hTat : ∀ (j : Nat) (q : Int × (Int → Int)), S[j]? = some q → (pf_T (μ0 42) (μ0 41 1))[Pr.length + j]? = some q := fun j q h => by
    have hj := (List.getElem?_eq_some_iff.mp h).1
    rw [hT, List.append_assoc, List.getElem?_append_right (by omega), List.getElem?_append_left (by omega), Nat.add_sub_cancel_left]
    exact h
  have hsh := gf_shl1 (i := i) (by omega)
  refine gf_aload_n C dd_Wa_firstUnseen_0 0 rfl ?_
  refine gf_iload_n C dd_Wa_firstUnseen_1 2 rfl ?_
  refine gf_callVi (st := []) (As := [.int (gf_i s)]) C wk_Wa_57 gf_cl4 (show gf_is 81 53 0 4 6 by decide) (ct_Wa_startOf (gf_xl X) E s μ (by omega)) rfl ⟨rfl, rfl, rfl, rfl⟩ (Nat.le_of_ble_eq_true rfl) rfl dd_Wa_firstUnseen_2 (fun r2 m2 hR2 hp2 => ?_)
  have hr2 := hp2.1
  refine gf_pm hp2.2 ?_
  refine gf_istore_n (lv' := [(3, .int (gf_i r2)), (0, .ref (gf_ad E 53)), (1, .int (gf_i i)), (2, .int (gf_i s))]) C dd_Wa_firstUnseen_5 (by decide) rfl ?_
  have L6_1 : ∀ (N : Nat) (t : Int) , ((Pr.length : Int) ≤ t ∧ t ≤ (Pr.length : Int) + S.length ∧ (S.take (t - Pr.length).toNat).filter (pf_uf μ0 i.toNat) = []) → (88 - t).toNat < N → gf_G X E Q 4 gf_φ μ 6 [(3, .int (gf_i t)), (0, .ref (gf_ad E 53)), (1, .int (gf_i i)), (2, .int (gf_i s))] [] := by
    intro N
    induction N with
    | zero => intro t hinv hN; exact absurd hN (Nat.not_lt_zero _)
    | succ N ih6_1 =>
      intro t hinv hN
      have hinv0 := hinv
      obtain ⟨ht0, ht1, hc⟩ := hinv
      refine gf_iload_n C dd_Wa_firstUnseen_6 0 rfl ?_
      refine gf_aload_n C dd_Wa_firstUnseen_7 1 rfl ?_
      refine gf_getA (r := 56) C gf_cl4 fl_Wa_18 dd_Wa_firstUnseen_8 rfl (show gf_is 81 53 0 4 6 by decide) (by decide) (by decide) ?_
      refine gf_iload_n C dd_Wa_firstUnseen_11 3 rfl ?_
      refine gf_iald C dd_Wa_firstUnseen_12 (show gf_is 81 56 1 0 3 by decide) (by omega) (fun hv12 => ?_)
      refine gf_icmp_ge 40 C dd_Wa_firstUnseen_13 (by decide) (by omega) (by omega) (fun h13 => ?_) (fun h13 => ?_)
      · skip
        refine gf_bipush C dd_Wa_firstUnseen_40 (by decide +kernel) ?_
        refine gf_iret C hQ dd_Wa_firstUnseen_42 (by omega) ?_
        refine ⟨?_, rfl⟩
        rw [show (t - (Pr.length : Int)).toNat = S.length by omega, List.take_length] at hc
        rw [hc]
        rfl
      · skip
        have hj := show (t - (Pr.length : Int)).toNat < S.length by omega
        have hSq : S[(t - (Pr.length : Int)).toNat]? = some S[(t - (Pr.length : Int)).toNat] := List.getElem?_eq_getElem hj
        have hTq := hTat _ _ hSq
        rw [show Pr.length + (t - (Pr.length : Int)).toNat = t.toNat by omega] at hTq
        have hbit := gf_lk_bit hlk hTq hi
        rw [show ((t.toNat : Nat) : Int) = t by omega] at hbit
        refine gf_aload_n C dd_Wa_firstUnseen_16 1 rfl ?_
        refine gf_iload_n C dd_Wa_firstUnseen_17 0 rfl ?_
        refine gf_iconst C dd_Wa_firstUnseen_18 ?_
        refine gf_iload_n C dd_Wa_firstUnseen_19 2 rfl ?_
        refine gf_ishl C dd_Wa_firstUnseen_20 (by omega) ?_
        refine gf_callVi (st := []) (As := [.int (gf_i t), .int (gf_i (gf_shl 1 i))]) C wk_Wa_61 gf_cl4 (show gf_is 81 53 0 4 6 by decide) (ct_Wa_isNoticed (gf_xl X) E t (gf_shl 1 i) μ (by omega) (by omega) (by omega)) rfl ⟨rfl, rfl, rfl, rfl⟩ (Nat.le_of_ble_eq_true rfl) rfl dd_Wa_firstUnseen_21 (fun r21 m21 hR21 hp21 => ?_)
        have hr21 := hp21.1
        refine gf_pm hp21.2 ?_
        refine gf_if_ne 34 C dd_Wa_firstUnseen_24 (by decide) (by omega) (fun h24 => ?_) (fun h24 => ?_)
        · skip
          obtain ⟨x34, hx34⟩ : ∃ y : Int, y = t + 1 := ⟨_, rfl⟩
          refine gf_iinc (q := 0) (v := x34) (lv' := [(3, .int (gf_i x34)), (0, .ref (gf_ad E 53)), (1, .int (gf_i i)), (2, .int (gf_i s))]) C dd_Wa_firstUnseen_34 rfl hx34 (by decide) rfl ?_
          refine gf_goto 6 C dd_Wa_firstUnseen_37 (by decide) ?_
          refine gf_lsub [0, 1, 2, 3] rfl ?_
          exact ih6_1 x34 (by
                  refine ⟨by omega, by omega, ?_⟩
                  rw [hx34, show (t + 1 - (Pr.length : Int)).toNat = (t - (Pr.length : Int)).toNat + 1 by omega, pf_take_flt _ _ hSq, hc, if_neg ?_]
                  · rfl
                  · intro z
                    have z2 : pf_no μ0 (μ0 42) (μ0 41 1) (S[(t - (Pr.length : Int)).toNat]).2 i.toNat = false := by simpa [pf_uf] using z
                    have := hr21.1 (hbit.2.mpr z2)
                    omega) (by omega)
        · skip
          refine gf_aload_n C dd_Wa_firstUnseen_27 1 rfl ?_
          refine gf_getA (r := 54) C gf_cl4 fl_Wa_11 dd_Wa_firstUnseen_28 rfl (show gf_is 81 53 0 4 6 by decide) (by decide) (by decide) ?_
          refine gf_iload_n C dd_Wa_firstUnseen_31 0 rfl ?_
          refine gf_iald C dd_Wa_firstUnseen_32 (show gf_is 81 54 1 0 88 by decide) (by omega) (fun hv32 => ?_)
          have hmk : μ 54 t = (S[(t - (Pr.length : Int)).toNat]).1 := by have := (hlk.2.1 _ _ hTq).1; rwa [show ((t.toNat : Nat) : Int) = t by omega] at this
          refine gf_iret C hQ dd_Wa_firstUnseen_33 (by omega) ?_
          refine ⟨?_, rfl⟩
          have hno : pf_no μ0 (μ0 42) (μ0 41 1) (S[(t - (Pr.length : Int)).toNat]).2 i.toNat = false := by
            apply hbit.2.mp
            by_cases z : gf_and (μ 55 t) (gf_shl 1 i) = 0
            · exact z
            · have := hr21.2 z
              omega
          have hS : S = S.take ((t - (Pr.length : Int)).toNat + 1) ++ S.drop ((t - (Pr.length : Int)).toNat + 1) := (List.take_append_drop _ _).symm
          rw [hmk]
          conv => rhs; rw [hS, List.filter_append, pf_take_flt _ _ hSq, hc, if_pos (by show (!_) = true; rw [hno]; rfl)]
          rfl
  refine gf_lsub [0, 1, 2, 3] rfl ?_
  exact L6_1 _ r2 (⟨by omega, by omega, by rw [show (r2 - (Pr.length : Int)).toNat = 0 by omega]; rfl⟩) (Nat.lt_succ_self _)

theorem dd_Wa_unseen2_0 : decode cc_Wa_unseen2 0 = .ok (.aload_n 0, 1) := by decide +kernel
theorem dd_Wa_unseen2_1 : decode cc_Wa_unseen2 1 = .ok (.iload_n 1, 1) := by decide +kernel
theorem dd_Wa_unseen2_2 : decode cc_Wa_unseen2 2 = .ok (.iconst 0, 1) := by decide +kernel
theorem dd_Wa_unseen2_3 : decode cc_Wa_unseen2 3 = .ok (.invokevirtual 53, 3) := by decide +kernel
theorem dd_Wa_unseen2_6 : decode cc_Wa_unseen2 6 = .ok (.aload_n 0, 1) := by decide +kernel
theorem dd_Wa_unseen2_7 : decode cc_Wa_unseen2 7 = .ok (.iload_n 1, 1) := by decide +kernel
theorem dd_Wa_unseen2_8 : decode cc_Wa_unseen2 8 = .ok (.iconst 1, 1) := by decide +kernel
theorem dd_Wa_unseen2_9 : decode cc_Wa_unseen2 9 = .ok (.invokevirtual 53, 3) := by decide +kernel
theorem dd_Wa_unseen2_12 : decode cc_Wa_unseen2 12 = .ok (.iadd, 1) := by decide +kernel
theorem dd_Wa_unseen2_13 : decode cc_Wa_unseen2 13 = .ok (.aload_n 0, 1) := by decide +kernel
theorem dd_Wa_unseen2_14 : decode cc_Wa_unseen2 14 = .ok (.iload_n 1, 1) := by decide +kernel
theorem dd_Wa_unseen2_15 : decode cc_Wa_unseen2 15 = .ok (.iconst 2, 1) := by decide +kernel
theorem dd_Wa_unseen2_16 : decode cc_Wa_unseen2 16 = .ok (.invokevirtual 53, 3) := by decide +kernel
theorem dd_Wa_unseen2_19 : decode cc_Wa_unseen2 19 = .ok (.iadd, 1) := by decide +kernel
theorem dd_Wa_unseen2_20 : decode cc_Wa_unseen2 20 = .ok (.ireturn, 1) := by decide +kernel
set_option maxRecDepth 100000 in
set_option maxHeartbeats 4000000 in
theorem ct_Wa_unseen2 (l : Launch) (E : gf_E) (i : Int) (μ μ0 : gf_M) (a b : Nat) (hlk : gf_lk μ0 μ a b) (hi : (a : Int) ≤ i ∧ i < b) (hb : b ≤ 7) (h88 : (pf_T (μ0 42) (μ0 41 1)).length ≤ 85) : gf_Mi l E yy_Wa_unseen2 cc_Wa_unseen2 2 .int (gf_rm 2 46) 81 gf_ref μ [.ref (gf_ad E 53), .int (gf_i i)] (fun r μ' => (r = (((pf_T (μ0 42) (μ0 41 1)).filter (pf_uf μ0 i.toNat)).length : Int) ∧ 0 ≤ r ∧ r ≤ 255) ∧ μ' = μ) := by
  refine gf_mi (by decide +kernel) (Nat.le_of_ble_eq_true rfl) (by decide) (fun X Q hlx C hQ => ?_)
  subst hlx
  replace C : gf_C X E cc_Wa_unseen2 2 "GuardFigures$Watch" (gf_rm 2 46) := C
  show gf_G X E Q 2 gf_φ μ 0 [(0, .ref (gf_ad E 53)), (1, .int (gf_i i))] []
  refine gf_aload_n C dd_Wa_unseen2_0 0 rfl ?_
  refine gf_iload_n C dd_Wa_unseen2_1 1 rfl ?_
  refine gf_iconst C dd_Wa_unseen2_2 ?_
  refine gf_callVi (st := []) (As := [.int (gf_i i), .int (gf_i 0)]) C wk_Wa_53 gf_cl4 (show gf_is 81 53 0 4 6 by decide) (ct_Wa_unseen (gf_xl X) E i 0 ((pf_sl (μ0 42) (μ0 41 1).toNat).map (fun m => (m, pf_cps (μ0 42) m))) ([]) (((pf_ex (μ0 42) 1 (μ0 41 1 - 1).toNat).map (fun k => (k, pf_cpx (μ0 42) k 1))) ++ ((pf_ex (μ0 42) 2 (μ0 41 1 - 2).toNat).map (fun k => (k, pf_cpx (μ0 42) k 2)))) μ μ0 a b hlk hi hb (by decide) (by simp only [pf_T, List.nil_append, List.append_assoc]) (Or.inl ⟨rfl, rfl⟩) (by rw [List.length_map]; simpa using hlk.2.2.1) h88) rfl ⟨rfl, rfl, rfl, rfl⟩ (Nat.le_of_ble_eq_true rfl) rfl dd_Wa_unseen2_3 (fun r3 m3 hR3 hp3 => ?_)
  have hr3 := hp3.1
  refine gf_pm hp3.2 ?_
  refine gf_aload_n C dd_Wa_unseen2_6 0 rfl ?_
  refine gf_iload_n C dd_Wa_unseen2_7 1 rfl ?_
  refine gf_iconst C dd_Wa_unseen2_8 ?_
  refine gf_callVi (st := [.int (gf_i r3)]) (As := [.int (gf_i i), .int (gf_i 1)]) C wk_Wa_53 gf_cl4 (show gf_is 81 53 0 4 6 by decide) (ct_Wa_unseen (gf_xl X) E i 1 ((pf_ex (μ0 42) 1 (μ0 41 1 - 1).toNat).map (fun k => (k, pf_cpx (μ0 42) k 1))) ((pf_sl (μ0 42) (μ0 41 1).toNat).map (fun m => (m, pf_cps (μ0 42) m))) ((pf_ex (μ0 42) 2 (μ0 41 1 - 2).toNat).map (fun k => (k, pf_cpx (μ0 42) k 2))) μ μ0 a b hlk hi hb (by decide) (rfl) (Or.inr ⟨by decide, by rw [List.length_map]; exact hlk.2.2.1⟩) (by rw [List.length_map, List.length_map]; exact hlk.2.2.2.1) h88) rfl ⟨rfl, rfl, rfl, rfl⟩ (Nat.le_of_ble_eq_true rfl) rfl dd_Wa_unseen2_9 (fun r9 m9 hR9 hp9 => ?_)
  have hr9 := hp9.1
  refine gf_pm hp9.2 ?_
  refine gf_iadd C dd_Wa_unseen2_12 ?_
  refine gf_aload_n C dd_Wa_unseen2_13 0 rfl ?_
  refine gf_iload_n C dd_Wa_unseen2_14 1 rfl ?_
  refine gf_iconst C dd_Wa_unseen2_15 ?_
  refine gf_callVi (st := [.int (gf_i (r3 + r9))]) (As := [.int (gf_i i), .int (gf_i 2)]) C wk_Wa_53 gf_cl4 (show gf_is 81 53 0 4 6 by decide) (ct_Wa_unseen (gf_xl X) E i 2 ((pf_ex (μ0 42) 2 (μ0 41 1 - 2).toNat).map (fun k => (k, pf_cpx (μ0 42) k 2))) (((pf_sl (μ0 42) (μ0 41 1).toNat).map (fun m => (m, pf_cps (μ0 42) m))) ++ ((pf_ex (μ0 42) 1 (μ0 41 1 - 1).toNat).map (fun k => (k, pf_cpx (μ0 42) k 1)))) ([]) μ μ0 a b hlk hi hb (by decide) (by rw [List.append_nil]; rfl) (Or.inr ⟨by decide, by rw [List.length_append, List.length_map, List.length_map]; exact hlk.2.2.2.1⟩) (by rw [List.length_append, List.length_map, List.length_map, List.length_map]; exact hlk.2.2.2.2.1) h88) rfl ⟨rfl, rfl, rfl, rfl⟩ (Nat.le_of_ble_eq_true rfl) rfl dd_Wa_unseen2_16 (fun r16 m16 hR16 hp16 => ?_)
  have hr16 := hp16.1
  refine gf_pm hp16.2 ?_
  refine gf_iadd C dd_Wa_unseen2_19 ?_
  refine gf_iret C hQ dd_Wa_unseen2_20 (by omega) ?_
  refine ⟨⟨?_, by omega, by omega⟩, rfl⟩
  rw [hr3.1, hr9.1, hr16.1]
  unfold pf_T
  rw [List.filter_append, List.filter_append, List.length_append, List.length_append]
  omega

theorem dd_Wa_isCoveredBy_0 : decode cc_Wa_isCoveredBy 0 = .ok (.iconst 0, 1) := by decide +kernel
theorem dd_Wa_isCoveredBy_1 : decode cc_Wa_isCoveredBy 1 = .ok (.istore_n 2, 1) := by decide +kernel
theorem dd_Wa_isCoveredBy_2 : decode cc_Wa_isCoveredBy 2 = .ok (.iload_n 2, 1) := by decide +kernel
theorem dd_Wa_isCoveredBy_3 : decode cc_Wa_isCoveredBy 3 = .ok (.aload_n 0, 1) := by decide +kernel
theorem dd_Wa_isCoveredBy_4 : decode cc_Wa_isCoveredBy 4 = .ok (.getfield 46, 3) := by decide +kernel
theorem dd_Wa_isCoveredBy_7 : decode cc_Wa_isCoveredBy 7 = .ok (.if_icmp .ge 20, 3) := by decide +kernel
theorem dd_Wa_isCoveredBy_10 : decode cc_Wa_isCoveredBy 10 = .ok (.aload_n 0, 1) := by decide +kernel
theorem dd_Wa_isCoveredBy_11 : decode cc_Wa_isCoveredBy 11 = .ok (.iload_n 2, 1) := by decide +kernel
theorem dd_Wa_isCoveredBy_12 : decode cc_Wa_isCoveredBy 12 = .ok (.iload_n 1, 1) := by decide +kernel
theorem dd_Wa_isCoveredBy_13 : decode cc_Wa_isCoveredBy 13 = .ok (.invokevirtual 61, 3) := by decide +kernel
theorem dd_Wa_isCoveredBy_16 : decode cc_Wa_isCoveredBy 16 = .ok (.ifCond .ne 5, 3) := by decide +kernel
theorem dd_Wa_isCoveredBy_19 : decode cc_Wa_isCoveredBy 19 = .ok (.iconst 0, 1) := by decide +kernel
theorem dd_Wa_isCoveredBy_20 : decode cc_Wa_isCoveredBy 20 = .ok (.ireturn, 1) := by decide +kernel
theorem dd_Wa_isCoveredBy_21 : decode cc_Wa_isCoveredBy 21 = .ok (.iinc 2 1, 3) := by decide +kernel
theorem dd_Wa_isCoveredBy_24 : decode cc_Wa_isCoveredBy 24 = .ok (.goto (-22), 3) := by decide +kernel
theorem dd_Wa_isCoveredBy_27 : decode cc_Wa_isCoveredBy 27 = .ok (.iconst 1, 1) := by decide +kernel
theorem dd_Wa_isCoveredBy_28 : decode cc_Wa_isCoveredBy 28 = .ok (.ireturn, 1) := by decide +kernel
set_option maxRecDepth 100000 in
set_option maxHeartbeats 4000000 in
theorem ct_Wa_isCoveredBy (l : Launch) (E : gf_E) (s : Int) (μ : gf_M) (hs : 0 ≤ s) (hn : 0 ≤ μ 53 2 ∧ μ 53 2 ≤ 85) (hp : ∀ t : Int, 0 ≤ t → t < μ 53 2 → 0 ≤ μ 55 t) : gf_Mi l E yy_Wa_isCoveredBy cc_Wa_isCoveredBy 3 .boolean (gf_rm 1 22) 81 gf_ref μ [.ref (gf_ad E 53), .int (gf_i s)] (fun r μ' => ((r = 1 ↔ ∀ t : Int, 0 ≤ t → t < μ 53 2 → gf_and (μ 55 t) s ≠ 0) ∧ (r = 0 ∨ r = 1)) ∧ μ' = μ) := by
  refine gf_mi (by decide +kernel) (Nat.le_of_ble_eq_true rfl) (by decide) (fun X Q hlx C hQ => ?_)
  subst hlx
  replace C : gf_C X E cc_Wa_isCoveredBy 3 "GuardFigures$Watch" (gf_rm 1 22) := C
  show gf_G X E Q 3 gf_φ μ 0 [(0, .ref (gf_ad E 53)), (1, .int (gf_i s))] []
  refine gf_iconst C dd_Wa_isCoveredBy_0 ?_
  refine gf_istore_n (lv' := [(2, .int (gf_i 0)), (0, .ref (gf_ad E 53)), (1, .int (gf_i s))]) C dd_Wa_isCoveredBy_1 (by decide) rfl ?_
  have L2_1 : ∀ (N : Nat) (t : Int) , (0 ≤ t ∧ t ≤ μ 53 2 ∧ ∀ u : Int, 0 ≤ u → u < t → gf_and (μ 55 u) s ≠ 0) → (88 - t).toNat < N → gf_G X E Q 3 gf_φ μ 2 [(2, .int (gf_i t)), (0, .ref (gf_ad E 53)), (1, .int (gf_i s))] [] := by
    intro N
    induction N with
    | zero => intro t hinv hN; exact absurd hN (Nat.not_lt_zero _)
    | succ N ih2_1 =>
      intro t hinv hN
      have hinv0 := hinv
      obtain ⟨ht0, ht1, htu⟩ := hinv
      refine gf_iload_n C dd_Wa_isCoveredBy_2 0 rfl ?_
      refine gf_aload_n C dd_Wa_isCoveredBy_3 1 rfl ?_
      refine gf_getI (z := 2) C gf_cl4 fl_Wa_46 dd_Wa_isCoveredBy_4 rfl rfl (show gf_is 81 53 0 4 6 by decide) (fun hv4 => ?_)
      refine gf_icmp_ge 27 C dd_Wa_isCoveredBy_7 (by decide) (by omega) (by omega) (fun h7 => ?_) (fun h7 => ?_)
      · skip
        refine gf_iconst C dd_Wa_isCoveredBy_27 ?_
        refine gf_zret C hQ dd_Wa_isCoveredBy_28 (by omega) ?_
        exact ⟨⟨⟨fun _ u h0 h1 => htu u h0 (by omega), fun _ => rfl⟩, by omega⟩, rfl⟩
      · skip
        refine gf_aload_n C dd_Wa_isCoveredBy_10 1 rfl ?_
        refine gf_iload_n C dd_Wa_isCoveredBy_11 0 rfl ?_
        refine gf_iload_n C dd_Wa_isCoveredBy_12 2 rfl ?_
        refine gf_callVi (st := []) (As := [.int (gf_i t), .int (gf_i s)]) C wk_Wa_61 gf_cl4 (show gf_is 81 53 0 4 6 by decide) (ct_Wa_isNoticed (gf_xl X) E t s μ (by omega) (by omega) (hp t (by omega) (by omega))) rfl ⟨rfl, rfl, rfl, rfl⟩ (Nat.le_of_ble_eq_true rfl) rfl dd_Wa_isCoveredBy_13 (fun r13 m13 hR13 hp13 => ?_)
        have hr13 := hp13.1
        refine gf_pm hp13.2 ?_
        refine gf_if_ne 21 C dd_Wa_isCoveredBy_16 (by decide) (by omega) (fun h16 => ?_) (fun h16 => ?_)
        · skip
          obtain ⟨x21, hx21⟩ : ∃ y : Int, y = t + 1 := ⟨_, rfl⟩
          refine gf_iinc (q := 0) (v := x21) (lv' := [(2, .int (gf_i x21)), (0, .ref (gf_ad E 53)), (1, .int (gf_i s))]) C dd_Wa_isCoveredBy_21 rfl hx21 (by decide) rfl ?_
          refine gf_goto 2 C dd_Wa_isCoveredBy_24 (by decide) ?_
          refine gf_lsub [0, 1, 2] rfl ?_
          exact ih2_1 x21 (by
                  refine ⟨by omega, by omega, fun u h0 h1 => ?_⟩
                  by_cases e : u = t
                  · subst e
                    intro z
                    have := hr13.1 z
                    omega
                  · exact htu u h0 (by omega)) (by omega)
        · skip
          refine gf_iconst C dd_Wa_isCoveredBy_19 ?_
          refine gf_zret C hQ dd_Wa_isCoveredBy_20 (by omega) ?_
          refine ⟨⟨⟨fun h => by omega, fun h => ?_⟩, by omega⟩, rfl⟩
          have := hr13.2 (h t (by omega) (by omega))
          omega
  refine gf_lsub [0, 1, 2] rfl ?_
  exact L2_1 _ 0 (⟨by omega, by omega, fun u h0 h1 => by omega⟩) (Nat.lt_succ_self _)
