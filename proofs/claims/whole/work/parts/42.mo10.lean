/-! the reference: the guard that notices most, who notices all -/
def gm_ua (μ : gf_M) (i : Int) : Int := ((gm_uS μ i).length : Int) + ((gm_uX μ 1 i).length : Int) + ((gm_uX μ 2 i).length : Int)
theorem gm_ua_f {μ m : gf_M} (h : ∀ b : Int, m 71 b = μ 71 b) (i : Int) : gm_ua m i = gm_ua μ i := by
  unfold gm_ua
  rw [gm_uS_f h, gm_uX_f h, gm_uX_f h]
theorem gm_nx_f {μ m : gf_M} (h : ∀ b : Int, m 71 b = μ 71 b) (hn : 0 ≤ μ 71 1 ∧ μ 71 1 ≤ 8) (hx : ∀ j : Int, 0 ≤ j → j < μ 71 1 → 0 ≤ μ 71 (24 + j) ∧ μ 71 (24 + j) ≤ 9) : (0 ≤ m 71 1 ∧ m 71 1 ≤ 8) ∧ ∀ j : Int, 0 ≤ j → j < m 71 1 → 0 ≤ m 71 (24 + j) ∧ m 71 (24 + j) ≤ 9 := by
  simp only [h]
  exact ⟨hn, hx⟩
theorem gf_or_0 {x : Int} (h : 0 ≤ x) : gf_or x 0 = x := by
  unfold gf_or
  simp
  omega
/-- who notices a copy -/
def gm_mk (μ : gf_M) (c : Int → Int) : Int := pf_set (fun i => decide (gm_rk μ i c (μ 71 1) ≠ gm_rk μ i (gm_x μ) (μ 71 1))) (μ 71 0).toNat
def gm_sn (μ : gf_M) (S : List Int) : Prop := μ 65 21 = (S.length : Int) ∧ ∀ (t : Nat) (x : Int), S[t]? = some x → μ 76 t = x
theorem gm_sn_f {μ m : gf_M} {S : List Int} (h : gm_sn μ S) (e : m 65 21 = μ 65 21) (e2 : ∀ b : Int, m 76 b = μ 76 b) : gm_sn m S := by
  unfold gm_sn at h ⊢
  simp only [e, e2]
  exact h
theorem gm_sn_app {μ m : gf_M} {S : List Int} {v : Int} (h : gm_sn μ S) (e : m 65 21 = μ 65 21 + 1) (e2 : ∀ b : Int, b ≠ μ 65 21 → m 76 b = μ 76 b) (e3 : m 76 (μ 65 21) = v) : gm_sn m (S ++ [v]) := by
  refine ⟨?_, fun t x hx => ?_⟩
  · rw [e, h.1, List.length_append]
    show _ = ((S.length + 1 : Nat) : Int)
    omega
  · have hl := h.1
    by_cases ht : t < S.length
    · rw [List.getElem?_append_left ht] at hx
      rw [e2 _ (by omega)]
      exact h.2 t x hx
    · have ht2 := (List.getElem?_eq_some_iff.mp hx).1
      rw [List.length_append] at ht2
      have : [v].length = 1 := rfl
      have et : t = S.length := by omega
      subst et
      rw [List.getElem?_append_right (Nat.le_refl _), Nat.sub_self] at hx
      have : v = x := by simpa using hx
      rw [← this, ← hl, e3]
theorem pf_pc_s : ∀ n : Nat, n < 128 → n ≠ 0 → pf_pc (gf_and n (n - 1)) = pf_pc n - 1 ∧ 0 ≤ gf_and n (n - 1) ∧ gf_and n (n - 1) < n := by decide +kernel
theorem dd_Mo_best_0 : decode cc_Mo_best 0 = .ok (.aload_n 0, 1) := by decide +kernel
theorem dd_Mo_best_1 : decode cc_Mo_best 1 = .ok (.getfield 30, 3) := by decide +kernel
theorem dd_Mo_best_4 : decode cc_Mo_best 4 = .ok (.iconst 0, 1) := by decide +kernel
theorem dd_Mo_best_5 : decode cc_Mo_best 5 = .ok (.iaload, 1) := by decide +kernel
theorem dd_Mo_best_6 : decode cc_Mo_best 6 = .ok (.ifCond .ne 6, 3) := by decide +kernel
theorem dd_Mo_best_9 : decode cc_Mo_best 9 = .ok (.bipush (-4), 2) := by decide +kernel
theorem dd_Mo_best_11 : decode cc_Mo_best 11 = .ok (.ireturn, 1) := by decide +kernel
theorem dd_Mo_best_12 : decode cc_Mo_best 12 = .ok (.iconst 0, 1) := by decide +kernel
theorem dd_Mo_best_13 : decode cc_Mo_best 13 = .ok (.istore_n 1, 1) := by decide +kernel
theorem dd_Mo_best_14 : decode cc_Mo_best 14 = .ok (.aload_n 0, 1) := by decide +kernel
theorem dd_Mo_best_15 : decode cc_Mo_best 15 = .ok (.iconst 0, 1) := by decide +kernel
theorem dd_Mo_best_16 : decode cc_Mo_best 16 = .ok (.invokevirtual 212, 3) := by decide +kernel
theorem dd_Mo_best_19 : decode cc_Mo_best 19 = .ok (.istore_n 2, 1) := by decide +kernel
theorem dd_Mo_best_20 : decode cc_Mo_best 20 = .ok (.iconst 1, 1) := by decide +kernel
theorem dd_Mo_best_21 : decode cc_Mo_best 21 = .ok (.istore_n 3, 1) := by decide +kernel
theorem dd_Mo_best_22 : decode cc_Mo_best 22 = .ok (.iload_n 3, 1) := by decide +kernel
theorem dd_Mo_best_23 : decode cc_Mo_best 23 = .ok (.aload_n 0, 1) := by decide +kernel
theorem dd_Mo_best_24 : decode cc_Mo_best 24 = .ok (.getfield 30, 3) := by decide +kernel
theorem dd_Mo_best_27 : decode cc_Mo_best 27 = .ok (.iconst 0, 1) := by decide +kernel
theorem dd_Mo_best_28 : decode cc_Mo_best 28 = .ok (.iaload, 1) := by decide +kernel
theorem dd_Mo_best_29 : decode cc_Mo_best 29 = .ok (.if_icmp .ge 41, 3) := by decide +kernel
theorem dd_Mo_best_32 : decode cc_Mo_best 32 = .ok (.aload_n 0, 1) := by decide +kernel
theorem dd_Mo_best_33 : decode cc_Mo_best 33 = .ok (.iload_n 3, 1) := by decide +kernel
theorem dd_Mo_best_34 : decode cc_Mo_best 34 = .ok (.invokevirtual 212, 3) := by decide +kernel
theorem dd_Mo_best_37 : decode cc_Mo_best 37 = .ok (.istore 4, 2) := by decide +kernel
theorem dd_Mo_best_39 : decode cc_Mo_best 39 = .ok (.iload 4, 2) := by decide +kernel
theorem dd_Mo_best_41 : decode cc_Mo_best 41 = .ok (.iload_n 2, 1) := by decide +kernel
theorem dd_Mo_best_42 : decode cc_Mo_best 42 = .ok (.if_icmp .ge 7, 3) := by decide +kernel
theorem dd_Mo_best_45 : decode cc_Mo_best 45 = .ok (.iload_n 3, 1) := by decide +kernel
theorem dd_Mo_best_46 : decode cc_Mo_best 46 = .ok (.goto 4, 3) := by decide +kernel
theorem dd_Mo_best_49 : decode cc_Mo_best 49 = .ok (.iload_n 1, 1) := by decide +kernel
theorem dd_Mo_best_50 : decode cc_Mo_best 50 = .ok (.istore_n 1, 1) := by decide +kernel
theorem dd_Mo_best_51 : decode cc_Mo_best 51 = .ok (.iload 4, 2) := by decide +kernel
theorem dd_Mo_best_53 : decode cc_Mo_best 53 = .ok (.iload_n 2, 1) := by decide +kernel
theorem dd_Mo_best_54 : decode cc_Mo_best 54 = .ok (.if_icmp .ge 8, 3) := by decide +kernel
theorem dd_Mo_best_57 : decode cc_Mo_best 57 = .ok (.iload 4, 2) := by decide +kernel
theorem dd_Mo_best_59 : decode cc_Mo_best 59 = .ok (.goto 4, 3) := by decide +kernel
theorem dd_Mo_best_62 : decode cc_Mo_best 62 = .ok (.iload_n 2, 1) := by decide +kernel
theorem dd_Mo_best_63 : decode cc_Mo_best 63 = .ok (.istore_n 2, 1) := by decide +kernel
theorem dd_Mo_best_64 : decode cc_Mo_best 64 = .ok (.iinc 3 1, 3) := by decide +kernel
theorem dd_Mo_best_67 : decode cc_Mo_best 67 = .ok (.goto (-45), 3) := by decide +kernel
theorem dd_Mo_best_70 : decode cc_Mo_best 70 = .ok (.aload_n 0, 1) := by decide +kernel
theorem dd_Mo_best_71 : decode cc_Mo_best 71 = .ok (.iload_n 2, 1) := by decide +kernel
theorem dd_Mo_best_72 : decode cc_Mo_best 72 = .ok (.putfield 64, 3) := by decide +kernel
theorem dd_Mo_best_75 : decode cc_Mo_best 75 = .ok (.iload_n 1, 1) := by decide +kernel
theorem dd_Mo_best_76 : decode cc_Mo_best 76 = .ok (.ireturn, 1) := by decide +kernel
set_option maxRecDepth 100000 in
set_option maxHeartbeats 4000000 in
theorem ct_Mo_best (l : Launch) (E : gf_E) (μ : gf_M) (hok : gm_ok μ)  : gf_Mi l E yy_Mo_best cc_Mo_best 5 .int (gf_rm 8 191) 81 gf_ref μ [.ref (gf_ad E 65)] (fun q μ' => (μ 71 0 = 0 → q = -4 ∧ μ' = μ) ∧ (μ 71 0 ≠ 0 → q = (pf_fst (gm_ua μ) (μ 71 0 - 1).toNat).1 ∧ gm_sc μ' (gm_tl μ (pf_fst (gm_ua μ) (μ 71 0 - 1).toNat).2))) := by
  refine gf_mi (by decide +kernel) (Nat.le_of_ble_eq_true rfl) (by decide) (fun X Q hlx C hQ => ?_)
  subst hlx
  replace C : gf_C X E cc_Mo_best 5 "GuardFiguresModel" (gf_rm 8 191) := C
  show gf_G X E Q 5 gf_φ μ 0 [(0, .ref (gf_ad E 65))] []
  obtain ⟨hc, hgs, hn, hx, hd⟩ := id hok
  refine gf_aload_n C dd_Mo_best_0 0 rfl ?_
  refine gf_getA (r := 71) C gf_cl7 fl_Mo_30 dd_Mo_best_1 rfl (show gf_is 81 65 0 7 26 by decide) (by decide) (by decide) ?_
  refine gf_iconst C dd_Mo_best_4 ?_
  refine gf_iald C dd_Mo_best_5 (show gf_is 81 71 1 0 392 by decide) (by omega) (fun hv5 => ?_)
  refine gf_if_ne 12 C dd_Mo_best_6 (by decide) (by omega) (fun h6 => ?_) (fun h6 => ?_)
  · skip
    refine gf_iconst C dd_Mo_best_12 ?_
    refine gf_istore_n (lv' := [(1, .int (gf_i 0)), (0, .ref (gf_ad E 65))]) C dd_Mo_best_13 (by decide) rfl ?_
    refine gf_aload_n C dd_Mo_best_14 1 rfl ?_
    refine gf_iconst C dd_Mo_best_15 ?_
    refine gf_callVi (st := []) (As := [.int (gf_i 0)]) C wk_Mo_212 gf_cl7 (show gf_is 81 65 0 7 26 by decide) (ct_Mo_allUnseen (gf_xl X) E 0 μ (gm_ok_g hok (by omega)) hn hx) rfl ⟨rfl, rfl, rfl, rfl⟩ (Nat.le_of_ble_eq_true rfl) rfl dd_Mo_best_16 (fun r16 m16 hR16 hp16 => ?_)
    obtain ⟨hr16, hs16⟩ := hp16
    refine gf_istore_n (lv' := [(2, .int (gf_i r16)), (1, .int (gf_i 0)), (0, .ref (gf_ad E 65))]) C dd_Mo_best_19 (by decide) rfl ?_
    refine gf_iconst C dd_Mo_best_20 ?_
    refine gf_istore_n (lv' := [(3, .int (gf_i 1)), (2, .int (gf_i r16)), (1, .int (gf_i 0)), (0, .ref (gf_ad E 65))]) C dd_Mo_best_21 (by decide) rfl ?_
    have L22_1 : ∀ (N : Nat) (b f i : Int) (m : gf_M) , (1 ≤ i ∧ i ≤ μ 71 0 ∧ b = (pf_fst (gm_ua μ) (i - 1).toNat).1 ∧ f = (pf_fst (gm_ua μ) (i - 1).toNat).2 ∧ (0 ≤ f ∧ f ≤ 88) ∧ (0 ≤ b ∧ b ≤ 7) ∧ gm_sc m μ) → (7 - i).toNat < N → gf_G X E Q 5 gf_φ m 22 [(1, .int (gf_i b)), (2, .int (gf_i f)), (3, .int (gf_i i)), (0, .ref (gf_ad E 65))] [] := by
      intro N
      induction N with
      | zero => intro b f i m hinv hN; exact absurd hN (Nat.not_lt_zero _)
      | succ N ih22_1 =>
        intro b f i m hinv hN
        have hinv0 := hinv
        obtain ⟨hi1, hi2, hb, hf, hfR, hbR, hsc⟩ := hinv
        have q71 := gm_sc_71 hsc
        have q0 := q71 0
        have hnx := gm_nx_f q71 hn hx
        refine gf_iload_n C dd_Mo_best_22 2 rfl ?_
        refine gf_aload_n C dd_Mo_best_23 3 rfl ?_
        refine gf_getA (r := 71) C gf_cl7 fl_Mo_30 dd_Mo_best_24 rfl (show gf_is 81 65 0 7 26 by decide) (by decide) (by decide) ?_
        refine gf_iconst C dd_Mo_best_27 ?_
        refine gf_iald C dd_Mo_best_28 (show gf_is 81 71 1 0 392 by decide) (by omega) (fun hv28 => ?_)
        refine gf_icmp_ge 70 C dd_Mo_best_29 (by decide) (by omega) (by omega) (fun h29 => ?_) (fun h29 => ?_)
        · skip
          refine gf_aload_n C dd_Mo_best_70 3 rfl ?_
          refine gf_iload_n C dd_Mo_best_71 1 rfl ?_
          refine gf_putI (z := 4) C gf_cl7 fl_Mo_64 dd_Mo_best_72 rfl rfl rfl (by decide +kernel) (show gf_is 81 65 0 7 26 by decide) (by omega) ?_
          refine gf_nmM (fun m72 hm72 => ?_)
          refine gf_iload_n C dd_Mo_best_75 0 rfl ?_
          refine gf_iret C hQ dd_Mo_best_76 (by omega) ?_
          have ei : i = μ 71 0 := by omega
          rw [ei] at hb hf
          refine ⟨fun h => absurd h (by omega), fun _ => ⟨hb, ?_⟩⟩
          rw [← hf]
          exact gm_sc_tl hsc hm72
        · skip
          refine gf_aload_n C dd_Mo_best_32 3 rfl ?_
          refine gf_iload_n C dd_Mo_best_33 2 rfl ?_
          refine gf_callVi (st := []) (As := [.int (gf_i i)]) C wk_Mo_212 gf_cl7 (show gf_is 81 65 0 7 26 by decide) (ct_Mo_allUnseen (gf_xl X) E i m (gm_okg_f (gm_ok_g hok (by omega)) q71) hnx.1 hnx.2) rfl ⟨rfl, rfl, rfl, rfl⟩ (Nat.le_of_ble_eq_true rfl) rfl dd_Mo_best_34 (fun r34 m34 hR34 hp34 => ?_)
          obtain ⟨hr34, hs34⟩ := hp34
          refine gf_istore (lv' := [(4, .int (gf_i r34)), (1, .int (gf_i b)), (2, .int (gf_i f)), (3, .int (gf_i i)), (0, .ref (gf_ad E 65))]) C dd_Mo_best_37 (by decide) rfl ?_
          refine gf_iload C dd_Mo_best_39 0 rfl ?_
          refine gf_iload_n C dd_Mo_best_41 2 rfl ?_
          refine gf_icmp_ge 49 C dd_Mo_best_42 (by decide) (by omega) (by omega) (fun h42 => ?_) (fun h42 => ?_)
          · skip
            refine gf_iload_n C dd_Mo_best_49 1 rfl ?_
            refine gf_istore_n (lv' := [(1, .int (gf_i b)), (4, .int (gf_i r34)), (2, .int (gf_i f)), (3, .int (gf_i i)), (0, .ref (gf_ad E 65))]) C dd_Mo_best_50 (by decide) rfl ?_
            refine gf_iload C dd_Mo_best_51 1 rfl ?_
            refine gf_iload_n C dd_Mo_best_53 2 rfl ?_
            refine gf_icmp_ge 62 C dd_Mo_best_54 (by decide) (by omega) (by omega) (fun h54 => ?_) (fun h54 => ?_)
            · skip
              refine gf_iload_n C dd_Mo_best_62 2 rfl ?_
              refine gf_istore_n (lv' := [(2, .int (gf_i f)), (1, .int (gf_i b)), (4, .int (gf_i r34)), (3, .int (gf_i i)), (0, .ref (gf_ad E 65))]) C dd_Mo_best_63 (by decide) rfl ?_
              obtain ⟨x64, hx64⟩ : ∃ y : Int, y = i + 1 := ⟨_, rfl⟩
              refine gf_iinc (q := 3) (v := x64) (lv' := [(3, .int (gf_i x64)), (2, .int (gf_i f)), (1, .int (gf_i b)), (4, .int (gf_i r34)), (0, .ref (gf_ad E 65))]) C dd_Mo_best_64 rfl hx64 (by decide) rfl ?_
              refine gf_goto 22 C dd_Mo_best_67 (by decide) ?_
              refine gf_lsub [2, 1, 0, 4] rfl ?_
              exact ih22_1 b f x64 m34 (by
                      have hu : r34 = gm_ua μ i := by rw [← gm_ua_f q71]; exact hr34.1
                      refine ⟨by omega, by omega, ?_, ?_, by omega, by omega, gm_sc_tr hs34 hsc⟩
                      all_goals rw [show x64 - 1 = i by omega, pf_fst_s hi1, ← hu, ← hf]
                      all_goals first | (exfalso; omega) | (rw [if_pos (by omega)]; done) | (rw [if_neg (by omega)]; first | exact hb | exact hf)) (by omega)
            · skip
              refine gf_iload C dd_Mo_best_57 1 rfl ?_
              refine gf_goto 63 C dd_Mo_best_59 (by decide) ?_
              refine gf_istore_n (lv' := [(2, .int (gf_i r34)), (1, .int (gf_i b)), (4, .int (gf_i r34)), (3, .int (gf_i i)), (0, .ref (gf_ad E 65))]) C dd_Mo_best_63 (by decide) rfl ?_
              obtain ⟨x64, hx64⟩ : ∃ y : Int, y = i + 1 := ⟨_, rfl⟩
              refine gf_iinc (q := 3) (v := x64) (lv' := [(3, .int (gf_i x64)), (2, .int (gf_i r34)), (1, .int (gf_i b)), (4, .int (gf_i r34)), (0, .ref (gf_ad E 65))]) C dd_Mo_best_64 rfl hx64 (by decide) rfl ?_
              refine gf_goto 22 C dd_Mo_best_67 (by decide) ?_
              refine gf_lsub [2, 1, 0, 4] rfl ?_
              exact ih22_1 b r34 x64 m34 (by
                      have hu : r34 = gm_ua μ i := by rw [← gm_ua_f q71]; exact hr34.1
                      refine ⟨by omega, by omega, ?_, ?_, by omega, by omega, gm_sc_tr hs34 hsc⟩
                      all_goals rw [show x64 - 1 = i by omega, pf_fst_s hi1, ← hu, ← hf]
                      all_goals first | (exfalso; omega) | (rw [if_pos (by omega)]; done) | (rw [if_neg (by omega)]; first | exact hb | exact hf)) (by omega)
          · skip
            refine gf_iload_n C dd_Mo_best_45 3 rfl ?_
            refine gf_goto 50 C dd_Mo_best_46 (by decide) ?_
            refine gf_istore_n (lv' := [(1, .int (gf_i i)), (4, .int (gf_i r34)), (2, .int (gf_i f)), (3, .int (gf_i i)), (0, .ref (gf_ad E 65))]) C dd_Mo_best_50 (by decide) rfl ?_
            refine gf_iload C dd_Mo_best_51 1 rfl ?_
            refine gf_iload_n C dd_Mo_best_53 2 rfl ?_
            refine gf_icmp_ge 62 C dd_Mo_best_54 (by decide) (by omega) (by omega) (fun h54 => ?_) (fun h54 => ?_)
            · skip
              refine gf_iload_n C dd_Mo_best_62 2 rfl ?_
              refine gf_istore_n (lv' := [(2, .int (gf_i f)), (1, .int (gf_i i)), (4, .int (gf_i r34)), (3, .int (gf_i i)), (0, .ref (gf_ad E 65))]) C dd_Mo_best_63 (by decide) rfl ?_
              obtain ⟨x64, hx64⟩ : ∃ y : Int, y = i + 1 := ⟨_, rfl⟩
              refine gf_iinc (q := 3) (v := x64) (lv' := [(3, .int (gf_i x64)), (2, .int (gf_i f)), (1, .int (gf_i i)), (4, .int (gf_i r34)), (0, .ref (gf_ad E 65))]) C dd_Mo_best_64 rfl hx64 (by decide) rfl ?_
              refine gf_goto 22 C dd_Mo_best_67 (by decide) ?_
              refine gf_lsub [2, 1, 0, 4] rfl ?_
              exact ih22_1 i f x64 m34 (by
                      have hu : r34 = gm_ua μ i := by rw [← gm_ua_f q71]; exact hr34.1
                      refine ⟨by omega, by omega, ?_, ?_, by omega, by omega, gm_sc_tr hs34 hsc⟩
                      all_goals rw [show x64 - 1 = i by omega, pf_fst_s hi1, ← hu, ← hf]
                      all_goals first | (exfalso; omega) | (rw [if_pos (by omega)]; done) | (rw [if_neg (by omega)]; first | exact hb | exact hf)) (by omega)
            · skip
              refine gf_iload C dd_Mo_best_57 1 rfl ?_
              refine gf_goto 63 C dd_Mo_best_59 (by decide) ?_
              refine gf_istore_n (lv' := [(2, .int (gf_i r34)), (1, .int (gf_i i)), (4, .int (gf_i r34)), (3, .int (gf_i i)), (0, .ref (gf_ad E 65))]) C dd_Mo_best_63 (by decide) rfl ?_
              obtain ⟨x64, hx64⟩ : ∃ y : Int, y = i + 1 := ⟨_, rfl⟩
              refine gf_iinc (q := 3) (v := x64) (lv' := [(3, .int (gf_i x64)), (2, .int (gf_i r34)), (1, .int (gf_i i)), (4, .int (gf_i r34)), (0, .ref (gf_ad E 65))]) C dd_Mo_best_64 rfl hx64 (by decide) rfl ?_
              refine gf_goto 22 C dd_Mo_best_67 (by decide) ?_
              refine gf_lsub [2, 1, 0, 4] rfl ?_
              exact ih22_1 i r34 x64 m34 (by
                      have hu : r34 = gm_ua μ i := by rw [← gm_ua_f q71]; exact hr34.1
                      refine ⟨by omega, by omega, ?_, ?_, by omega, by omega, gm_sc_tr hs34 hsc⟩
                      all_goals rw [show x64 - 1 = i by omega, pf_fst_s hi1, ← hu, ← hf]
                      all_goals first | (exfalso; omega) | (rw [if_pos (by omega)]; done) | (rw [if_neg (by omega)]; first | exact hb | exact hf)) (by omega)
    refine gf_lsub [2, 1, 0, 3] rfl ?_
    exact L22_1 _ 0 r16 1 m16 (⟨by omega, by omega, rfl, hr16.1, by omega, by omega, hs16⟩) (Nat.lt_succ_self _)
  · skip
    refine gf_bipush C dd_Mo_best_9 (by decide +kernel) ?_
    refine gf_iret C hQ dd_Mo_best_11 (by omega) ?_
    exact ⟨fun _ => ⟨rfl, rfl⟩, fun h => absurd h (by omega)⟩

theorem dd_Mo_ones_0 : decode cc_Mo_ones 0 = .ok (.iconst 0, 1) := by decide +kernel
theorem dd_Mo_ones_1 : decode cc_Mo_ones 1 = .ok (.istore_n 1, 1) := by decide +kernel
theorem dd_Mo_ones_2 : decode cc_Mo_ones 2 = .ok (.iload_n 0, 1) := by decide +kernel
theorem dd_Mo_ones_3 : decode cc_Mo_ones 3 = .ok (.istore_n 2, 1) := by decide +kernel
theorem dd_Mo_ones_4 : decode cc_Mo_ones 4 = .ok (.iload_n 2, 1) := by decide +kernel
theorem dd_Mo_ones_5 : decode cc_Mo_ones 5 = .ok (.ifCond .eq 15, 3) := by decide +kernel
theorem dd_Mo_ones_8 : decode cc_Mo_ones 8 = .ok (.iinc 1 1, 3) := by decide +kernel
theorem dd_Mo_ones_11 : decode cc_Mo_ones 11 = .ok (.iload_n 2, 1) := by decide +kernel
theorem dd_Mo_ones_12 : decode cc_Mo_ones 12 = .ok (.iload_n 2, 1) := by decide +kernel
theorem dd_Mo_ones_13 : decode cc_Mo_ones 13 = .ok (.iconst 1, 1) := by decide +kernel
theorem dd_Mo_ones_14 : decode cc_Mo_ones 14 = .ok (.isub, 1) := by decide +kernel
theorem dd_Mo_ones_15 : decode cc_Mo_ones 15 = .ok (.iand, 1) := by decide +kernel
theorem dd_Mo_ones_16 : decode cc_Mo_ones 16 = .ok (.istore_n 2, 1) := by decide +kernel
theorem dd_Mo_ones_17 : decode cc_Mo_ones 17 = .ok (.goto (-13), 3) := by decide +kernel
theorem dd_Mo_ones_20 : decode cc_Mo_ones 20 = .ok (.iload_n 1, 1) := by decide +kernel
theorem dd_Mo_ones_21 : decode cc_Mo_ones 21 = .ok (.ireturn, 1) := by decide +kernel
set_option maxRecDepth 100000 in
set_option maxHeartbeats 4000000 in
theorem ct_Mo_ones (l : Launch) (E : gf_E) (x : Int) (μ : gf_M) (hx : 0 ≤ x ∧ x < 128) : gf_Mi l E yy_Mo_ones cc_Mo_ones 3 .int (gf_rm 0 0) 81 gf_ref μ [.int (gf_i x)] (fun q μ' => (q = pf_pc x ∧ 0 ≤ q ∧ q ≤ 7) ∧ μ' = μ) := by
  refine gf_mi (by decide +kernel) (Nat.le_of_ble_eq_true rfl) (by decide) (fun X Q hlx C hQ => ?_)
  subst hlx
  replace C : gf_C X E cc_Mo_ones 3 "GuardFiguresModel" (gf_rm 0 0) := C
  show gf_G X E Q 3 gf_φ μ 0 [(0, .int (gf_i x))] []
  have hxR := (pf_pc_R x.toNat (by omega)).2.2.2.2.2
  rw [show ((x.toNat : Nat) : Int) = x by omega] at hxR
  refine gf_iconst C dd_Mo_ones_0 ?_
  refine gf_istore_n (lv' := [(1, .int (gf_i 0)), (0, .int (gf_i x))]) C dd_Mo_ones_1 (by decide) rfl ?_
  refine gf_iload_n C dd_Mo_ones_2 1 rfl ?_
  refine gf_istore_n (lv' := [(2, .int (gf_i x)), (1, .int (gf_i 0)), (0, .int (gf_i x))]) C dd_Mo_ones_3 (by decide) rfl ?_
  have L4_1 : ∀ (N : Nat) (n s : Int) , (0 ≤ s ∧ s < 128 ∧ n + pf_pc s = pf_pc x ∧ 0 ≤ n ∧ n ≤ 7) → s.toNat < N → gf_G X E Q 3 gf_φ μ 4 [(1, .int (gf_i n)), (2, .int (gf_i s)), (0, .int (gf_i x))] [] := by
    intro N
    induction N with
    | zero => intro n s hinv hN; exact absurd hN (Nat.not_lt_zero _)
    | succ N ih4_1 =>
      intro n s hinv hN
      have hinv0 := hinv
      obtain ⟨hs0, hs1, hns, hn0, hn7⟩ := hinv
      have hsR := (pf_pc_R s.toNat (by omega)).2.2.2.2.2
      rw [show ((s.toNat : Nat) : Int) = s by omega] at hsR
      refine gf_iload_n C dd_Mo_ones_4 1 rfl ?_
      refine gf_if_eq 20 C dd_Mo_ones_5 (by decide) (by omega) (fun h5 => ?_) (fun h5 => ?_)
      · skip
        refine gf_iload_n C dd_Mo_ones_20 0 rfl ?_
        refine gf_iret C hQ dd_Mo_ones_21 (by omega) ?_
        have h0 : pf_pc s = 0 := by rw [h5]; decide
        exact ⟨⟨by omega, by omega, by omega⟩, rfl⟩
      · skip
        obtain ⟨x8, hx8⟩ : ∃ y : Int, y = n + 1 := ⟨_, rfl⟩
        refine gf_iinc (q := 0) (v := x8) (lv' := [(1, .int (gf_i x8)), (2, .int (gf_i s)), (0, .int (gf_i x))]) C dd_Mo_ones_8 rfl hx8 (by decide) rfl ?_
        refine gf_iload_n C dd_Mo_ones_11 1 rfl ?_
        refine gf_iload_n C dd_Mo_ones_12 1 rfl ?_
        refine gf_iconst C dd_Mo_ones_13 ?_
        refine gf_isub C dd_Mo_ones_14 ?_
        refine gf_iand C dd_Mo_ones_15 (by omega) ?_
        refine gf_nm (fun x16 hx16 => ?_)
        refine gf_istore_n (lv' := [(2, .int (gf_i x16)), (1, .int (gf_i x8)), (0, .int (gf_i x))]) C dd_Mo_ones_16 (by decide) rfl ?_
        refine gf_goto 4 C dd_Mo_ones_17 (by decide) ?_
        refine gf_lsub [1, 0, 2] rfl ?_
        exact ih4_1 x8 x16 (by
                have hk := pf_pc_s s.toNat (by omega) (by omega)
                rw [show ((s.toNat : Nat) : Int) = s by omega] at hk
                rw [← hx16] at hk
                have hkR := (pf_pc_R x16.toNat (by omega)).2.2.2.2.2
                rw [show ((x16.toNat : Nat) : Int) = x16 by omega] at hkR
                omega) (by
                have hk := pf_pc_s s.toNat (by omega) (by omega)
                rw [show ((s.toNat : Nat) : Int) = s by omega] at hk
                rw [← hx16] at hk
                omega)
  refine gf_lsub [1, 0, 2] rfl ?_
  exact L4_1 _ 0 x (⟨by omega, by omega, by omega, by omega, by omega⟩) (Nat.lt_succ_self _)

theorem dd_Mo_isCover_0 : decode cc_Mo_isCover 0 = .ok (.iconst 0, 1) := by decide +kernel
theorem dd_Mo_isCover_1 : decode cc_Mo_isCover 1 = .ok (.istore_n 2, 1) := by decide +kernel
theorem dd_Mo_isCover_2 : decode cc_Mo_isCover 2 = .ok (.iload_n 2, 1) := by decide +kernel
theorem dd_Mo_isCover_3 : decode cc_Mo_isCover 3 = .ok (.aload_n 0, 1) := by decide +kernel
theorem dd_Mo_isCover_4 : decode cc_Mo_isCover 4 = .ok (.getfield 215, 3) := by decide +kernel
theorem dd_Mo_isCover_7 : decode cc_Mo_isCover 7 = .ok (.if_icmp .ge 22, 3) := by decide +kernel
theorem dd_Mo_isCover_10 : decode cc_Mo_isCover 10 = .ok (.aload_n 0, 1) := by decide +kernel
theorem dd_Mo_isCover_11 : decode cc_Mo_isCover 11 = .ok (.getfield 45, 3) := by decide +kernel
theorem dd_Mo_isCover_14 : decode cc_Mo_isCover 14 = .ok (.iload_n 2, 1) := by decide +kernel
theorem dd_Mo_isCover_15 : decode cc_Mo_isCover 15 = .ok (.iaload, 1) := by decide +kernel
theorem dd_Mo_isCover_16 : decode cc_Mo_isCover 16 = .ok (.iload_n 1, 1) := by decide +kernel
theorem dd_Mo_isCover_17 : decode cc_Mo_isCover 17 = .ok (.iand, 1) := by decide +kernel
theorem dd_Mo_isCover_18 : decode cc_Mo_isCover 18 = .ok (.ifCond .ne 5, 3) := by decide +kernel
theorem dd_Mo_isCover_21 : decode cc_Mo_isCover 21 = .ok (.iconst 0, 1) := by decide +kernel
theorem dd_Mo_isCover_22 : decode cc_Mo_isCover 22 = .ok (.ireturn, 1) := by decide +kernel
theorem dd_Mo_isCover_23 : decode cc_Mo_isCover 23 = .ok (.iinc 2 1, 3) := by decide +kernel
theorem dd_Mo_isCover_26 : decode cc_Mo_isCover 26 = .ok (.goto (-24), 3) := by decide +kernel
theorem dd_Mo_isCover_29 : decode cc_Mo_isCover 29 = .ok (.iconst 1, 1) := by decide +kernel
theorem dd_Mo_isCover_30 : decode cc_Mo_isCover 30 = .ok (.ireturn, 1) := by decide +kernel
set_option maxRecDepth 100000 in
set_option maxHeartbeats 4000000 in
theorem ct_Mo_isCover (l : Launch) (E : gf_E) (s : Int) (μ : gf_M) (hs : 0 ≤ s) (hn : 0 ≤ μ 65 21 ∧ μ 65 21 ≤ 85) (hp : ∀ t : Int, 0 ≤ t → t < μ 65 21 → 0 ≤ μ 76 t) : gf_Mi l E yy_Mo_isCover cc_Mo_isCover 3 .boolean (gf_rm 0 0) 81 gf_ref μ [.ref (gf_ad E 65), .int (gf_i s)] (fun r μ' => ((r = 1 ↔ ∀ t : Int, 0 ≤ t → t < μ 65 21 → gf_and (μ 76 t) s ≠ 0) ∧ (r = 0 ∨ r = 1)) ∧ μ' = μ) := by
  refine gf_mi (by decide +kernel) (Nat.le_of_ble_eq_true rfl) (by decide) (fun X Q hlx C hQ => ?_)
  subst hlx
  replace C : gf_C X E cc_Mo_isCover 3 "GuardFiguresModel" (gf_rm 0 0) := C
  show gf_G X E Q 3 gf_φ μ 0 [(0, .ref (gf_ad E 65)), (1, .int (gf_i s))] []
  refine gf_iconst C dd_Mo_isCover_0 ?_
  refine gf_istore_n (lv' := [(2, .int (gf_i 0)), (0, .ref (gf_ad E 65)), (1, .int (gf_i s))]) C dd_Mo_isCover_1 (by decide) rfl ?_
  have L2_1 : ∀ (N : Nat) (t : Int) , (0 ≤ t ∧ t ≤ μ 65 21 ∧ ∀ j : Int, 0 ≤ j → j < t → gf_and (μ 76 j) s ≠ 0) → (85 - t).toNat < N → gf_G X E Q 3 gf_φ μ 2 [(2, .int (gf_i t)), (0, .ref (gf_ad E 65)), (1, .int (gf_i s))] [] := by
    intro N
    induction N with
    | zero => intro t hinv hN; exact absurd hN (Nat.not_lt_zero _)
    | succ N ih2_1 =>
      intro t hinv hN
      have hinv0 := hinv
      obtain ⟨ht0, ht1, htl⟩ := hinv
      refine gf_iload_n C dd_Mo_isCover_2 0 rfl ?_
      refine gf_aload_n C dd_Mo_isCover_3 1 rfl ?_
      refine gf_getI (z := 21) C gf_cl7 fl_Mo_215 dd_Mo_isCover_4 rfl rfl (show gf_is 81 65 0 7 26 by decide) (fun hv4 => ?_)
      refine gf_icmp_ge 29 C dd_Mo_isCover_7 (by decide) (by omega) (by omega) (fun h7 => ?_) (fun h7 => ?_)
      · skip
        refine gf_iconst C dd_Mo_isCover_29 ?_
        refine gf_zret C hQ dd_Mo_isCover_30 (by omega) ?_
        have et : t = μ 65 21 := by omega
        rw [et] at htl
        exact ⟨⟨⟨fun _ => htl, fun _ => rfl⟩, Or.inr rfl⟩, rfl⟩
      · skip
        refine gf_aload_n C dd_Mo_isCover_10 1 rfl ?_
        refine gf_getA (r := 76) C gf_cl7 fl_Mo_45 dd_Mo_isCover_11 rfl (show gf_is 81 65 0 7 26 by decide) (by decide) (by decide) ?_
        refine gf_iload_n C dd_Mo_isCover_14 0 rfl ?_
        refine gf_iald C dd_Mo_isCover_15 (show gf_is 81 76 1 0 85 by decide) (by omega) (fun hv15 => ?_)
        refine gf_iload_n C dd_Mo_isCover_16 2 rfl ?_
        have h76 := hp t (by omega) (by omega)
        have hanR : 0 ≤ gf_and (μ 76 t) s ∧ gf_and (μ 76 t) s ≤ 2147483647 := by
          unfold gf_and
          have := Nat.and_le_left (n := (μ 76 t).toNat) (m := s.toNat)
          omega
        refine gf_iand C dd_Mo_isCover_17 (by omega) ?_
        refine gf_if_ne 23 C dd_Mo_isCover_18 (by decide) (by omega) (fun h18 => ?_) (fun h18 => ?_)
        · skip
          obtain ⟨x23, hx23⟩ : ∃ y : Int, y = t + 1 := ⟨_, rfl⟩
          refine gf_iinc (q := 0) (v := x23) (lv' := [(2, .int (gf_i x23)), (0, .ref (gf_ad E 65)), (1, .int (gf_i s))]) C dd_Mo_isCover_23 rfl hx23 (by decide) rfl ?_
          refine gf_goto 2 C dd_Mo_isCover_26 (by decide) ?_
          refine gf_lsub [0, 1, 2] rfl ?_
          exact ih2_1 x23 (⟨by omega, by omega, fun j h0 h1 => by
                  by_cases e : j = t
                  · rw [e]; exact h18
                  · exact htl j h0 (by omega)⟩) (by omega)
        · skip
          refine gf_iconst C dd_Mo_isCover_21 ?_
          refine gf_zret C hQ dd_Mo_isCover_22 (by omega) ?_
          refine ⟨⟨⟨fun h => absurd h (by decide), fun h => absurd (by omega) (h t ht0 (by omega))⟩, Or.inl rfl⟩, rfl⟩
  refine gf_lsub [0, 1, 2] rfl ?_
  exact L2_1 _ 0 (⟨by omega, by omega, fun j h0 h1 => by omega⟩) (Nat.lt_succ_self _)

theorem dd_Mo_seeThing_0 : decode cc_Mo_seeThing 0 = .ok (.iconst 0, 1) := by decide +kernel
theorem dd_Mo_seeThing_1 : decode cc_Mo_seeThing 1 = .ok (.istore_n 1, 1) := by decide +kernel
theorem dd_Mo_seeThing_2 : decode cc_Mo_seeThing 2 = .ok (.iconst 0, 1) := by decide +kernel
theorem dd_Mo_seeThing_3 : decode cc_Mo_seeThing 3 = .ok (.istore_n 2, 1) := by decide +kernel
theorem dd_Mo_seeThing_4 : decode cc_Mo_seeThing 4 = .ok (.iload_n 2, 1) := by decide +kernel
theorem dd_Mo_seeThing_5 : decode cc_Mo_seeThing 5 = .ok (.aload_n 0, 1) := by decide +kernel
theorem dd_Mo_seeThing_6 : decode cc_Mo_seeThing 6 = .ok (.getfield 30, 3) := by decide +kernel
theorem dd_Mo_seeThing_9 : decode cc_Mo_seeThing 9 = .ok (.iconst 0, 1) := by decide +kernel
theorem dd_Mo_seeThing_10 : decode cc_Mo_seeThing 10 = .ok (.iaload, 1) := by decide +kernel
theorem dd_Mo_seeThing_11 : decode cc_Mo_seeThing 11 = .ok (.if_icmp .ge 41, 3) := by decide +kernel
theorem dd_Mo_seeThing_14 : decode cc_Mo_seeThing 14 = .ok (.iload_n 1, 1) := by decide +kernel
theorem dd_Mo_seeThing_15 : decode cc_Mo_seeThing 15 = .ok (.aload_n 0, 1) := by decide +kernel
theorem dd_Mo_seeThing_16 : decode cc_Mo_seeThing 16 = .ok (.iload_n 2, 1) := by decide +kernel
theorem dd_Mo_seeThing_17 : decode cc_Mo_seeThing 17 = .ok (.aload_n 0, 1) := by decide +kernel
theorem dd_Mo_seeThing_18 : decode cc_Mo_seeThing 18 = .ok (.getfield 36, 3) := by decide +kernel
theorem dd_Mo_seeThing_21 : decode cc_Mo_seeThing 21 = .ok (.aload_n 0, 1) := by decide +kernel
theorem dd_Mo_seeThing_22 : decode cc_Mo_seeThing 22 = .ok (.getfield 146, 3) := by decide +kernel
theorem dd_Mo_seeThing_25 : decode cc_Mo_seeThing 25 = .ok (.invokevirtual 152, 3) := by decide +kernel
theorem dd_Mo_seeThing_28 : decode cc_Mo_seeThing 28 = .ok (.aload_n 0, 1) := by decide +kernel
theorem dd_Mo_seeThing_29 : decode cc_Mo_seeThing 29 = .ok (.getfield 48, 3) := by decide +kernel
theorem dd_Mo_seeThing_32 : decode cc_Mo_seeThing 32 = .ok (.iload_n 2, 1) := by decide +kernel
theorem dd_Mo_seeThing_33 : decode cc_Mo_seeThing 33 = .ok (.iaload, 1) := by decide +kernel
theorem dd_Mo_seeThing_34 : decode cc_Mo_seeThing 34 = .ok (.if_icmp .eq 9, 3) := by decide +kernel
theorem dd_Mo_seeThing_37 : decode cc_Mo_seeThing 37 = .ok (.iconst 1, 1) := by decide +kernel
theorem dd_Mo_seeThing_38 : decode cc_Mo_seeThing 38 = .ok (.iload_n 2, 1) := by decide +kernel
theorem dd_Mo_seeThing_39 : decode cc_Mo_seeThing 39 = .ok (.ishl, 1) := by decide +kernel
theorem dd_Mo_seeThing_40 : decode cc_Mo_seeThing 40 = .ok (.goto 4, 3) := by decide +kernel
theorem dd_Mo_seeThing_43 : decode cc_Mo_seeThing 43 = .ok (.iconst 0, 1) := by decide +kernel
theorem dd_Mo_seeThing_44 : decode cc_Mo_seeThing 44 = .ok (.ior, 1) := by decide +kernel
theorem dd_Mo_seeThing_45 : decode cc_Mo_seeThing 45 = .ok (.istore_n 1, 1) := by decide +kernel
theorem dd_Mo_seeThing_46 : decode cc_Mo_seeThing 46 = .ok (.iinc 2 1, 3) := by decide +kernel
theorem dd_Mo_seeThing_49 : decode cc_Mo_seeThing 49 = .ok (.goto (-45), 3) := by decide +kernel
theorem dd_Mo_seeThing_52 : decode cc_Mo_seeThing 52 = .ok (.aload_n 0, 1) := by decide +kernel
theorem dd_Mo_seeThing_53 : decode cc_Mo_seeThing 53 = .ok (.getfield 45, 3) := by decide +kernel
theorem dd_Mo_seeThing_56 : decode cc_Mo_seeThing 56 = .ok (.aload_n 0, 1) := by decide +kernel
theorem dd_Mo_seeThing_57 : decode cc_Mo_seeThing 57 = .ok (.getfield 215, 3) := by decide +kernel
theorem dd_Mo_seeThing_60 : decode cc_Mo_seeThing 60 = .ok (.iload_n 1, 1) := by decide +kernel
theorem dd_Mo_seeThing_61 : decode cc_Mo_seeThing 61 = .ok (.iastore, 1) := by decide +kernel
theorem dd_Mo_seeThing_62 : decode cc_Mo_seeThing 62 = .ok (.aload_n 0, 1) := by decide +kernel
theorem dd_Mo_seeThing_63 : decode cc_Mo_seeThing 63 = .ok (.dup, 1) := by decide +kernel
theorem dd_Mo_seeThing_64 : decode cc_Mo_seeThing 64 = .ok (.getfield 215, 3) := by decide +kernel
theorem dd_Mo_seeThing_67 : decode cc_Mo_seeThing 67 = .ok (.iconst 1, 1) := by decide +kernel
theorem dd_Mo_seeThing_68 : decode cc_Mo_seeThing 68 = .ok (.iadd, 1) := by decide +kernel
theorem dd_Mo_seeThing_69 : decode cc_Mo_seeThing 69 = .ok (.putfield 215, 3) := by decide +kernel
theorem dd_Mo_seeThing_72 : decode cc_Mo_seeThing 72 = .ok (.return_, 1) := by decide +kernel
set_option maxRecDepth 100000 in
set_option maxHeartbeats 4000000 in
theorem ct_Mo_seeThing (l : Launch) (E : gf_E) (S : List Int) (μ : gf_M) (hc : 0 ≤ μ 71 0 ∧ μ 71 0 ≤ 7) (hgs : ∀ i : Int, 0 ≤ i → i < μ 71 0 → gm_okg μ i) (hn : 0 ≤ μ 65 15 ∧ μ 65 15 ≤ 8) (hF : ∀ j : Int, 0 ≤ j → j < μ 65 15 → 0 ≤ μ 73 j ∧ μ 73 j ≤ 9) (hS : gm_sn μ S) (hS2 : S.length < 85) : gf_Mv l E yy_Mo_seeThing cc_Mo_seeThing 3 (gf_rm 4 100) 81 gf_ref 0 0 81 gf_ref μ [.ref (gf_ad E 65)] (fun μ' => gm_sn μ' (S ++ [pf_set (fun i => decide (gm_rk μ i (μ 73) (μ 65 15) ≠ μ 77 i)) (μ 71 0).toNat]) ∧ ∀ a b : Int, ¬ (a = 65 ∧ b = 21) → a ≠ 76 → μ' a b = μ a b) := by
  refine gf_mv (by decide +kernel) (Nat.le_of_ble_eq_true rfl) (by decide) (fun X Q hlx C hname hQ => ?_)
  subst hlx
  replace C : gf_C X E cc_Mo_seeThing 3 "GuardFiguresModel" (gf_rm 4 100) := C
  show gf_G X E Q 3 gf_φ μ 0 [(0, .ref (gf_ad E 65))] []
  have hS1 := hS.1
  refine gf_iconst C dd_Mo_seeThing_0 ?_
  refine gf_istore_n (lv' := [(1, .int (gf_i 0)), (0, .ref (gf_ad E 65))]) C dd_Mo_seeThing_1 (by decide) rfl ?_
  refine gf_iconst C dd_Mo_seeThing_2 ?_
  refine gf_istore_n (lv' := [(2, .int (gf_i 0)), (1, .int (gf_i 0)), (0, .ref (gf_ad E 65))]) C dd_Mo_seeThing_3 (by decide) rfl ?_
  have L4_1 : ∀ (N : Nat) (z i : Int) , (0 ≤ i ∧ i ≤ μ 71 0 ∧ z = pf_set (fun i => decide (gm_rk μ i (μ 73) (μ 65 15) ≠ μ 77 i)) i.toNat) → (7 - i).toNat < N → gf_G X E Q 3 gf_φ μ 4 [(1, .int (gf_i z)), (2, .int (gf_i i)), (0, .ref (gf_ad E 65))] [] := by
    intro N
    induction N with
    | zero => intro z i hinv hN; exact absurd hN (Nat.not_lt_zero _)
    | succ N ih4_1 =>
      intro z i hinv hN
      have hinv0 := hinv
      obtain ⟨hi0, hi1, hz⟩ := hinv
      have hzR := pf_set_R (fun i => decide (gm_rk μ i (μ 73) (μ 65 15) ≠ μ 77 i)) i.toNat
      rw [← hz] at hzR
      have h27 : (2 : Int) ^ i.toNat ≤ 128 := (show ∀ n : Nat, n < 8 → (2 : Int) ^ n ≤ 128 by decide) i.toNat (by omega)
      refine gf_iload_n C dd_Mo_seeThing_4 1 rfl ?_
      refine gf_aload_n C dd_Mo_seeThing_5 2 rfl ?_
      refine gf_getA (r := 71) C gf_cl7 fl_Mo_30 dd_Mo_seeThing_6 rfl (show gf_is 81 65 0 7 26 by decide) (by decide) (by decide) ?_
      refine gf_iconst C dd_Mo_seeThing_9 ?_
      refine gf_iald C dd_Mo_seeThing_10 (show gf_is 81 71 1 0 392 by decide) (by omega) (fun hv10 => ?_)
      refine gf_icmp_ge 52 C dd_Mo_seeThing_11 (by decide) (by omega) (by omega) (fun h11 => ?_) (fun h11 => ?_)
      · skip
        have hzz : z = pf_set (fun i => decide (gm_rk μ i (μ 73) (μ 65 15) ≠ μ 77 i)) (μ 71 0).toNat := by rw [hz, show i = μ 71 0 by omega]
        refine gf_aload_n C dd_Mo_seeThing_52 2 rfl ?_
        refine gf_getA (r := 76) C gf_cl7 fl_Mo_45 dd_Mo_seeThing_53 rfl (show gf_is 81 65 0 7 26 by decide) (by decide) (by decide) ?_
        refine gf_aload_n C dd_Mo_seeThing_56 2 rfl ?_
        refine gf_getI (z := 21) C gf_cl7 fl_Mo_215 dd_Mo_seeThing_57 rfl rfl (show gf_is 81 65 0 7 26 by decide) (fun hv57 => ?_)
        refine gf_iload_n C dd_Mo_seeThing_60 0 rfl ?_
        refine gf_iast C dd_Mo_seeThing_61 (show gf_is 81 76 1 0 85 by decide) (by omega) (by omega) ?_
        refine gf_nmM (fun m61 hm61 => ?_)
        have e21 : m61 65 21 = μ 65 21 := by rw [hm61]; exact gf_up_k (by decide)
        refine gf_aload_n C dd_Mo_seeThing_62 2 rfl ?_
        refine gf_dup C dd_Mo_seeThing_63 rfl ?_
        refine gf_getI (z := 21) C gf_cl7 fl_Mo_215 dd_Mo_seeThing_64 rfl rfl (show gf_is 81 65 0 7 26 by decide) (fun hv64 => ?_)
        refine gf_iconst C dd_Mo_seeThing_67 ?_
        refine gf_iadd C dd_Mo_seeThing_68 ?_
        refine gf_putI (z := 21) C gf_cl7 fl_Mo_215 dd_Mo_seeThing_69 rfl rfl rfl (by decide +kernel) (show gf_is 81 65 0 7 26 by decide) (by omega) ?_
        refine gf_nmM (fun m69 hm69 => ?_)
        refine gf_vret C hQ dd_Mo_seeThing_72 ?_
        refine ⟨gm_sn_app hS ?_ (fun b h => ?_) ?_, fun a b h1 h2 => ?_⟩
        · rw [hm69, gf_up_s, e21]
        · rw [hm69, gf_up_k (by decide), hm61, gf_up_j h]
        · rw [hm69, gf_up_k (by decide), hm61, gf_up_s, hzz]
        · rw [hm69, gf_up_o h1, hm61, gf_up_k h2]
      · skip
        refine gf_iload_n C dd_Mo_seeThing_14 0 rfl ?_
        refine gf_aload_n C dd_Mo_seeThing_15 2 rfl ?_
        refine gf_iload_n C dd_Mo_seeThing_16 1 rfl ?_
        refine gf_aload_n C dd_Mo_seeThing_17 2 rfl ?_
        refine gf_getA (r := 73) C gf_cl7 fl_Mo_36 dd_Mo_seeThing_18 rfl (show gf_is 81 65 0 7 26 by decide) (by decide) (by decide) ?_
        refine gf_aload_n C dd_Mo_seeThing_21 2 rfl ?_
        refine gf_getI (z := 15) C gf_cl7 fl_Mo_146 dd_Mo_seeThing_22 rfl rfl (show gf_is 81 65 0 7 26 by decide) (fun hv22 => ?_)
        refine gf_callVi (st := [.int (gf_i z)]) (As := [.int (gf_i i), .ref (gf_ad E 73), .int (gf_i (μ 65 15))]) C wk_Mo_152 gf_cl7 (show gf_is 81 65 0 7 26 by decide) (ct_Mo_byGuard (gf_xl X) E i 73 (μ 65 15) 8 μ (hgs i (by omega) (by omega)) (show gf_is 81 73 1 0 8 by decide) (by omega) hF) rfl ⟨rfl, rfl, rfl, rfl⟩ (Nat.le_of_ble_eq_true rfl) rfl dd_Mo_seeThing_25 (fun r25 m25 hR25 hp25 => ?_)
        have hr25 := hp25.1
        refine gf_pm hp25.2 ?_
        refine gf_aload_n C dd_Mo_seeThing_28 2 rfl ?_
        refine gf_getA (r := 77) C gf_cl7 fl_Mo_48 dd_Mo_seeThing_29 rfl (show gf_is 81 65 0 7 26 by decide) (by decide) (by decide) ?_
        refine gf_iload_n C dd_Mo_seeThing_32 1 rfl ?_
        refine gf_iald C dd_Mo_seeThing_33 (show gf_is 81 77 1 0 7 by decide) (by omega) (fun hv33 => ?_)
        refine gf_icmp_eq 43 C dd_Mo_seeThing_34 (by decide) (by omega) (by omega) (fun h34 => ?_) (fun h34 => ?_)
        · skip
          refine gf_iconst C dd_Mo_seeThing_43 ?_
          have hsh := gf_shl1 (i := i) (by omega)
          refine gf_ior C dd_Mo_seeThing_44 (by omega) ?_
          refine gf_nm (fun x45 hx45 => ?_)
          refine gf_istore_n (lv' := [(1, .int (gf_i x45)), (2, .int (gf_i i)), (0, .ref (gf_ad E 65))]) C dd_Mo_seeThing_45 (by decide) rfl ?_
          obtain ⟨x46, hx46⟩ : ∃ y : Int, y = i + 1 := ⟨_, rfl⟩
          refine gf_iinc (q := 1) (v := x46) (lv' := [(2, .int (gf_i x46)), (1, .int (gf_i x45)), (0, .ref (gf_ad E 65))]) C dd_Mo_seeThing_46 rfl hx46 (by decide) rfl ?_
          refine gf_goto 4 C dd_Mo_seeThing_49 (by decide) ?_
          refine gf_lsub [1, 0, 2] rfl ?_
          exact ih4_1 x45 x46 (by
                  refine ⟨by omega, by omega, ?_⟩
                  rw [hx46, show (i + 1).toNat = i.toNat + 1 by omega]
                  show _ = if decide (gm_rk μ ((i.toNat : Nat) : Int) (μ 73) (μ 65 15) ≠ μ 77 ((i.toNat : Nat) : Int)) = true then gf_or (pf_set _ i.toNat) (gf_shl 1 ((i.toNat : Nat) : Int)) else pf_set _ i.toNat
                  rw [show ((i.toNat : Nat) : Int) = i by omega, ← hz, ← hr25.1]
                  first
                  | (rw [if_pos (by simpa using h34)]; exact hx45)
                  | (rw [if_neg (by simpa using h34), hx45]; exact gf_or_0 (by omega))) (by omega)
        · skip
          refine gf_iconst C dd_Mo_seeThing_37 ?_
          refine gf_iload_n C dd_Mo_seeThing_38 1 rfl ?_
          refine gf_ishl C dd_Mo_seeThing_39 (by omega) ?_
          refine gf_goto 44 C dd_Mo_seeThing_40 (by decide) ?_
          have hsh := gf_shl1 (i := i) (by omega)
          refine gf_ior C dd_Mo_seeThing_44 (by omega) ?_
          refine gf_nm (fun x45 hx45 => ?_)
          refine gf_istore_n (lv' := [(1, .int (gf_i x45)), (2, .int (gf_i i)), (0, .ref (gf_ad E 65))]) C dd_Mo_seeThing_45 (by decide) rfl ?_
          obtain ⟨x46, hx46⟩ : ∃ y : Int, y = i + 1 := ⟨_, rfl⟩
          refine gf_iinc (q := 1) (v := x46) (lv' := [(2, .int (gf_i x46)), (1, .int (gf_i x45)), (0, .ref (gf_ad E 65))]) C dd_Mo_seeThing_46 rfl hx46 (by decide) rfl ?_
          refine gf_goto 4 C dd_Mo_seeThing_49 (by decide) ?_
          refine gf_lsub [1, 0, 2] rfl ?_
          exact ih4_1 x45 x46 (by
                  refine ⟨by omega, by omega, ?_⟩
                  rw [hx46, show (i + 1).toNat = i.toNat + 1 by omega]
                  show _ = if decide (gm_rk μ ((i.toNat : Nat) : Int) (μ 73) (μ 65 15) ≠ μ 77 ((i.toNat : Nat) : Int)) = true then gf_or (pf_set _ i.toNat) (gf_shl 1 ((i.toNat : Nat) : Int)) else pf_set _ i.toNat
                  rw [show ((i.toNat : Nat) : Int) = i by omega, ← hz, ← hr25.1]
                  first
                  | (rw [if_pos (by simpa using h34)]; exact hx45)
                  | (rw [if_neg (by simpa using h34), hx45]; exact gf_or_0 (by omega))) (by omega)
  refine gf_lsub [1, 0, 2] rfl ?_
  exact L4_1 _ 0 0 (⟨by omega, by omega, rfl⟩) (Nat.lt_succ_self _)

theorem dd_Mo_next_0 : decode cc_Mo_next 0 = .ok (.aload_n 0, 1) := by decide +kernel
theorem dd_Mo_next_1 : decode cc_Mo_next 1 = .ok (.iload_n 1, 1) := by decide +kernel
theorem dd_Mo_next_2 : decode cc_Mo_next 2 = .ok (.invokevirtual 183, 3) := by decide +kernel
theorem dd_Mo_next_5 : decode cc_Mo_next 5 = .ok (.ifCond .eq 15, 3) := by decide +kernel
theorem dd_Mo_next_8 : decode cc_Mo_next 8 = .ok (.iload_n 2, 1) := by decide +kernel
theorem dd_Mo_next_9 : decode cc_Mo_next 9 = .ok (.i2l, 1) := by decide +kernel
theorem dd_Mo_next_10 : decode cc_Mo_next 10 = .ok (.lconst 0, 1) := by decide +kernel
theorem dd_Mo_next_11 : decode cc_Mo_next 11 = .ok (.ldc2_w 230, 3) := by decide +kernel
theorem dd_Mo_next_14 : decode cc_Mo_next 14 = .ok (.invokestatic 69, 3) := by decide +kernel
theorem dd_Mo_next_17 : decode cc_Mo_next 17 = .ok (.ifCond .ne 5, 3) := by decide +kernel
theorem dd_Mo_next_20 : decode cc_Mo_next 20 = .ok (.iconst (-1), 1) := by decide +kernel
theorem dd_Mo_next_21 : decode cc_Mo_next 21 = .ok (.ireturn, 1) := by decide +kernel
theorem dd_Mo_next_22 : decode cc_Mo_next 22 = .ok (.aload_n 0, 1) := by decide +kernel
theorem dd_Mo_next_23 : decode cc_Mo_next 23 = .ok (.getfield 30, 3) := by decide +kernel
theorem dd_Mo_next_26 : decode cc_Mo_next 26 = .ok (.iconst 1, 1) := by decide +kernel
theorem dd_Mo_next_27 : decode cc_Mo_next 27 = .ok (.iaload, 1) := by decide +kernel
theorem dd_Mo_next_28 : decode cc_Mo_next 28 = .ok (.bipush 8, 2) := by decide +kernel
theorem dd_Mo_next_30 : decode cc_Mo_next 30 = .ok (.if_icmp .ne 6, 3) := by decide +kernel
theorem dd_Mo_next_33 : decode cc_Mo_next 33 = .ok (.bipush (-4), 2) := by decide +kernel
theorem dd_Mo_next_35 : decode cc_Mo_next 35 = .ok (.ireturn, 1) := by decide +kernel
theorem dd_Mo_next_36 : decode cc_Mo_next 36 = .ok (.aload_n 0, 1) := by decide +kernel
theorem dd_Mo_next_37 : decode cc_Mo_next 37 = .ok (.invokevirtual 149, 3) := by decide +kernel
theorem dd_Mo_next_40 : decode cc_Mo_next 40 = .ok (.iconst 0, 1) := by decide +kernel
theorem dd_Mo_next_41 : decode cc_Mo_next 41 = .ok (.istore_n 3, 1) := by decide +kernel
theorem dd_Mo_next_42 : decode cc_Mo_next 42 = .ok (.iconst 0, 1) := by decide +kernel
theorem dd_Mo_next_43 : decode cc_Mo_next 43 = .ok (.istore 4, 2) := by decide +kernel
theorem dd_Mo_next_45 : decode cc_Mo_next 45 = .ok (.iload 4, 2) := by decide +kernel
theorem dd_Mo_next_47 : decode cc_Mo_next 47 = .ok (.bipush 10, 2) := by decide +kernel
theorem dd_Mo_next_49 : decode cc_Mo_next 49 = .ok (.if_icmp .ge 50, 3) := by decide +kernel
theorem dd_Mo_next_52 : decode cc_Mo_next 52 = .ok (.aload_n 0, 1) := by decide +kernel
theorem dd_Mo_next_53 : decode cc_Mo_next 53 = .ok (.getfield 36, 3) := by decide +kernel
theorem dd_Mo_next_56 : decode cc_Mo_next 56 = .ok (.aload_n 0, 1) := by decide +kernel
theorem dd_Mo_next_57 : decode cc_Mo_next 57 = .ok (.getfield 146, 3) := by decide +kernel
theorem dd_Mo_next_60 : decode cc_Mo_next 60 = .ok (.iload 4, 2) := by decide +kernel
theorem dd_Mo_next_62 : decode cc_Mo_next 62 = .ok (.iastore, 1) := by decide +kernel
theorem dd_Mo_next_63 : decode cc_Mo_next 63 = .ok (.iload_n 3, 1) := by decide +kernel
theorem dd_Mo_next_64 : decode cc_Mo_next 64 = .ok (.aload_n 0, 1) := by decide +kernel
theorem dd_Mo_next_65 : decode cc_Mo_next 65 = .ok (.iload_n 1, 1) := by decide +kernel
theorem dd_Mo_next_66 : decode cc_Mo_next 66 = .ok (.aload_n 0, 1) := by decide +kernel
theorem dd_Mo_next_67 : decode cc_Mo_next 67 = .ok (.getfield 36, 3) := by decide +kernel
theorem dd_Mo_next_70 : decode cc_Mo_next 70 = .ok (.aload_n 0, 1) := by decide +kernel
theorem dd_Mo_next_71 : decode cc_Mo_next 71 = .ok (.getfield 146, 3) := by decide +kernel
theorem dd_Mo_next_74 : decode cc_Mo_next 74 = .ok (.iconst 1, 1) := by decide +kernel
theorem dd_Mo_next_75 : decode cc_Mo_next 75 = .ok (.iadd, 1) := by decide +kernel
theorem dd_Mo_next_76 : decode cc_Mo_next 76 = .ok (.invokevirtual 152, 3) := by decide +kernel
theorem dd_Mo_next_79 : decode cc_Mo_next 79 = .ok (.iload_n 2, 1) := by decide +kernel
theorem dd_Mo_next_80 : decode cc_Mo_next 80 = .ok (.if_icmp .ne 10, 3) := by decide +kernel
theorem dd_Mo_next_83 : decode cc_Mo_next 83 = .ok (.iconst 1, 1) := by decide +kernel
theorem dd_Mo_next_84 : decode cc_Mo_next 84 = .ok (.iload 4, 2) := by decide +kernel
theorem dd_Mo_next_86 : decode cc_Mo_next 86 = .ok (.ishl, 1) := by decide +kernel
theorem dd_Mo_next_87 : decode cc_Mo_next 87 = .ok (.goto 4, 3) := by decide +kernel
theorem dd_Mo_next_90 : decode cc_Mo_next 90 = .ok (.iconst 0, 1) := by decide +kernel
theorem dd_Mo_next_91 : decode cc_Mo_next 91 = .ok (.ior, 1) := by decide +kernel
theorem dd_Mo_next_92 : decode cc_Mo_next 92 = .ok (.istore_n 3, 1) := by decide +kernel
theorem dd_Mo_next_93 : decode cc_Mo_next 93 = .ok (.iinc 4 1, 3) := by decide +kernel
theorem dd_Mo_next_96 : decode cc_Mo_next 96 = .ok (.goto (-51), 3) := by decide +kernel
theorem dd_Mo_next_99 : decode cc_Mo_next 99 = .ok (.iload_n 3, 1) := by decide +kernel
theorem dd_Mo_next_100 : decode cc_Mo_next 100 = .ok (.ireturn, 1) := by decide +kernel
set_option maxRecDepth 100000 in
set_option maxHeartbeats 4000000 in
theorem ct_Mo_next (l : Launch) (E : gf_E) (i c : Int) (μ : gf_M) (hi : gf_R i) (hcR : gf_R c) (hok : gm_ok μ)  : gf_Mi l E yy_Mo_next cc_Mo_next 5 .int (gf_rm 4 100) 81 gf_ref μ [.ref (gf_ad E 65), .int (gf_i i), .int (gf_i c)] (fun q μ' => (¬ (0 ≤ i ∧ i < μ 71 0 ∧ 0 ≤ c ∧ c ≤ 10) → q = -1 ∧ μ' = μ) ∧ (0 ≤ i ∧ i < μ 71 0 ∧ 0 ≤ c ∧ c ≤ 10 → (μ 71 1 = 8 → q = -4 ∧ μ' = μ) ∧ (μ 71 1 < 8 → q = pf_set (fun f => decide (gm_rk μ i (pf_apd (gm_x μ) (μ 71 1) f) (μ 71 1 + 1) = c)) 10 ∧ gm_sc μ' μ))) := by
  refine gf_mi (by decide +kernel) (Nat.le_of_ble_eq_true rfl) (by decide) (fun X Q hlx C hQ => ?_)
  subst hlx
  replace C : gf_C X E cc_Mo_next 5 "GuardFiguresModel" (gf_rm 4 100) := C
  show gf_G X E Q 5 gf_φ μ 0 [(0, .ref (gf_ad E 65)), (1, .int (gf_i i)), (2, .int (gf_i c))] []
  obtain ⟨hc, hgs, hn, hx, hd⟩ := id hok
  refine gf_aload_n C dd_Mo_next_0 0 rfl ?_
  refine gf_iload_n C dd_Mo_next_1 1 rfl ?_
  refine gf_callVi (st := []) (As := [.int (gf_i i)]) C wk_Mo_183 gf_cl7 (show gf_is 81 65 0 7 26 by decide) (ct_Mo_isGuard (gf_xl X) E i μ (by omega) (by omega)) rfl ⟨rfl, rfl, rfl, rfl⟩ (Nat.le_of_ble_eq_true rfl) rfl dd_Mo_next_2 (fun r2 m2 hR2 hp2 => ?_)
  have hr2 := hp2.1
  refine gf_pm hp2.2 ?_
  refine gf_if_eq 20 C dd_Mo_next_5 (by decide) (by omega) (fun h5 => ?_) (fun h5 => ?_)
  · skip
    refine gf_iconst C dd_Mo_next_20 ?_
    refine gf_iret C hQ dd_Mo_next_21 (by omega) ?_
    exact ⟨fun _ => ⟨rfl, rfl⟩, fun h => absurd h (by omega)⟩
  · skip
    refine gf_iload_n C dd_Mo_next_8 2 rfl ?_
    refine gf_gi2l C dd_Mo_next_9 (by omega) ?_
    refine gf_lconst 0 C dd_Mo_next_10 (by decide +kernel) ?_
    refine gf_ldc2 10 C dd_Mo_next_11 ck_Mo_230 (by decide +kernel) ?_
    refine gf_callSi (st := []) (As := [.long (gf_l c), .long (gf_l 0), .long (gf_l 10)]) C wk_Mo_69 (ct_Mo_in (gf_xl X) E c 0 10 μ (by omega) (by omega) (by omega)) rfl ⟨rfl, rfl, rfl, rfl⟩ (Nat.le_of_ble_eq_true rfl) rfl dd_Mo_next_14 (fun r14 m14 hR14 hp14 => ?_)
    have hr14 := hp14.1
    refine gf_pm hp14.2 ?_
    refine gf_if_ne 22 C dd_Mo_next_17 (by decide) (by omega) (fun h17 => ?_) (fun h17 => ?_)
    · skip
      have hin : 0 ≤ i ∧ i < μ 71 0 := by omega
      have hin2 : 0 ≤ c ∧ c ≤ 10 := by omega
      clear hr2 hr14 hp2 hp14
      have hg := gm_ok_g hok hin
      refine gf_aload_n C dd_Mo_next_22 0 rfl ?_
      refine gf_getA (r := 71) C gf_cl7 fl_Mo_30 dd_Mo_next_23 rfl (show gf_is 81 65 0 7 26 by decide) (by decide) (by decide) ?_
      refine gf_iconst C dd_Mo_next_26 ?_
      refine gf_iald C dd_Mo_next_27 (show gf_is 81 71 1 0 392 by decide) (by omega) (fun hv27 => ?_)
      refine gf_bipush C dd_Mo_next_28 (by decide +kernel) ?_
      refine gf_icmp_ne 36 C dd_Mo_next_30 (by decide) (by omega) (by omega) (fun h30 => ?_) (fun h30 => ?_)
      · skip
        refine gf_aload_n C dd_Mo_next_36 0 rfl ?_
        refine gf_callVv (st := []) (As := []) C wk_Mo_149 gf_cl7 (show gf_is 81 65 0 7 26 by decide) (ct_Mo_write (gf_xl X) E μ (by omega)) rfl ⟨rfl, rfl, rfl, rfl⟩ (Nat.le_of_ble_eq_true rfl) rfl dd_Mo_next_37 (fun m37 hp37 => ?_)
        obtain ⟨hw15, hw73, hwf⟩ := hp37
        refine gf_iconst C dd_Mo_next_40 ?_
        refine gf_istore_n (lv' := [(3, .int (gf_i 0)), (0, .ref (gf_ad E 65)), (1, .int (gf_i i)), (2, .int (gf_i c))]) C dd_Mo_next_41 (by decide) rfl ?_
        refine gf_iconst C dd_Mo_next_42 ?_
        refine gf_istore (lv' := [(4, .int (gf_i 0)), (3, .int (gf_i 0)), (0, .ref (gf_ad E 65)), (1, .int (gf_i i)), (2, .int (gf_i c))]) C dd_Mo_next_43 (by decide) rfl ?_
        have L45_1 : ∀ (N : Nat) (z f : Int) (m : gf_M) , (0 ≤ f ∧ f ≤ 10 ∧ z = pf_set (fun f => decide (gm_rk μ i (pf_apd (gm_x μ) (μ 71 1) f) (μ 71 1 + 1) = c)) f.toNat ∧ m 65 15 = μ 71 1 ∧ (∀ j : Int, 0 ≤ j → j < μ 71 1 → m 73 j = μ 71 (24 + j)) ∧ ∀ a b : Int, ¬ (a = 65 ∧ b = 15) → a ≠ 73 → m a b = μ a b) → (10 - f).toNat < N → gf_G X E Q 5 gf_φ m 45 [(3, .int (gf_i z)), (4, .int (gf_i f)), (0, .ref (gf_ad E 65)), (1, .int (gf_i i)), (2, .int (gf_i c))] [] := by
          intro N
          induction N with
          | zero => intro z f m hinv hN; exact absurd hN (Nat.not_lt_zero _)
          | succ N ih45_1 =>
            intro z f m hinv hN
            have hinv0 := hinv
            obtain ⟨hf0, hf1, hz, hm15, hm73, hmf⟩ := hinv
            have hzR := pf_set_R (fun f => decide (gm_rk μ i (pf_apd (gm_x μ) (μ 71 1) f) (μ 71 1 + 1) = c)) f.toNat
            rw [← hz] at hzR
            have h210 := pf_2_10 (n := f.toNat) (by omega)
            refine gf_iload C dd_Mo_next_45 1 rfl ?_
            refine gf_bipush C dd_Mo_next_47 (by decide +kernel) ?_
            refine gf_icmp_ge 99 C dd_Mo_next_49 (by decide) (by omega) (by omega) (fun h49 => ?_) (fun h49 => ?_)
            · skip
              refine gf_iload_n C dd_Mo_next_99 0 rfl ?_
              refine gf_iret C hQ dd_Mo_next_100 (by omega) ?_
              have e10 : f.toNat = 10 := by omega
              rw [e10] at hz
              exact ⟨fun h => absurd h (by omega), fun _ => ⟨fun h => absurd h (by omega), fun _ => ⟨hz, fun a b h => by unfold gm_scr at h; exact hmf a b (by omega) (by omega)⟩⟩⟩
            · skip
              refine gf_aload_n C dd_Mo_next_52 2 rfl ?_
              refine gf_getA (r := 73) C gf_cl7 fl_Mo_36 dd_Mo_next_53 rfl (show gf_is 81 65 0 7 26 by decide) (by decide) (by decide) ?_
              refine gf_aload_n C dd_Mo_next_56 2 rfl ?_
              refine gf_getI (z := 15) C gf_cl7 fl_Mo_146 dd_Mo_next_57 rfl rfl (show gf_is 81 65 0 7 26 by decide) (fun hv57 => ?_)
              refine gf_iload C dd_Mo_next_60 1 rfl ?_
              refine gf_iast C dd_Mo_next_62 (show gf_is 81 73 1 0 8 by decide) (by omega) (by omega) ?_
              refine gf_nmM (fun m62 hm62 => ?_)
              have o62 : ∀ a b : Int, a ≠ 73 → m62 a b = m a b := fun a b h => by rw [hm62]; exact gf_up_k h
              have e62 : m62 65 15 = μ 71 1 := by rw [o62 65 15 (by decide)]; exact hm15
              have q62 : ∀ b : Int, m62 71 b = μ 71 b := fun b => by rw [o62 71 b (by decide)]; exact hmf 71 b (by omega) (by omega)
              have f62 : ∀ j : Int, 0 ≤ j → j < μ 71 1 + 1 → m62 73 j = pf_apd (gm_x μ) (μ 71 1) f j := fun j h0 h1 => by
                unfold pf_apd
                rw [hm62, hm15]
                by_cases e : j = μ 71 1
                · rw [if_pos e, e, gf_up_s]
                · rw [if_neg e, gf_up_j e]; exact hm73 j h0 (by omega)
              refine gf_iload_n C dd_Mo_next_63 0 rfl ?_
              refine gf_aload_n C dd_Mo_next_64 2 rfl ?_
              refine gf_iload_n C dd_Mo_next_65 3 rfl ?_
              refine gf_aload_n C dd_Mo_next_66 2 rfl ?_
              refine gf_getA (r := 73) C gf_cl7 fl_Mo_36 dd_Mo_next_67 rfl (show gf_is 81 65 0 7 26 by decide) (by decide) (by decide) ?_
              refine gf_aload_n C dd_Mo_next_70 2 rfl ?_
              refine gf_getI (z := 15) C gf_cl7 fl_Mo_146 dd_Mo_next_71 rfl rfl (show gf_is 81 65 0 7 26 by decide) (fun hv71 => ?_)
              refine gf_iconst C dd_Mo_next_74 ?_
              refine gf_iadd C dd_Mo_next_75 ?_
              refine gf_callVi (st := [.int (gf_i z)]) (As := [.int (gf_i i), .ref (gf_ad E 73), .int (gf_i ((m62 65 15) + 1))]) C wk_Mo_152 gf_cl7 (show gf_is 81 65 0 7 26 by decide) (ct_Mo_byGuard (gf_xl X) E i 73 (m62 65 15 + 1) 8 m62 (gm_okg_f hg q62) (show gf_is 81 73 1 0 8 by decide) (by omega) (fun j h0 h1 => by
                rw [f62 j h0 (by omega)]
                unfold pf_apd
                split
                · omega
                · exact hx j h0 (by omega))) rfl ⟨rfl, rfl, rfl, rfl⟩ (Nat.le_of_ble_eq_true rfl) rfl dd_Mo_next_76 (fun r76 m76 hR76 hp76 => ?_)
              have hr76 := hp76.1
              refine gf_pm hp76.2 ?_
              refine gf_iload_n C dd_Mo_next_79 4 rfl ?_
              refine gf_icmp_ne 90 C dd_Mo_next_80 (by decide) (by omega) (by omega) (fun h80 => ?_) (fun h80 => ?_)
              · skip
                refine gf_iconst C dd_Mo_next_90 ?_
                have hsh := gf_shl1 (i := f) (by omega)
                refine gf_ior C dd_Mo_next_91 (by omega) ?_
                refine gf_nm (fun x92 hx92 => ?_)
                refine gf_istore_n (lv' := [(3, .int (gf_i x92)), (4, .int (gf_i f)), (0, .ref (gf_ad E 65)), (1, .int (gf_i i)), (2, .int (gf_i c))]) C dd_Mo_next_92 (by decide) rfl ?_
                obtain ⟨x93, hx93⟩ : ∃ y : Int, y = f + 1 := ⟨_, rfl⟩
                refine gf_iinc (q := 1) (v := x93) (lv' := [(4, .int (gf_i x93)), (3, .int (gf_i x92)), (0, .ref (gf_ad E 65)), (1, .int (gf_i i)), (2, .int (gf_i c))]) C dd_Mo_next_93 rfl hx93 (by decide) rfl ?_
                refine gf_goto 45 C dd_Mo_next_96 (by decide) ?_
                refine gf_lsub [1, 0, 2, 3, 4] rfl ?_
                exact ih45_1 x92 x93 m62 (by
                        refine ⟨by omega, by omega, ?_, e62, fun j h0 h1 => by rw [hm62, gf_up_j (by omega)]; exact hm73 j h0 h1, fun a b h1 h2 => by rw [o62 a b h2]; exact hmf a b h1 h2⟩
                        rw [hx93, show (f + 1).toNat = f.toNat + 1 by omega]
                        show _ = if decide (gm_rk μ i (pf_apd (gm_x μ) (μ 71 1) ((f.toNat : Nat) : Int)) (μ 71 1 + 1) = c) = true then gf_or (pf_set _ f.toNat) (gf_shl 1 ((f.toNat : Nat) : Int)) else pf_set _ f.toNat
                        have hre : r76 = gm_rk μ i (pf_apd (gm_x μ) (μ 71 1) f) (μ 71 1 + 1) := by
                          rw [hr76.1, gm_rk_f q62, e62]
                          exact gm_rk_congr f62
                        rw [show ((f.toNat : Nat) : Int) = f by omega, ← hz, ← hre]
                        first
                        | (rw [if_pos (by simpa using h80)]; exact hx92)
                        | (rw [if_neg (by simpa using h80), hx92]; exact gf_or_0 (by omega))) (by omega)
              · skip
                refine gf_iconst C dd_Mo_next_83 ?_
                refine gf_iload C dd_Mo_next_84 1 rfl ?_
                refine gf_ishl C dd_Mo_next_86 (by omega) ?_
                refine gf_goto 91 C dd_Mo_next_87 (by decide) ?_
                have hsh := gf_shl1 (i := f) (by omega)
                refine gf_ior C dd_Mo_next_91 (by omega) ?_
                refine gf_nm (fun x92 hx92 => ?_)
                refine gf_istore_n (lv' := [(3, .int (gf_i x92)), (4, .int (gf_i f)), (0, .ref (gf_ad E 65)), (1, .int (gf_i i)), (2, .int (gf_i c))]) C dd_Mo_next_92 (by decide) rfl ?_
                obtain ⟨x93, hx93⟩ : ∃ y : Int, y = f + 1 := ⟨_, rfl⟩
                refine gf_iinc (q := 1) (v := x93) (lv' := [(4, .int (gf_i x93)), (3, .int (gf_i x92)), (0, .ref (gf_ad E 65)), (1, .int (gf_i i)), (2, .int (gf_i c))]) C dd_Mo_next_93 rfl hx93 (by decide) rfl ?_
                refine gf_goto 45 C dd_Mo_next_96 (by decide) ?_
                refine gf_lsub [1, 0, 2, 3, 4] rfl ?_
                exact ih45_1 x92 x93 m62 (by
                        refine ⟨by omega, by omega, ?_, e62, fun j h0 h1 => by rw [hm62, gf_up_j (by omega)]; exact hm73 j h0 h1, fun a b h1 h2 => by rw [o62 a b h2]; exact hmf a b h1 h2⟩
                        rw [hx93, show (f + 1).toNat = f.toNat + 1 by omega]
                        show _ = if decide (gm_rk μ i (pf_apd (gm_x μ) (μ 71 1) ((f.toNat : Nat) : Int)) (μ 71 1 + 1) = c) = true then gf_or (pf_set _ f.toNat) (gf_shl 1 ((f.toNat : Nat) : Int)) else pf_set _ f.toNat
                        have hre : r76 = gm_rk μ i (pf_apd (gm_x μ) (μ 71 1) f) (μ 71 1 + 1) := by
                          rw [hr76.1, gm_rk_f q62, e62]
                          exact gm_rk_congr f62
                        rw [show ((f.toNat : Nat) : Int) = f by omega, ← hz, ← hre]
                        first
                        | (rw [if_pos (by simpa using h80)]; exact hx92)
                        | (rw [if_neg (by simpa using h80), hx92]; exact gf_or_0 (by omega))) (by omega)
        refine gf_lsub [1, 0, 2, 3, 4] rfl ?_
        exact L45_1 _ 0 0 m37 (⟨by omega, by omega, rfl, hw15, fun j h0 h1 => hw73 j h0 (by omega), hwf⟩) (Nat.lt_succ_self _)
      · skip
        refine gf_bipush C dd_Mo_next_33 (by decide +kernel) ?_
        refine gf_iret C hQ dd_Mo_next_35 (by omega) ?_
        exact ⟨fun h => absurd h (by omega), fun _ => ⟨fun _ => ⟨rfl, rfl⟩, fun h => absurd h (by omega)⟩⟩
    · skip
      refine gf_iconst C dd_Mo_next_20 ?_
      refine gf_iret C hQ dd_Mo_next_21 (by omega) ?_
      exact ⟨fun _ => ⟨rfl, rfl⟩, fun h => absurd h (by omega)⟩
