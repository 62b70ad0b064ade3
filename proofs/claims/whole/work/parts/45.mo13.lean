/-! the reference: of which kind a guard is -/
def gm_row (μ : gf_M) (r : Int) : Int → Int := fun j => μ 67 (40 * r + j)
theorem pf_ksB_congr {F S n : Int} {y z : Int → Int} (hn : 1 ≤ n) (h : ∀ j : Int, 0 ≤ j → j < n → y j = z j) : pf_ksB F S y n = pf_ksB F S z n := by
  unfold pf_ksB
  refine pf_set_congr 6 (fun kd h0 h1 => ?_)
  rw [h (n - 1) (by omega) (by omega), pf_reck_congr (g := z) (size := n - 1) (fun j h0 h1 => h j h0 (by omega))]
theorem pf_eok_congr {n : Int} {y z : Int → Int} (hn : 1 ≤ n) (h : ∀ j : Int, 0 ≤ j → j < n → y j = z j) (he : pf_eok z n) : pf_eok y n := by
  refine ⟨fun j h0 h1 => ?_, ?_⟩
  · rw [h j h0 (by omega)]; exact he.1 j h0 h1
  · rw [h (n - 1) (by omega) (by omega)]; exact he.2
theorem gm_fd_sc {μ m : gf_M} {f : Int} (h : gm_sc m μ) : gm_sc (gm_fd m f) (gm_fd μ f) := fun a b hab => by
  unfold gm_fd
  rw [h 70 f (by unfold gm_scr; omega)]
  by_cases e : a = 70 ∧ b = f
  · rw [e.1, e.2, gf_up_s, gf_up_s]
  · rw [gf_up_o e, gf_up_o e]
    by_cases e2 : a = 65 ∧ b = 7
    · rw [e2.1, e2.2, gf_up_s, gf_up_s]
    · rw [gf_up_o e2, gf_up_o e2]; exact h a b hab
/-- the greatest count over what may be reckoned -/
def gm_mxc (some : Int) (v : Int → Int) : Nat → Int
  | 0 => 0
  | c + 1 => gf_max (gm_mxc some v c) (pf_cnt (fun kd => pf_bit some kd && decide (v kd = c)) 6)
theorem dd_Mo_lacksTold_0 : decode cc_Mo_lacksTold 0 = .ok (.aload_n 0, 1) := by decide +kernel
theorem dd_Mo_lacksTold_1 : decode cc_Mo_lacksTold 1 = .ok (.getfield 7, 3) := by decide +kernel
theorem dd_Mo_lacksTold_4 : decode cc_Mo_lacksTold 4 = .ok (.iload_n 1, 1) := by decide +kernel
theorem dd_Mo_lacksTold_5 : decode cc_Mo_lacksTold 5 = .ok (.iaload, 1) := by decide +kernel
theorem dd_Mo_lacksTold_6 : decode cc_Mo_lacksTold 6 = .ok (.istore_n 2, 1) := by decide +kernel
theorem dd_Mo_lacksTold_7 : decode cc_Mo_lacksTold 7 = .ok (.iload_n 2, 1) := by decide +kernel
theorem dd_Mo_lacksTold_8 : decode cc_Mo_lacksTold 8 = .ok (.i2l, 1) := by decide +kernel
theorem dd_Mo_lacksTold_9 : decode cc_Mo_lacksTold 9 = .ok (.ldc2_w 210, 3) := by decide +kernel
theorem dd_Mo_lacksTold_12 : decode cc_Mo_lacksTold 12 = .ok (.ldc2_w 129, 3) := by decide +kernel
theorem dd_Mo_lacksTold_15 : decode cc_Mo_lacksTold 15 = .ok (.invokestatic 69, 3) := by decide +kernel
theorem dd_Mo_lacksTold_18 : decode cc_Mo_lacksTold 18 = .ok (.ifCond .ne 17, 3) := by decide +kernel
theorem dd_Mo_lacksTold_21 : decode cc_Mo_lacksTold 21 = .ok (.aload_n 0, 1) := by decide +kernel
theorem dd_Mo_lacksTold_22 : decode cc_Mo_lacksTold 22 = .ok (.iload_n 2, 1) := by decide +kernel
theorem dd_Mo_lacksTold_23 : decode cc_Mo_lacksTold 23 = .ok (.ifCond .ge 7, 3) := by decide +kernel
theorem dd_Mo_lacksTold_26 : decode cc_Mo_lacksTold 26 = .ok (.iconst 1, 1) := by decide +kernel
theorem dd_Mo_lacksTold_27 : decode cc_Mo_lacksTold 27 = .ok (.goto 4, 3) := by decide +kernel
theorem dd_Mo_lacksTold_30 : decode cc_Mo_lacksTold 30 = .ok (.iconst 5, 1) := by decide +kernel
theorem dd_Mo_lacksTold_31 : decode cc_Mo_lacksTold 31 = .ok (.invokevirtual 77, 3) := by decide +kernel
theorem dd_Mo_lacksTold_34 : decode cc_Mo_lacksTold 34 = .ok (.ireturn, 1) := by decide +kernel
theorem dd_Mo_lacksTold_35 : decode cc_Mo_lacksTold 35 = .ok (.iconst 0, 1) := by decide +kernel
theorem dd_Mo_lacksTold_36 : decode cc_Mo_lacksTold 36 = .ok (.istore_n 3, 1) := by decide +kernel
theorem dd_Mo_lacksTold_37 : decode cc_Mo_lacksTold 37 = .ok (.iload_n 3, 1) := by decide +kernel
theorem dd_Mo_lacksTold_38 : decode cc_Mo_lacksTold 38 = .ok (.iload_n 2, 1) := by decide +kernel
theorem dd_Mo_lacksTold_39 : decode cc_Mo_lacksTold 39 = .ok (.if_icmp .ge 62, 3) := by decide +kernel
theorem dd_Mo_lacksTold_42 : decode cc_Mo_lacksTold 42 = .ok (.aload_n 0, 1) := by decide +kernel
theorem dd_Mo_lacksTold_43 : decode cc_Mo_lacksTold 43 = .ok (.getfield 51, 3) := by decide +kernel
theorem dd_Mo_lacksTold_46 : decode cc_Mo_lacksTold 46 = .ok (.iload_n 3, 1) := by decide +kernel
theorem dd_Mo_lacksTold_47 : decode cc_Mo_lacksTold 47 = .ok (.aload_n 0, 1) := by decide +kernel
theorem dd_Mo_lacksTold_48 : decode cc_Mo_lacksTold 48 = .ok (.getfield 13, 3) := by decide +kernel
theorem dd_Mo_lacksTold_51 : decode cc_Mo_lacksTold 51 = .ok (.bipush 40, 2) := by decide +kernel
theorem dd_Mo_lacksTold_53 : decode cc_Mo_lacksTold 53 = .ok (.iload_n 1, 1) := by decide +kernel
theorem dd_Mo_lacksTold_54 : decode cc_Mo_lacksTold 54 = .ok (.imul, 1) := by decide +kernel
theorem dd_Mo_lacksTold_55 : decode cc_Mo_lacksTold 55 = .ok (.iload_n 3, 1) := by decide +kernel
theorem dd_Mo_lacksTold_56 : decode cc_Mo_lacksTold 56 = .ok (.iadd, 1) := by decide +kernel
theorem dd_Mo_lacksTold_57 : decode cc_Mo_lacksTold 57 = .ok (.iaload, 1) := by decide +kernel
theorem dd_Mo_lacksTold_58 : decode cc_Mo_lacksTold 58 = .ok (.iastore, 1) := by decide +kernel
theorem dd_Mo_lacksTold_59 : decode cc_Mo_lacksTold 59 = .ok (.aload_n 0, 1) := by decide +kernel
theorem dd_Mo_lacksTold_60 : decode cc_Mo_lacksTold 60 = .ok (.getfield 51, 3) := by decide +kernel
theorem dd_Mo_lacksTold_63 : decode cc_Mo_lacksTold 63 = .ok (.iload_n 3, 1) := by decide +kernel
theorem dd_Mo_lacksTold_64 : decode cc_Mo_lacksTold 64 = .ok (.iaload, 1) := by decide +kernel
theorem dd_Mo_lacksTold_65 : decode cc_Mo_lacksTold 65 = .ok (.i2l, 1) := by decide +kernel
theorem dd_Mo_lacksTold_66 : decode cc_Mo_lacksTold 66 = .ok (.lconst 0, 1) := by decide +kernel
theorem dd_Mo_lacksTold_67 : decode cc_Mo_lacksTold 67 = .ok (.iload_n 3, 1) := by decide +kernel
theorem dd_Mo_lacksTold_68 : decode cc_Mo_lacksTold 68 = .ok (.iload_n 2, 1) := by decide +kernel
theorem dd_Mo_lacksTold_69 : decode cc_Mo_lacksTold 69 = .ok (.iconst 1, 1) := by decide +kernel
theorem dd_Mo_lacksTold_70 : decode cc_Mo_lacksTold 70 = .ok (.isub, 1) := by decide +kernel
theorem dd_Mo_lacksTold_71 : decode cc_Mo_lacksTold 71 = .ok (.if_icmp .ne 9, 3) := by decide +kernel
theorem dd_Mo_lacksTold_74 : decode cc_Mo_lacksTold 74 = .ok (.ldc2_w 230, 3) := by decide +kernel
theorem dd_Mo_lacksTold_77 : decode cc_Mo_lacksTold 77 = .ok (.goto 6, 3) := by decide +kernel
theorem dd_Mo_lacksTold_80 : decode cc_Mo_lacksTold 80 = .ok (.ldc2_w 129, 3) := by decide +kernel
theorem dd_Mo_lacksTold_83 : decode cc_Mo_lacksTold 83 = .ok (.invokestatic 69, 3) := by decide +kernel
theorem dd_Mo_lacksTold_86 : decode cc_Mo_lacksTold 86 = .ok (.ifCond .ne 9, 3) := by decide +kernel
theorem dd_Mo_lacksTold_89 : decode cc_Mo_lacksTold 89 = .ok (.aload_n 0, 1) := by decide +kernel
theorem dd_Mo_lacksTold_90 : decode cc_Mo_lacksTold 90 = .ok (.iconst 3, 1) := by decide +kernel
theorem dd_Mo_lacksTold_91 : decode cc_Mo_lacksTold 91 = .ok (.invokevirtual 77, 3) := by decide +kernel
theorem dd_Mo_lacksTold_94 : decode cc_Mo_lacksTold 94 = .ok (.ireturn, 1) := by decide +kernel
theorem dd_Mo_lacksTold_95 : decode cc_Mo_lacksTold 95 = .ok (.iinc 3 1, 3) := by decide +kernel
theorem dd_Mo_lacksTold_98 : decode cc_Mo_lacksTold 98 = .ok (.goto (-61), 3) := by decide +kernel
theorem dd_Mo_lacksTold_101 : decode cc_Mo_lacksTold 101 = .ok (.iconst 0, 1) := by decide +kernel
theorem dd_Mo_lacksTold_102 : decode cc_Mo_lacksTold 102 = .ok (.ireturn, 1) := by decide +kernel
set_option maxRecDepth 100000 in
set_option maxHeartbeats 4000000 in
theorem ct_Mo_lacksTold (l : Launch) (E : gf_E) (r : Int) (μ : gf_M) (hr6 : 0 ≤ r ∧ r < 6) (hrs : ∀ r : Int, 0 ≤ r → r < 6 → -1 ≤ μ 66 r ∧ μ 66 r ≤ 40)  : gf_Mi l E yy_Mo_lacksTold cc_Mo_lacksTold 4 .int (gf_rm 1 25) 81 gf_ref μ [.ref (gf_ad E 65), .int (gf_i r)] (fun q μ' => (μ 66 r = -1 → q = -3 ∧ μ' = gm_fd μ 1) ∧ (μ 66 r ≠ -1 → (¬ (2 ≤ μ 66 r ∧ μ 66 r ≤ 9) → q = -3 ∧ μ' = gm_fd μ 5) ∧ (2 ≤ μ 66 r ∧ μ 66 r ≤ 9 → (¬ pf_eok (gm_row μ r) (μ 66 r) → q = -3 ∧ gm_sc μ' (gm_fd μ 3)) ∧ (pf_eok (gm_row μ r) (μ 66 r) → q = 0 ∧ (∀ j : Int, 0 ≤ j → j < μ 66 r → μ' 78 j = gm_row μ r j) ∧ ∀ a b : Int, a ≠ 78 → μ' a b = μ a b)))) := by
  refine gf_mi (by decide +kernel) (Nat.le_of_ble_eq_true rfl) (by decide) (fun X Q hlx C hQ => ?_)
  subst hlx
  replace C : gf_C X E cc_Mo_lacksTold 4 "GuardFiguresModel" (gf_rm 1 25) := C
  show gf_G X E Q 4 gf_φ μ 0 [(0, .ref (gf_ad E 65)), (1, .int (gf_i r))] []
  have hrr := hrs r hr6.1 hr6.2
  refine gf_aload_n C dd_Mo_lacksTold_0 0 rfl ?_
  refine gf_getA (r := 66) C gf_cl7 fl_Mo_7 dd_Mo_lacksTold_1 rfl (show gf_is 81 65 0 7 26 by decide) (by decide) (by decide) ?_
  refine gf_iload_n C dd_Mo_lacksTold_4 1 rfl ?_
  refine gf_iald C dd_Mo_lacksTold_5 (show gf_is 81 66 1 0 6 by decide) (by omega) (fun hv5 => ?_)
  refine gf_nm (fun x6 hx6 => ?_)
  refine gf_istore_n (lv' := [(2, .int (gf_i x6)), (0, .ref (gf_ad E 65)), (1, .int (gf_i r))]) C dd_Mo_lacksTold_6 (by decide) rfl ?_
  refine gf_iload_n C dd_Mo_lacksTold_7 0 rfl ?_
  refine gf_gi2l C dd_Mo_lacksTold_8 (by omega) ?_
  refine gf_ldc2 2 C dd_Mo_lacksTold_9 ck_Mo_210 (by decide +kernel) ?_
  refine gf_ldc2 9 C dd_Mo_lacksTold_12 ck_Mo_129 (by decide +kernel) ?_
  refine gf_callSi (st := []) (As := [.long (gf_l x6), .long (gf_l 2), .long (gf_l 9)]) C wk_Mo_69 (ct_Mo_in (gf_xl X) E x6 2 9 μ (by omega) (by omega) (by omega)) rfl ⟨rfl, rfl, rfl, rfl⟩ (Nat.le_of_ble_eq_true rfl) rfl dd_Mo_lacksTold_15 (fun r15 m15 hR15 hp15 => ?_)
  have hr15 := hp15.1
  refine gf_pm hp15.2 ?_
  refine gf_if_ne 35 C dd_Mo_lacksTold_18 (by decide) (by omega) (fun h18 => ?_) (fun h18 => ?_)
  · skip
    refine gf_iconst C dd_Mo_lacksTold_35 ?_
    refine gf_istore_n (lv' := [(3, .int (gf_i 0)), (2, .int (gf_i x6)), (0, .ref (gf_ad E 65)), (1, .int (gf_i r))]) C dd_Mo_lacksTold_36 (by decide) rfl ?_
    have L37_1 : ∀ (N : Nat) (k : Int) (m : gf_M) , (0 ≤ k ∧ k ≤ μ 66 r ∧ (∀ j : Int, 0 ≤ j → j < k → m 78 j = gm_row μ r j) ∧ (∀ j : Int, 0 ≤ j → j < k → 0 ≤ gm_row μ r j ∧ gm_row μ r j ≤ 10 ∧ (j ≠ μ 66 r - 1 → gm_row μ r j ≤ 9)) ∧ ∀ a b : Int, a ≠ 78 → m a b = μ a b) → (9 - k).toNat < N → gf_G X E Q 4 gf_φ m 37 [(3, .int (gf_i k)), (2, .int (gf_i x6)), (0, .ref (gf_ad E 65)), (1, .int (gf_i r))] [] := by
      intro N
      induction N with
      | zero => intro k m hinv hN; exact absurd hN (Nat.not_lt_zero _)
      | succ N ih37_1 =>
        intro k m hinv hN
        have hinv0 := hinv
        obtain ⟨hk0, hk1, hk2, hk3, hk4⟩ := hinv
        refine gf_iload_n C dd_Mo_lacksTold_37 0 rfl ?_
        refine gf_iload_n C dd_Mo_lacksTold_38 1 rfl ?_
        refine gf_icmp_ge 101 C dd_Mo_lacksTold_39 (by decide) (by omega) (by omega) (fun h39 => ?_) (fun h39 => ?_)
        · skip
          refine gf_iconst C dd_Mo_lacksTold_101 ?_
          refine gf_iret C hQ dd_Mo_lacksTold_102 (by omega) ?_
          have ek : k = μ 66 r := by omega
          rw [ek] at hk2 hk3
          have he : pf_eok (gm_row μ r) (μ 66 r) := ⟨fun j h0 h1 => ⟨(hk3 j h0 (by omega)).1, (hk3 j h0 (by omega)).2.2 (by omega)⟩, (hk3 (μ 66 r - 1) (by omega) (by omega)).1, (hk3 (μ 66 r - 1) (by omega) (by omega)).2.1⟩
          exact ⟨fun h => absurd h (by omega), fun _ => ⟨fun h => absurd h (by omega), fun _ => ⟨fun h => absurd he h, fun _ => ⟨rfl, hk2, hk4⟩⟩⟩⟩
        · skip
          refine gf_aload_n C dd_Mo_lacksTold_42 2 rfl ?_
          refine gf_getA (r := 78) C gf_cl7 fl_Mo_51 dd_Mo_lacksTold_43 rfl (show gf_is 81 65 0 7 26 by decide) (by decide) (by decide) ?_
          refine gf_iload_n C dd_Mo_lacksTold_46 0 rfl ?_
          refine gf_aload_n C dd_Mo_lacksTold_47 2 rfl ?_
          refine gf_getA (r := 67) C gf_cl7 fl_Mo_13 dd_Mo_lacksTold_48 rfl (show gf_is 81 65 0 7 26 by decide) (by decide) (by decide) ?_
          refine gf_bipush C dd_Mo_lacksTold_51 (by decide +kernel) ?_
          refine gf_iload_n C dd_Mo_lacksTold_53 3 rfl ?_
          refine gf_imul C dd_Mo_lacksTold_54 ?_
          refine gf_iload_n C dd_Mo_lacksTold_55 0 rfl ?_
          refine gf_iadd C dd_Mo_lacksTold_56 ?_
          refine gf_iald C dd_Mo_lacksTold_57 (show gf_is 81 67 1 0 240 by decide) (by omega) (fun hv57 => ?_)
          refine gf_iast C dd_Mo_lacksTold_58 (show gf_is 81 78 1 0 9 by decide) (by omega) (by omega) ?_
          refine gf_nmM (fun m58 hm58 => ?_)
          have f58 : m58 78 k = gm_row μ r k := by rw [hm58, gf_up_s, hk4 67 _ (by decide)]; rfl
          have o58 : ∀ a b : Int, a ≠ 78 → m58 a b = μ a b := fun a b h => by rw [hm58, gf_up_k h]; exact hk4 a b h
          refine gf_aload_n C dd_Mo_lacksTold_59 2 rfl ?_
          refine gf_getA (r := 78) C gf_cl7 fl_Mo_51 dd_Mo_lacksTold_60 rfl (show gf_is 81 65 0 7 26 by decide) (by decide) (by decide) ?_
          refine gf_iload_n C dd_Mo_lacksTold_63 0 rfl ?_
          refine gf_iald C dd_Mo_lacksTold_64 (show gf_is 81 78 1 0 9 by decide) (by omega) (fun hv64 => ?_)
          refine gf_gi2l C dd_Mo_lacksTold_65 (by omega) ?_
          refine gf_lconst 0 C dd_Mo_lacksTold_66 (by decide +kernel) ?_
          refine gf_iload_n C dd_Mo_lacksTold_67 0 rfl ?_
          refine gf_iload_n C dd_Mo_lacksTold_68 1 rfl ?_
          refine gf_iconst C dd_Mo_lacksTold_69 ?_
          refine gf_isub C dd_Mo_lacksTold_70 ?_
          refine gf_icmp_ne 80 C dd_Mo_lacksTold_71 (by decide) (by omega) (by omega) (fun h71 => ?_) (fun h71 => ?_)
          · skip
            refine gf_ldc2 9 C dd_Mo_lacksTold_80 ck_Mo_129 (by decide +kernel) ?_
            refine gf_callSi (st := []) (As := [.long (gf_l (m58 78 k)), .long (gf_l 0), .long (gf_l 9)]) C wk_Mo_69 (ct_Mo_in (gf_xl X) E (m58 78 k) 0 9 m58 (by omega) (by omega) (by omega)) rfl ⟨rfl, rfl, rfl, rfl⟩ (Nat.le_of_ble_eq_true rfl) rfl dd_Mo_lacksTold_83 (fun r83 m83 hR83 hp83 => ?_)
            have hr83 := hp83.1
            refine gf_pm hp83.2 ?_
            refine gf_if_ne 95 C dd_Mo_lacksTold_86 (by decide) (by omega) (fun h86 => ?_) (fun h86 => ?_)
            · skip
              obtain ⟨x95, hx95⟩ : ∃ y : Int, y = k + 1 := ⟨_, rfl⟩
              refine gf_iinc (q := 0) (v := x95) (lv' := [(3, .int (gf_i x95)), (2, .int (gf_i x6)), (0, .ref (gf_ad E 65)), (1, .int (gf_i r))]) C dd_Mo_lacksTold_95 rfl hx95 (by decide) rfl ?_
              refine gf_goto 37 C dd_Mo_lacksTold_98 (by decide) ?_
              refine gf_lsub [0, 1, 2, 3] rfl ?_
              exact ih37_1 x95 m58 (by
                      refine ⟨by omega, by omega, fun j h0 h1 => ?_, fun j h0 h1 => ?_, o58⟩
                      · by_cases e : j = k
                        · rw [e]; exact f58
                        · rw [hm58, gf_up_j e]; exact hk2 j h0 (by omega)
                      · by_cases e : j = k
                        · rw [e]
                          rcases hr83 with h | h
                          · exact ⟨by omega, by omega, fun h2 => by omega⟩
                          · exfalso; omega
                        · exact hk3 j h0 (by omega)) (by omega)
            · skip
              refine gf_aload_n C dd_Mo_lacksTold_89 2 rfl ?_
              refine gf_iconst C dd_Mo_lacksTold_90 ?_
              refine gf_callVi (st := []) (As := [.int (gf_i 3)]) C wk_Mo_77 gf_cl7 (show gf_is 81 65 0 7 26 by decide) (ct_Mo_find (gf_xl X) E 3 m58 (by omega)) rfl ⟨rfl, rfl, rfl, rfl⟩ (Nat.le_of_ble_eq_true rfl) rfl dd_Mo_lacksTold_91 (fun r91 m91 hR91 hp91 => ?_)
              refine gf_iret C hQ dd_Mo_lacksTold_94 (by omega) ?_
              have hno : ¬ pf_eok (gm_row μ r) (μ 66 r) := fun he => by
                rcases hr83 with h | h
                · omega
                · apply h.1
                  by_cases ek : k = μ 66 r - 1
                  · have := he.2
                    rw [← ek, ← f58] at this
                    omega
                  · have := he.1 k (by omega) (by omega)
                    rw [← f58] at this
                    omega
              refine ⟨fun h => absurd h (by omega), fun _ => ⟨fun h => absurd h (by omega), fun _ => ⟨fun _ => ⟨hp91.1, ?_⟩, fun h => absurd h hno⟩⟩⟩
              rw [hp91.2]
              exact gm_fd_sc (fun a b hab => o58 a b (by unfold gm_scr at hab; omega))
          · skip
            refine gf_ldc2 10 C dd_Mo_lacksTold_74 ck_Mo_230 (by decide +kernel) ?_
            refine gf_goto 83 C dd_Mo_lacksTold_77 (by decide) ?_
            refine gf_callSi (st := []) (As := [.long (gf_l (m58 78 k)), .long (gf_l 0), .long (gf_l 10)]) C wk_Mo_69 (ct_Mo_in (gf_xl X) E (m58 78 k) 0 10 m58 (by omega) (by omega) (by omega)) rfl ⟨rfl, rfl, rfl, rfl⟩ (Nat.le_of_ble_eq_true rfl) rfl dd_Mo_lacksTold_83 (fun r83 m83 hR83 hp83 => ?_)
            have hr83 := hp83.1
            refine gf_pm hp83.2 ?_
            refine gf_if_ne 95 C dd_Mo_lacksTold_86 (by decide) (by omega) (fun h86 => ?_) (fun h86 => ?_)
            · skip
              obtain ⟨x95, hx95⟩ : ∃ y : Int, y = k + 1 := ⟨_, rfl⟩
              refine gf_iinc (q := 0) (v := x95) (lv' := [(3, .int (gf_i x95)), (2, .int (gf_i x6)), (0, .ref (gf_ad E 65)), (1, .int (gf_i r))]) C dd_Mo_lacksTold_95 rfl hx95 (by decide) rfl ?_
              refine gf_goto 37 C dd_Mo_lacksTold_98 (by decide) ?_
              refine gf_lsub [0, 1, 2, 3] rfl ?_
              exact ih37_1 x95 m58 (by
                      refine ⟨by omega, by omega, fun j h0 h1 => ?_, fun j h0 h1 => ?_, o58⟩
                      · by_cases e : j = k
                        · rw [e]; exact f58
                        · rw [hm58, gf_up_j e]; exact hk2 j h0 (by omega)
                      · by_cases e : j = k
                        · rw [e]
                          rcases hr83 with h | h
                          · exact ⟨by omega, by omega, fun h2 => by omega⟩
                          · exfalso; omega
                        · exact hk3 j h0 (by omega)) (by omega)
            · skip
              refine gf_aload_n C dd_Mo_lacksTold_89 2 rfl ?_
              refine gf_iconst C dd_Mo_lacksTold_90 ?_
              refine gf_callVi (st := []) (As := [.int (gf_i 3)]) C wk_Mo_77 gf_cl7 (show gf_is 81 65 0 7 26 by decide) (ct_Mo_find (gf_xl X) E 3 m58 (by omega)) rfl ⟨rfl, rfl, rfl, rfl⟩ (Nat.le_of_ble_eq_true rfl) rfl dd_Mo_lacksTold_91 (fun r91 m91 hR91 hp91 => ?_)
              refine gf_iret C hQ dd_Mo_lacksTold_94 (by omega) ?_
              have hno : ¬ pf_eok (gm_row μ r) (μ 66 r) := fun he => by
                rcases hr83 with h | h
                · omega
                · apply h.1
                  by_cases ek : k = μ 66 r - 1
                  · have := he.2
                    rw [← ek, ← f58] at this
                    omega
                  · have := he.1 k (by omega) (by omega)
                    rw [← f58] at this
                    omega
              refine ⟨fun h => absurd h (by omega), fun _ => ⟨fun h => absurd h (by omega), fun _ => ⟨fun _ => ⟨hp91.1, ?_⟩, fun h => absurd h hno⟩⟩⟩
              rw [hp91.2]
              exact gm_fd_sc (fun a b hab => o58 a b (by unfold gm_scr at hab; omega))
    refine gf_lsub [0, 1, 2, 3] rfl ?_
    exact L37_1 _ 0 μ (⟨by omega, by omega, fun j h0 h1 => by omega, fun j h0 h1 => by omega, fun a b _ => rfl⟩) (Nat.lt_succ_self _)
  · skip
    refine gf_aload_n C dd_Mo_lacksTold_21 1 rfl ?_
    refine gf_iload_n C dd_Mo_lacksTold_22 0 rfl ?_
    refine gf_if_ge 30 C dd_Mo_lacksTold_23 (by decide) (by omega) (fun h23 => ?_) (fun h23 => ?_)
    · skip
      refine gf_iconst C dd_Mo_lacksTold_30 ?_
      refine gf_callVi (st := []) (As := [.int (gf_i 5)]) C wk_Mo_77 gf_cl7 (show gf_is 81 65 0 7 26 by decide) (ct_Mo_find (gf_xl X) E 5 μ (by omega)) rfl ⟨rfl, rfl, rfl, rfl⟩ (Nat.le_of_ble_eq_true rfl) rfl dd_Mo_lacksTold_31 (fun r31 m31 hR31 hp31 => ?_)
      refine gf_iret C hQ dd_Mo_lacksTold_34 (by omega) ?_
      first
      | (exfalso; omega)
      | exact ⟨fun _ => hp31, fun h => absurd h (by omega)⟩
      | exact ⟨fun h => absurd h (by omega), fun _ => ⟨fun _ => hp31, fun h => absurd h (by omega)⟩⟩
    · skip
      refine gf_iconst C dd_Mo_lacksTold_26 ?_
      refine gf_goto 31 C dd_Mo_lacksTold_27 (by decide) ?_
      refine gf_callVi (st := []) (As := [.int (gf_i 1)]) C wk_Mo_77 gf_cl7 (show gf_is 81 65 0 7 26 by decide) (ct_Mo_find (gf_xl X) E 1 μ (by omega)) rfl ⟨rfl, rfl, rfl, rfl⟩ (Nat.le_of_ble_eq_true rfl) rfl dd_Mo_lacksTold_31 (fun r31 m31 hR31 hp31 => ?_)
      refine gf_iret C hQ dd_Mo_lacksTold_34 (by omega) ?_
      first
      | (exfalso; omega)
      | exact ⟨fun _ => hp31, fun h => absurd h (by omega)⟩
      | exact ⟨fun h => absurd h (by omega), fun _ => ⟨fun _ => hp31, fun h => absurd h (by omega)⟩⟩

theorem dd_Mo_kindSet_0 : decode cc_Mo_kindSet 0 = .ok (.aload_n 0, 1) := by decide +kernel
theorem dd_Mo_kindSet_1 : decode cc_Mo_kindSet 1 = .ok (.getfield 7, 3) := by decide +kernel
theorem dd_Mo_kindSet_4 : decode cc_Mo_kindSet 4 = .ok (.iload_n 2, 1) := by decide +kernel
theorem dd_Mo_kindSet_5 : decode cc_Mo_kindSet 5 = .ok (.iaload, 1) := by decide +kernel
theorem dd_Mo_kindSet_6 : decode cc_Mo_kindSet 6 = .ok (.iconst 1, 1) := by decide +kernel
theorem dd_Mo_kindSet_7 : decode cc_Mo_kindSet 7 = .ok (.isub, 1) := by decide +kernel
theorem dd_Mo_kindSet_8 : decode cc_Mo_kindSet 8 = .ok (.istore_n 3, 1) := by decide +kernel
theorem dd_Mo_kindSet_9 : decode cc_Mo_kindSet 9 = .ok (.iconst 0, 1) := by decide +kernel
theorem dd_Mo_kindSet_10 : decode cc_Mo_kindSet 10 = .ok (.istore 4, 2) := by decide +kernel
theorem dd_Mo_kindSet_12 : decode cc_Mo_kindSet 12 = .ok (.iconst 0, 1) := by decide +kernel
theorem dd_Mo_kindSet_13 : decode cc_Mo_kindSet 13 = .ok (.istore 5, 2) := by decide +kernel
theorem dd_Mo_kindSet_15 : decode cc_Mo_kindSet 15 = .ok (.iload 5, 2) := by decide +kernel
theorem dd_Mo_kindSet_17 : decode cc_Mo_kindSet 17 = .ok (.iconst 5, 1) := by decide +kernel
theorem dd_Mo_kindSet_18 : decode cc_Mo_kindSet 18 = .ok (.if_icmp .gt 43, 3) := by decide +kernel
theorem dd_Mo_kindSet_21 : decode cc_Mo_kindSet 21 = .ok (.iload 4, 2) := by decide +kernel
theorem dd_Mo_kindSet_23 : decode cc_Mo_kindSet 23 = .ok (.aload_n 0, 1) := by decide +kernel
theorem dd_Mo_kindSet_24 : decode cc_Mo_kindSet 24 = .ok (.iload_n 1, 1) := by decide +kernel
theorem dd_Mo_kindSet_25 : decode cc_Mo_kindSet 25 = .ok (.iload 5, 2) := by decide +kernel
theorem dd_Mo_kindSet_27 : decode cc_Mo_kindSet 27 = .ok (.aload_n 0, 1) := by decide +kernel
theorem dd_Mo_kindSet_28 : decode cc_Mo_kindSet 28 = .ok (.getfield 51, 3) := by decide +kernel
theorem dd_Mo_kindSet_31 : decode cc_Mo_kindSet 31 = .ok (.iload_n 3, 1) := by decide +kernel
theorem dd_Mo_kindSet_32 : decode cc_Mo_kindSet 32 = .ok (.invokevirtual 143, 3) := by decide +kernel
theorem dd_Mo_kindSet_35 : decode cc_Mo_kindSet 35 = .ok (.aload_n 0, 1) := by decide +kernel
theorem dd_Mo_kindSet_36 : decode cc_Mo_kindSet 36 = .ok (.getfield 51, 3) := by decide +kernel
theorem dd_Mo_kindSet_39 : decode cc_Mo_kindSet 39 = .ok (.iload_n 3, 1) := by decide +kernel
theorem dd_Mo_kindSet_40 : decode cc_Mo_kindSet 40 = .ok (.iaload, 1) := by decide +kernel
theorem dd_Mo_kindSet_41 : decode cc_Mo_kindSet 41 = .ok (.if_icmp .ne 10, 3) := by decide +kernel
theorem dd_Mo_kindSet_44 : decode cc_Mo_kindSet 44 = .ok (.iconst 1, 1) := by decide +kernel
theorem dd_Mo_kindSet_45 : decode cc_Mo_kindSet 45 = .ok (.iload 5, 2) := by decide +kernel
theorem dd_Mo_kindSet_47 : decode cc_Mo_kindSet 47 = .ok (.ishl, 1) := by decide +kernel
theorem dd_Mo_kindSet_48 : decode cc_Mo_kindSet 48 = .ok (.goto 4, 3) := by decide +kernel
theorem dd_Mo_kindSet_51 : decode cc_Mo_kindSet 51 = .ok (.iconst 0, 1) := by decide +kernel
theorem dd_Mo_kindSet_52 : decode cc_Mo_kindSet 52 = .ok (.ior, 1) := by decide +kernel
theorem dd_Mo_kindSet_53 : decode cc_Mo_kindSet 53 = .ok (.istore 4, 2) := by decide +kernel
theorem dd_Mo_kindSet_55 : decode cc_Mo_kindSet 55 = .ok (.iinc 5 1, 3) := by decide +kernel
theorem dd_Mo_kindSet_58 : decode cc_Mo_kindSet 58 = .ok (.goto (-43), 3) := by decide +kernel
theorem dd_Mo_kindSet_61 : decode cc_Mo_kindSet 61 = .ok (.iload 4, 2) := by decide +kernel
theorem dd_Mo_kindSet_63 : decode cc_Mo_kindSet 63 = .ok (.ireturn, 1) := by decide +kernel
set_option maxRecDepth 100000 in
set_option maxHeartbeats 4000000 in
theorem ct_Mo_kindSet (l : Launch) (E : gf_E) (i r : Int) (μ : gf_M) (hg : gm_okg μ i) (hr6 : 0 ≤ r ∧ r < 6) (hn : 2 ≤ μ 66 r ∧ μ 66 r ≤ 9) (he : pf_eok (μ 78) (μ 66 r)) : gf_Mi l E yy_Mo_kindSet cc_Mo_kindSet 6 .int (gf_rm 3 77) 81 gf_ref μ [.ref (gf_ad E 65), .int (gf_i i), .int (gf_i r)] (fun q μ' => (q = pf_ksB (μ 71 (10 + i)) (μ 71 (17 + i)) (μ 78) (μ 66 r) ∧ 0 ≤ q ∧ q < 64) ∧ μ' = μ) := by
  refine gf_mi (by decide +kernel) (Nat.le_of_ble_eq_true rfl) (by decide) (fun X Q hlx C hQ => ?_)
  subst hlx
  replace C : gf_C X E cc_Mo_kindSet 6 "GuardFiguresModel" (gf_rm 3 77) := C
  show gf_G X E Q 6 gf_φ μ 0 [(0, .ref (gf_ad E 65)), (1, .int (gf_i i)), (2, .int (gf_i r))] []
  have hg0 := hg.1
  have he2 := he.2
  refine gf_aload_n C dd_Mo_kindSet_0 0 rfl ?_
  refine gf_getA (r := 66) C gf_cl7 fl_Mo_7 dd_Mo_kindSet_1 rfl (show gf_is 81 65 0 7 26 by decide) (by decide) (by decide) ?_
  refine gf_iload_n C dd_Mo_kindSet_4 2 rfl ?_
  refine gf_iald C dd_Mo_kindSet_5 (show gf_is 81 66 1 0 6 by decide) (by omega) (fun hv5 => ?_)
  refine gf_iconst C dd_Mo_kindSet_6 ?_
  refine gf_isub C dd_Mo_kindSet_7 ?_
  refine gf_nm (fun x8 hx8 => ?_)
  refine gf_istore_n (lv' := [(3, .int (gf_i x8)), (0, .ref (gf_ad E 65)), (1, .int (gf_i i)), (2, .int (gf_i r))]) C dd_Mo_kindSet_8 (by decide) rfl ?_
  refine gf_iconst C dd_Mo_kindSet_9 ?_
  refine gf_istore (lv' := [(4, .int (gf_i 0)), (3, .int (gf_i x8)), (0, .ref (gf_ad E 65)), (1, .int (gf_i i)), (2, .int (gf_i r))]) C dd_Mo_kindSet_10 (by decide) rfl ?_
  refine gf_iconst C dd_Mo_kindSet_12 ?_
  refine gf_istore (lv' := [(5, .int (gf_i 0)), (4, .int (gf_i 0)), (3, .int (gf_i x8)), (0, .ref (gf_ad E 65)), (1, .int (gf_i i)), (2, .int (gf_i r))]) C dd_Mo_kindSet_13 (by decide) rfl ?_
  have L15_1 : ∀ (N : Nat) (z kd : Int) , (0 ≤ kd ∧ kd ≤ 6 ∧ z = pf_set (fun kd => decide (pf_reck kd (μ 71 (10 + i)) (μ 71 (17 + i)) (μ 78) (μ 66 r - 1) = μ 78 (μ 66 r - 1))) kd.toNat) → (6 - kd).toNat < N → gf_G X E Q 6 gf_φ μ 15 [(4, .int (gf_i z)), (5, .int (gf_i kd)), (0, .ref (gf_ad E 65)), (1, .int (gf_i i)), (2, .int (gf_i r)), (3, .int (gf_i x8))] [] := by
    intro N
    induction N with
    | zero => intro z kd hinv hN; exact absurd hN (Nat.not_lt_zero _)
    | succ N ih15_1 =>
      intro z kd hinv hN
      have hinv0 := hinv
      obtain ⟨hd0, hd1, hz⟩ := hinv
      have hzR := pf_set_R (fun kd => decide (pf_reck kd (μ 71 (10 + i)) (μ 71 (17 + i)) (μ 78) (μ 66 r - 1) = μ 78 (μ 66 r - 1))) kd.toNat
      rw [← hz] at hzR
      have h26 : (2 : Int) ^ kd.toNat ≤ 64 := (show ∀ n : Nat, n < 7 → (2 : Int) ^ n ≤ 64 by decide) kd.toNat (by omega)
      refine gf_iload C dd_Mo_kindSet_15 1 rfl ?_
      refine gf_iconst C dd_Mo_kindSet_17 ?_
      refine gf_icmp_gt 61 C dd_Mo_kindSet_18 (by decide) (by omega) (by omega) (fun h18 => ?_) (fun h18 => ?_)
      · skip
        refine gf_iload C dd_Mo_kindSet_61 0 rfl ?_
        refine gf_iret C hQ dd_Mo_kindSet_63 (by omega) ?_
        have e6 : kd.toNat = 6 := by omega
        rw [e6] at hz h26
        rw [e6] at hzR
        exact ⟨⟨hz, by omega, by omega⟩, rfl⟩
      · skip
        have hsh := gf_shl1 (i := kd) (by omega)
        refine gf_iload C dd_Mo_kindSet_21 0 rfl ?_
        refine gf_aload_n C dd_Mo_kindSet_23 2 rfl ?_
        refine gf_iload_n C dd_Mo_kindSet_24 3 rfl ?_
        refine gf_iload C dd_Mo_kindSet_25 1 rfl ?_
        refine gf_aload_n C dd_Mo_kindSet_27 2 rfl ?_
        refine gf_getA (r := 78) C gf_cl7 fl_Mo_51 dd_Mo_kindSet_28 rfl (show gf_is 81 65 0 7 26 by decide) (by decide) (by decide) ?_
        refine gf_iload_n C dd_Mo_kindSet_31 5 rfl ?_
        refine gf_callVi (st := [.int (gf_i z)]) (As := [.int (gf_i i), .int (gf_i kd), .ref (gf_ad E 78), .int (gf_i x8)]) C wk_Mo_143 gf_cl7 (show gf_is 81 65 0 7 26 by decide) (ct_Mo_asKind (gf_xl X) E i kd 78 x8 9 μ (by omega) hg0 hg.2.2.1 hg.2.2.2 (show gf_is 81 78 1 0 9 by decide) (by omega) (fun j h0 h1 => he.1 j h0 (by omega))) rfl ⟨rfl, rfl, rfl, rfl⟩ (Nat.le_of_ble_eq_true rfl) rfl dd_Mo_kindSet_32 (fun r32 m32 hR32 hp32 => ?_)
        have hr32 := hp32.1
        refine gf_pm hp32.2 ?_
        have hr32b := hr32.2
        refine gf_aload_n C dd_Mo_kindSet_35 2 rfl ?_
        refine gf_getA (r := 78) C gf_cl7 fl_Mo_51 dd_Mo_kindSet_36 rfl (show gf_is 81 65 0 7 26 by decide) (by decide) (by decide) ?_
        refine gf_iload_n C dd_Mo_kindSet_39 5 rfl ?_
        refine gf_iald C dd_Mo_kindSet_40 (show gf_is 81 78 1 0 9 by decide) (by omega) (fun hv40 => ?_)
        refine gf_icmp_ne 51 C dd_Mo_kindSet_41 (by decide) (by omega) (by omega) (fun h41 => ?_) (fun h41 => ?_)
        · skip
          refine gf_iconst C dd_Mo_kindSet_51 ?_
          refine gf_ior C dd_Mo_kindSet_52 (by omega) ?_
          refine gf_nm (fun x53 hx53 => ?_)
          refine gf_istore (lv' := [(4, .int (gf_i x53)), (5, .int (gf_i kd)), (0, .ref (gf_ad E 65)), (1, .int (gf_i i)), (2, .int (gf_i r)), (3, .int (gf_i x8))]) C dd_Mo_kindSet_53 (by decide) rfl ?_
          obtain ⟨x55, hx55⟩ : ∃ y : Int, y = kd + 1 := ⟨_, rfl⟩
          refine gf_iinc (q := 1) (v := x55) (lv' := [(5, .int (gf_i x55)), (4, .int (gf_i x53)), (0, .ref (gf_ad E 65)), (1, .int (gf_i i)), (2, .int (gf_i r)), (3, .int (gf_i x8))]) C dd_Mo_kindSet_55 rfl hx55 (by decide) rfl ?_
          refine gf_goto 15 C dd_Mo_kindSet_58 (by decide) ?_
          refine gf_lsub [1, 0, 2, 3, 4, 5] rfl ?_
          exact ih15_1 x53 x55 (by
                  refine ⟨by omega, by omega, ?_⟩
                  rw [hx55, show (kd + 1).toNat = kd.toNat + 1 by omega]
                  show _ = if decide (pf_reck ((kd.toNat : Nat) : Int) (μ 71 (10 + i)) (μ 71 (17 + i)) (μ 78) (μ 66 r - 1) = μ 78 (μ 66 r - 1)) = true then gf_or (pf_set _ kd.toNat) (gf_shl 1 ((kd.toNat : Nat) : Int)) else pf_set _ kd.toNat
                  rw [show ((kd.toNat : Nat) : Int) = kd by omega, ← hz]
                  have hre := hr32.1
                  rw [hx8] at hre h41
                  rw [← hre]
                  first
                  | (rw [if_pos (by simpa using h41)]; exact hx53)
                  | (rw [if_neg (by simpa using h41), hx53]; exact gf_or_0 (by omega))) (by omega)
        · skip
          refine gf_iconst C dd_Mo_kindSet_44 ?_
          refine gf_iload C dd_Mo_kindSet_45 1 rfl ?_
          refine gf_ishl C dd_Mo_kindSet_47 (by omega) ?_
          refine gf_goto 52 C dd_Mo_kindSet_48 (by decide) ?_
          refine gf_ior C dd_Mo_kindSet_52 (by omega) ?_
          refine gf_nm (fun x53 hx53 => ?_)
          refine gf_istore (lv' := [(4, .int (gf_i x53)), (5, .int (gf_i kd)), (0, .ref (gf_ad E 65)), (1, .int (gf_i i)), (2, .int (gf_i r)), (3, .int (gf_i x8))]) C dd_Mo_kindSet_53 (by decide) rfl ?_
          obtain ⟨x55, hx55⟩ : ∃ y : Int, y = kd + 1 := ⟨_, rfl⟩
          refine gf_iinc (q := 1) (v := x55) (lv' := [(5, .int (gf_i x55)), (4, .int (gf_i x53)), (0, .ref (gf_ad E 65)), (1, .int (gf_i i)), (2, .int (gf_i r)), (3, .int (gf_i x8))]) C dd_Mo_kindSet_55 rfl hx55 (by decide) rfl ?_
          refine gf_goto 15 C dd_Mo_kindSet_58 (by decide) ?_
          refine gf_lsub [1, 0, 2, 3, 4, 5] rfl ?_
          exact ih15_1 x53 x55 (by
                  refine ⟨by omega, by omega, ?_⟩
                  rw [hx55, show (kd + 1).toNat = kd.toNat + 1 by omega]
                  show _ = if decide (pf_reck ((kd.toNat : Nat) : Int) (μ 71 (10 + i)) (μ 71 (17 + i)) (μ 78) (μ 66 r - 1) = μ 78 (μ 66 r - 1)) = true then gf_or (pf_set _ kd.toNat) (gf_shl 1 ((kd.toNat : Nat) : Int)) else pf_set _ kd.toNat
                  rw [show ((kd.toNat : Nat) : Int) = kd by omega, ← hz]
                  have hre := hr32.1
                  rw [hx8] at hre h41
                  rw [← hre]
                  first
                  | (rw [if_pos (by simpa using h41)]; exact hx53)
                  | (rw [if_neg (by simpa using h41), hx53]; exact gf_or_0 (by omega))) (by omega)
  refine gf_lsub [1, 0, 3, 4, 5, 2] rfl ?_
  exact L15_1 _ 0 0 (⟨by omega, by omega, rfl⟩) (Nat.lt_succ_self _)

theorem dd_Mo_kinds_0 : decode cc_Mo_kinds 0 = .ok (.aload_n 0, 1) := by decide +kernel
theorem dd_Mo_kinds_1 : decode cc_Mo_kinds 1 = .ok (.iload_n 1, 1) := by decide +kernel
theorem dd_Mo_kinds_2 : decode cc_Mo_kinds 2 = .ok (.invokevirtual 183, 3) := by decide +kernel
theorem dd_Mo_kinds_5 : decode cc_Mo_kinds 5 = .ok (.ifCond .eq 18, 3) := by decide +kernel
theorem dd_Mo_kinds_8 : decode cc_Mo_kinds 8 = .ok (.iload_n 2, 1) := by decide +kernel
theorem dd_Mo_kinds_9 : decode cc_Mo_kinds 9 = .ok (.invokestatic 73, 3) := by decide +kernel
theorem dd_Mo_kinds_12 : decode cc_Mo_kinds 12 = .ok (.ifCond .eq 11, 3) := by decide +kernel
theorem dd_Mo_kinds_15 : decode cc_Mo_kinds 15 = .ok (.aload_n 0, 1) := by decide +kernel
theorem dd_Mo_kinds_16 : decode cc_Mo_kinds 16 = .ok (.iload_n 2, 1) := by decide +kernel
theorem dd_Mo_kinds_17 : decode cc_Mo_kinds 17 = .ok (.invokevirtual 244, 3) := by decide +kernel
theorem dd_Mo_kinds_20 : decode cc_Mo_kinds 20 = .ok (.goto 4, 3) := by decide +kernel
theorem dd_Mo_kinds_23 : decode cc_Mo_kinds 23 = .ok (.iconst (-1), 1) := by decide +kernel
theorem dd_Mo_kinds_24 : decode cc_Mo_kinds 24 = .ok (.istore_n 3, 1) := by decide +kernel
theorem dd_Mo_kinds_25 : decode cc_Mo_kinds 25 = .ok (.iload_n 3, 1) := by decide +kernel
theorem dd_Mo_kinds_26 : decode cc_Mo_kinds 26 = .ok (.ifCond .ge 7, 3) := by decide +kernel
theorem dd_Mo_kinds_29 : decode cc_Mo_kinds 29 = .ok (.iload_n 3, 1) := by decide +kernel
theorem dd_Mo_kinds_30 : decode cc_Mo_kinds 30 = .ok (.goto 9, 3) := by decide +kernel
theorem dd_Mo_kinds_33 : decode cc_Mo_kinds 33 = .ok (.aload_n 0, 1) := by decide +kernel
theorem dd_Mo_kinds_34 : decode cc_Mo_kinds 34 = .ok (.iload_n 1, 1) := by decide +kernel
theorem dd_Mo_kinds_35 : decode cc_Mo_kinds 35 = .ok (.iload_n 2, 1) := by decide +kernel
theorem dd_Mo_kinds_36 : decode cc_Mo_kinds 36 = .ok (.invokevirtual 247, 3) := by decide +kernel
theorem dd_Mo_kinds_39 : decode cc_Mo_kinds 39 = .ok (.ireturn, 1) := by decide +kernel
set_option maxRecDepth 100000 in
set_option maxHeartbeats 4000000 in
theorem ct_Mo_kinds (l : Launch) (E : gf_E) (i r : Int) (μ : gf_M) (hi : gf_R i) (hr : gf_R r) (hok : gm_ok μ) (hrs : ∀ r : Int, 0 ≤ r → r < 6 → -1 ≤ μ 66 r ∧ μ 66 r ≤ 40)  : gf_Mi l E yy_Mo_kinds cc_Mo_kinds 4 .int (gf_rm 4 102) 81 gf_ref μ [.ref (gf_ad E 65), .int (gf_i i), .int (gf_i r)] (fun q μ' => (¬ (0 ≤ i ∧ i < μ 71 0 ∧ 0 ≤ r ∧ r < 6) → q = -1 ∧ μ' = μ) ∧ (0 ≤ i ∧ i < μ 71 0 ∧ 0 ≤ r ∧ r < 6 → (μ 66 r = -1 → q = -3 ∧ μ' = gm_fd μ 1) ∧ (μ 66 r ≠ -1 → (¬ (2 ≤ μ 66 r ∧ μ 66 r ≤ 9) → q = -3 ∧ μ' = gm_fd μ 5) ∧ (2 ≤ μ 66 r ∧ μ 66 r ≤ 9 → (¬ pf_eok (gm_row μ r) (μ 66 r) → q = -3 ∧ gm_sc μ' (gm_fd μ 3)) ∧ (pf_eok (gm_row μ r) (μ 66 r) → q = pf_ksB (μ 71 (10 + i)) (μ 71 (17 + i)) (gm_row μ r) (μ 66 r) ∧ gm_sc μ' μ))))) := by
  refine gf_mi (by decide +kernel) (Nat.le_of_ble_eq_true rfl) (by decide) (fun X Q hlx C hQ => ?_)
  subst hlx
  replace C : gf_C X E cc_Mo_kinds 4 "GuardFiguresModel" (gf_rm 4 102) := C
  show gf_G X E Q 4 gf_φ μ 0 [(0, .ref (gf_ad E 65)), (1, .int (gf_i i)), (2, .int (gf_i r))] []
  obtain ⟨hc, hgs, hn, hx, hd⟩ := id hok
  refine gf_aload_n C dd_Mo_kinds_0 0 rfl ?_
  refine gf_iload_n C dd_Mo_kinds_1 1 rfl ?_
  refine gf_callVi (st := []) (As := [.int (gf_i i)]) C wk_Mo_183 gf_cl7 (show gf_is 81 65 0 7 26 by decide) (ct_Mo_isGuard (gf_xl X) E i μ (by omega) (by omega)) rfl ⟨rfl, rfl, rfl, rfl⟩ (Nat.le_of_ble_eq_true rfl) rfl dd_Mo_kinds_2 (fun r2 m2 hR2 hp2 => ?_)
  have hr2 := hp2.1
  refine gf_pm hp2.2 ?_
  refine gf_if_eq 23 C dd_Mo_kinds_5 (by decide) (by omega) (fun h5 => ?_) (fun h5 => ?_)
  · skip
    refine gf_iconst C dd_Mo_kinds_23 ?_
    refine gf_istore_n (lv' := [(3, .int (gf_i (-1))), (0, .ref (gf_ad E 65)), (1, .int (gf_i i)), (2, .int (gf_i r))]) C dd_Mo_kinds_24 (by decide) rfl ?_
    refine gf_iload_n C dd_Mo_kinds_25 0 rfl ?_
    refine gf_if_ge 33 C dd_Mo_kinds_26 (by decide) (by omega) (fun h26 => ?_) (fun h26 => ?_)
    · skip
      exfalso; omega -- done
    · skip
      refine gf_iload_n C dd_Mo_kinds_29 0 rfl ?_
      refine gf_goto 39 C dd_Mo_kinds_30 (by decide) ?_
      refine gf_iret C hQ dd_Mo_kinds_39 (by omega) ?_
      first
      | (exact ⟨fun _ => ⟨rfl, rfl⟩, fun h => absurd h (by omega)⟩)
      | (have hne : ¬ (r17 = 0) := by omega
         refine ⟨fun h => absurd h (by omega), fun _ => ⟨hp17.1, fun hth => ⟨(hp17.2 hth).1, fun hnn => ⟨((hp17.2 hth).2 hnn).1, fun heo => absurd (((hp17.2 hth).2 hnn).2 heo).1 hne⟩⟩⟩⟩)
      | (refine ⟨fun h => absurd h (by omega), fun _ => ⟨fun h => absurd h hth, fun _ => ⟨fun h => absurd hnn h, fun _ => ⟨fun h => absurd heo h, fun _ => ⟨?_, (fun a b hab => o78 a b (by unfold gm_scr at hab; omega))⟩⟩⟩⟩⟩
         rw [hr36.1, q71, q71, q66]
         exact pf_ksB_congr (by omega) f78)
  · skip
    refine gf_iload_n C dd_Mo_kinds_8 2 rfl ?_
    refine gf_callSi (st := []) (As := [.int (gf_i r)]) C wk_Mo_73 (ct_Mo_isRow (gf_xl X) E r μ (by omega)) rfl ⟨rfl, rfl, rfl, rfl⟩ (Nat.le_of_ble_eq_true rfl) rfl dd_Mo_kinds_9 (fun r9 m9 hR9 hp9 => ?_)
    have hr9 := hp9.1
    refine gf_pm hp9.2 ?_
    refine gf_if_eq 23 C dd_Mo_kinds_12 (by decide) (by omega) (fun h12 => ?_) (fun h12 => ?_)
    · skip
      refine gf_iconst C dd_Mo_kinds_23 ?_
      refine gf_istore_n (lv' := [(3, .int (gf_i (-1))), (0, .ref (gf_ad E 65)), (1, .int (gf_i i)), (2, .int (gf_i r))]) C dd_Mo_kinds_24 (by decide) rfl ?_
      refine gf_iload_n C dd_Mo_kinds_25 0 rfl ?_
      refine gf_if_ge 33 C dd_Mo_kinds_26 (by decide) (by omega) (fun h26 => ?_) (fun h26 => ?_)
      · skip
        exfalso; omega -- done
      · skip
        refine gf_iload_n C dd_Mo_kinds_29 0 rfl ?_
        refine gf_goto 39 C dd_Mo_kinds_30 (by decide) ?_
        refine gf_iret C hQ dd_Mo_kinds_39 (by omega) ?_
        first
        | (exact ⟨fun _ => ⟨rfl, rfl⟩, fun h => absurd h (by omega)⟩)
        | (have hne : ¬ (r17 = 0) := by omega
           refine ⟨fun h => absurd h (by omega), fun _ => ⟨hp17.1, fun hth => ⟨(hp17.2 hth).1, fun hnn => ⟨((hp17.2 hth).2 hnn).1, fun heo => absurd (((hp17.2 hth).2 hnn).2 heo).1 hne⟩⟩⟩⟩)
        | (refine ⟨fun h => absurd h (by omega), fun _ => ⟨fun h => absurd h hth, fun _ => ⟨fun h => absurd hnn h, fun _ => ⟨fun h => absurd heo h, fun _ => ⟨?_, (fun a b hab => o78 a b (by unfold gm_scr at hab; omega))⟩⟩⟩⟩⟩
           rw [hr36.1, q71, q71, q66]
           exact pf_ksB_congr (by omega) f78)
    · skip
      have hin : 0 ≤ i ∧ i < μ 71 0 := by omega
      have hin2 : 0 ≤ r ∧ r < 6 := by omega
      clear hr2 hr9 hp2 hp9
      have hg := gm_ok_g hok hin
      have hg0 := hg.1
      have hrr := hrs r hin2.1 hin2.2
      refine gf_aload_n C dd_Mo_kinds_15 0 rfl ?_
      refine gf_iload_n C dd_Mo_kinds_16 2 rfl ?_
      refine gf_callVi (st := []) (As := [.int (gf_i r)]) C wk_Mo_244 gf_cl7 (show gf_is 81 65 0 7 26 by decide) (ct_Mo_lacksTold (gf_xl X) E r μ (by omega) (hrs)) rfl ⟨rfl, rfl, rfl, rfl⟩ (Nat.le_of_ble_eq_true rfl) rfl dd_Mo_kinds_17 (fun r17 m17 hR17 hp17 => ?_)
      refine gf_goto 24 C dd_Mo_kinds_20 (by decide) ?_
      refine gf_istore_n (lv' := [(3, .int (gf_i r17)), (0, .ref (gf_ad E 65)), (1, .int (gf_i i)), (2, .int (gf_i r))]) C dd_Mo_kinds_24 (by decide) rfl ?_
      refine gf_iload_n C dd_Mo_kinds_25 0 rfl ?_
      refine gf_if_ge 33 C dd_Mo_kinds_26 (by decide) (by omega) (fun h26 => ?_) (fun h26 => ?_)
      · skip
        have hlk := hp17
        have hth : μ 66 r ≠ -1 := fun h => by have := (hlk.1 h).1; omega
        have hl2 := hlk.2 hth
        have hnn : 2 ≤ μ 66 r ∧ μ 66 r ≤ 9 := by
          rcases Classical.em (2 ≤ μ 66 r ∧ μ 66 r ≤ 9) with h | h
          · exact h
          · have := (hl2.1 h).1; omega
        have hl3 := hl2.2 hnn
        have heo : pf_eok (gm_row μ r) (μ 66 r) := by
          rcases Classical.em (pf_eok (gm_row μ r) (μ 66 r)) with h | h
          · exact h
          · have := (hl3.1 h).1; omega
        obtain ⟨-, f78, o78⟩ := hl3.2 heo
        clear hlk hl2 hl3 hp17
        have q71 : ∀ b : Int, m17 71 b = μ 71 b := fun b => o78 71 b (by decide)
        have q66 : ∀ b : Int, m17 66 b = μ 66 b := fun b => o78 66 b (by decide)
        have q66r := q66 r
        have he78 : pf_eok (m17 78) (m17 66 r) := by rw [q66]; exact pf_eok_congr (by omega) f78 heo
        refine gf_aload_n C dd_Mo_kinds_33 1 rfl ?_
        refine gf_iload_n C dd_Mo_kinds_34 2 rfl ?_
        refine gf_iload_n C dd_Mo_kinds_35 3 rfl ?_
        refine gf_callVi (st := []) (As := [.int (gf_i i), .int (gf_i r)]) C wk_Mo_247 gf_cl7 (show gf_is 81 65 0 7 26 by decide) (ct_Mo_kindSet (gf_xl X) E i r m17 (gm_okg_f hg q71) hin2 (by omega) he78) rfl ⟨rfl, rfl, rfl, rfl⟩ (Nat.le_of_ble_eq_true rfl) rfl dd_Mo_kinds_36 (fun r36 m36 hR36 hp36 => ?_)
        have hr36 := hp36.1
        refine gf_pm hp36.2 ?_
        refine gf_iret C hQ dd_Mo_kinds_39 (by omega) ?_
        first
        | (exact ⟨fun _ => ⟨rfl, rfl⟩, fun h => absurd h (by omega)⟩)
        | (have hne : ¬ (r17 = 0) := by omega
           refine ⟨fun h => absurd h (by omega), fun _ => ⟨hp17.1, fun hth => ⟨(hp17.2 hth).1, fun hnn => ⟨((hp17.2 hth).2 hnn).1, fun heo => absurd (((hp17.2 hth).2 hnn).2 heo).1 hne⟩⟩⟩⟩)
        | (refine ⟨fun h => absurd h (by omega), fun _ => ⟨fun h => absurd h hth, fun _ => ⟨fun h => absurd hnn h, fun _ => ⟨fun h => absurd heo h, fun _ => ⟨?_, (fun a b hab => o78 a b (by unfold gm_scr at hab; omega))⟩⟩⟩⟩⟩
           rw [hr36.1, q71, q71, q66]
           exact pf_ksB_congr (by omega) f78)
      · skip
        refine gf_iload_n C dd_Mo_kinds_29 0 rfl ?_
        refine gf_goto 39 C dd_Mo_kinds_30 (by decide) ?_
        refine gf_iret C hQ dd_Mo_kinds_39 (by omega) ?_
        first
        | (exact ⟨fun _ => ⟨rfl, rfl⟩, fun h => absurd h (by omega)⟩)
        | (have hne : ¬ (r17 = 0) := by omega
           refine ⟨fun h => absurd h (by omega), fun _ => ⟨hp17.1, fun hth => ⟨(hp17.2 hth).1, fun hnn => ⟨((hp17.2 hth).2 hnn).1, fun heo => absurd (((hp17.2 hth).2 hnn).2 heo).1 hne⟩⟩⟩⟩)
        | (refine ⟨fun h => absurd h (by omega), fun _ => ⟨fun h => absurd h hth, fun _ => ⟨fun h => absurd hnn h, fun _ => ⟨fun h => absurd heo h, fun _ => ⟨?_, (fun a b hab => o78 a b (by unfold gm_scr at hab; omega))⟩⟩⟩⟩⟩
           rw [hr36.1, q71, q71, q66]
           exact pf_ksB_congr (by omega) f78)

theorem dd_Mo_firsts_0 : decode cc_Mo_firsts 0 = .ok (.aload_n 0, 1) := by decide +kernel
theorem dd_Mo_firsts_1 : decode cc_Mo_firsts 1 = .ok (.iload_n 1, 1) := by decide +kernel
theorem dd_Mo_firsts_2 : decode cc_Mo_firsts 2 = .ok (.invokevirtual 183, 3) := by decide +kernel
theorem dd_Mo_firsts_5 : decode cc_Mo_firsts 5 = .ok (.ifCond .eq 18, 3) := by decide +kernel
theorem dd_Mo_firsts_8 : decode cc_Mo_firsts 8 = .ok (.iload_n 2, 1) := by decide +kernel
theorem dd_Mo_firsts_9 : decode cc_Mo_firsts 9 = .ok (.invokestatic 73, 3) := by decide +kernel
theorem dd_Mo_firsts_12 : decode cc_Mo_firsts 12 = .ok (.ifCond .eq 11, 3) := by decide +kernel
theorem dd_Mo_firsts_15 : decode cc_Mo_firsts 15 = .ok (.aload_n 0, 1) := by decide +kernel
theorem dd_Mo_firsts_16 : decode cc_Mo_firsts 16 = .ok (.iload_n 2, 1) := by decide +kernel
theorem dd_Mo_firsts_17 : decode cc_Mo_firsts 17 = .ok (.invokevirtual 244, 3) := by decide +kernel
theorem dd_Mo_firsts_20 : decode cc_Mo_firsts 20 = .ok (.goto 4, 3) := by decide +kernel
theorem dd_Mo_firsts_23 : decode cc_Mo_firsts 23 = .ok (.iconst (-1), 1) := by decide +kernel
theorem dd_Mo_firsts_24 : decode cc_Mo_firsts 24 = .ok (.istore_n 3, 1) := by decide +kernel
theorem dd_Mo_firsts_25 : decode cc_Mo_firsts 25 = .ok (.iload_n 3, 1) := by decide +kernel
theorem dd_Mo_firsts_26 : decode cc_Mo_firsts 26 = .ok (.ifCond .ge 5, 3) := by decide +kernel
theorem dd_Mo_firsts_29 : decode cc_Mo_firsts 29 = .ok (.iload_n 3, 1) := by decide +kernel
theorem dd_Mo_firsts_30 : decode cc_Mo_firsts 30 = .ok (.ireturn, 1) := by decide +kernel
theorem dd_Mo_firsts_31 : decode cc_Mo_firsts 31 = .ok (.aload_n 0, 1) := by decide +kernel
theorem dd_Mo_firsts_32 : decode cc_Mo_firsts 32 = .ok (.getfield 7, 3) := by decide +kernel
theorem dd_Mo_firsts_35 : decode cc_Mo_firsts 35 = .ok (.iload_n 2, 1) := by decide +kernel
theorem dd_Mo_firsts_36 : decode cc_Mo_firsts 36 = .ok (.iaload, 1) := by decide +kernel
theorem dd_Mo_firsts_37 : decode cc_Mo_firsts 37 = .ok (.iconst 1, 1) := by decide +kernel
theorem dd_Mo_firsts_38 : decode cc_Mo_firsts 38 = .ok (.isub, 1) := by decide +kernel
theorem dd_Mo_firsts_39 : decode cc_Mo_firsts 39 = .ok (.istore 4, 2) := by decide +kernel
theorem dd_Mo_firsts_41 : decode cc_Mo_firsts 41 = .ok (.iconst 0, 1) := by decide +kernel
theorem dd_Mo_firsts_42 : decode cc_Mo_firsts 42 = .ok (.istore 5, 2) := by decide +kernel
theorem dd_Mo_firsts_44 : decode cc_Mo_firsts 44 = .ok (.iconst 0, 1) := by decide +kernel
theorem dd_Mo_firsts_45 : decode cc_Mo_firsts 45 = .ok (.istore 6, 2) := by decide +kernel
theorem dd_Mo_firsts_47 : decode cc_Mo_firsts 47 = .ok (.iload 6, 2) := by decide +kernel
theorem dd_Mo_firsts_49 : decode cc_Mo_firsts 49 = .ok (.bipush 10, 2) := by decide +kernel
theorem dd_Mo_firsts_51 : decode cc_Mo_firsts 51 = .ok (.if_icmp .ge 60, 3) := by decide +kernel
theorem dd_Mo_firsts_54 : decode cc_Mo_firsts 54 = .ok (.iload 5, 2) := by decide +kernel
theorem dd_Mo_firsts_56 : decode cc_Mo_firsts 56 = .ok (.aload_n 0, 1) := by decide +kernel
theorem dd_Mo_firsts_57 : decode cc_Mo_firsts 57 = .ok (.getfield 30, 3) := by decide +kernel
theorem dd_Mo_firsts_60 : decode cc_Mo_firsts 60 = .ok (.iconst 3, 1) := by decide +kernel
theorem dd_Mo_firsts_61 : decode cc_Mo_firsts 61 = .ok (.iload_n 1, 1) := by decide +kernel
theorem dd_Mo_firsts_62 : decode cc_Mo_firsts 62 = .ok (.iadd, 1) := by decide +kernel
theorem dd_Mo_firsts_63 : decode cc_Mo_firsts 63 = .ok (.iaload, 1) := by decide +kernel
theorem dd_Mo_firsts_64 : decode cc_Mo_firsts 64 = .ok (.iload 6, 2) := by decide +kernel
theorem dd_Mo_firsts_66 : decode cc_Mo_firsts 66 = .ok (.aload_n 0, 1) := by decide +kernel
theorem dd_Mo_firsts_67 : decode cc_Mo_firsts 67 = .ok (.getfield 30, 3) := by decide +kernel
theorem dd_Mo_firsts_70 : decode cc_Mo_firsts 70 = .ok (.bipush 17, 2) := by decide +kernel
theorem dd_Mo_firsts_72 : decode cc_Mo_firsts 72 = .ok (.iload_n 1, 1) := by decide +kernel
theorem dd_Mo_firsts_73 : decode cc_Mo_firsts 73 = .ok (.iadd, 1) := by decide +kernel
theorem dd_Mo_firsts_74 : decode cc_Mo_firsts 74 = .ok (.iaload, 1) := by decide +kernel
theorem dd_Mo_firsts_75 : decode cc_Mo_firsts 75 = .ok (.aload_n 0, 1) := by decide +kernel
theorem dd_Mo_firsts_76 : decode cc_Mo_firsts 76 = .ok (.getfield 51, 3) := by decide +kernel
theorem dd_Mo_firsts_79 : decode cc_Mo_firsts 79 = .ok (.iload 4, 2) := by decide +kernel
theorem dd_Mo_firsts_81 : decode cc_Mo_firsts 81 = .ok (.invokestatic 139, 3) := by decide +kernel
theorem dd_Mo_firsts_84 : decode cc_Mo_firsts 84 = .ok (.aload_n 0, 1) := by decide +kernel
theorem dd_Mo_firsts_85 : decode cc_Mo_firsts 85 = .ok (.getfield 51, 3) := by decide +kernel
theorem dd_Mo_firsts_88 : decode cc_Mo_firsts 88 = .ok (.iload 4, 2) := by decide +kernel
theorem dd_Mo_firsts_90 : decode cc_Mo_firsts 90 = .ok (.iaload, 1) := by decide +kernel
theorem dd_Mo_firsts_91 : decode cc_Mo_firsts 91 = .ok (.if_icmp .ne 10, 3) := by decide +kernel
theorem dd_Mo_firsts_94 : decode cc_Mo_firsts 94 = .ok (.iconst 1, 1) := by decide +kernel
theorem dd_Mo_firsts_95 : decode cc_Mo_firsts 95 = .ok (.iload 6, 2) := by decide +kernel
theorem dd_Mo_firsts_97 : decode cc_Mo_firsts 97 = .ok (.ishl, 1) := by decide +kernel
theorem dd_Mo_firsts_98 : decode cc_Mo_firsts 98 = .ok (.goto 4, 3) := by decide +kernel
theorem dd_Mo_firsts_101 : decode cc_Mo_firsts 101 = .ok (.iconst 0, 1) := by decide +kernel
theorem dd_Mo_firsts_102 : decode cc_Mo_firsts 102 = .ok (.ior, 1) := by decide +kernel
theorem dd_Mo_firsts_103 : decode cc_Mo_firsts 103 = .ok (.istore 5, 2) := by decide +kernel
theorem dd_Mo_firsts_105 : decode cc_Mo_firsts 105 = .ok (.iinc 6 1, 3) := by decide +kernel
theorem dd_Mo_firsts_108 : decode cc_Mo_firsts 108 = .ok (.goto (-61), 3) := by decide +kernel
theorem dd_Mo_firsts_111 : decode cc_Mo_firsts 111 = .ok (.iload 5, 2) := by decide +kernel
theorem dd_Mo_firsts_113 : decode cc_Mo_firsts 113 = .ok (.ireturn, 1) := by decide +kernel
set_option maxRecDepth 100000 in
set_option maxHeartbeats 4000000 in
theorem ct_Mo_firsts (l : Launch) (E : gf_E) (i r : Int) (μ : gf_M) (hi : gf_R i) (hr : gf_R r) (hok : gm_ok μ) (hrs : ∀ r : Int, 0 ≤ r → r < 6 → -1 ≤ μ 66 r ∧ μ 66 r ≤ 40)  : gf_Mi l E yy_Mo_firsts cc_Mo_firsts 7 .int (gf_rm 2 53) 81 gf_ref μ [.ref (gf_ad E 65), .int (gf_i i), .int (gf_i r)] (fun q μ' => (¬ (0 ≤ i ∧ i < μ 71 0 ∧ 0 ≤ r ∧ r < 6) → q = -1 ∧ μ' = μ) ∧ (0 ≤ i ∧ i < μ 71 0 ∧ 0 ≤ r ∧ r < 6 → (μ 66 r = -1 → q = -3 ∧ μ' = gm_fd μ 1) ∧ (μ 66 r ≠ -1 → (¬ (2 ≤ μ 66 r ∧ μ 66 r ≤ 9) → q = -3 ∧ μ' = gm_fd μ 5) ∧ (2 ≤ μ 66 r ∧ μ 66 r ≤ 9 → (¬ pf_eok (gm_row μ r) (μ 66 r) → q = -3 ∧ gm_sc μ' (gm_fd μ 3)) ∧ (pf_eok (gm_row μ r) (μ 66 r) → q = pf_set (fun f => decide (pf_reck (μ 71 (3 + i)) f (μ 71 (17 + i)) (gm_row μ r) (μ 66 r - 1) = gm_row μ r (μ 66 r - 1))) 10 ∧ gm_sc μ' μ))))) := by
  refine gf_mi (by decide +kernel) (Nat.le_of_ble_eq_true rfl) (by decide) (fun X Q hlx C hQ => ?_)
  subst hlx
  replace C : gf_C X E cc_Mo_firsts 7 "GuardFiguresModel" (gf_rm 2 53) := C
  show gf_G X E Q 7 gf_φ μ 0 [(0, .ref (gf_ad E 65)), (1, .int (gf_i i)), (2, .int (gf_i r))] []
  obtain ⟨hc, hgs, hn, hx, hd⟩ := id hok
  refine gf_aload_n C dd_Mo_firsts_0 0 rfl ?_
  refine gf_iload_n C dd_Mo_firsts_1 1 rfl ?_
  refine gf_callVi (st := []) (As := [.int (gf_i i)]) C wk_Mo_183 gf_cl7 (show gf_is 81 65 0 7 26 by decide) (ct_Mo_isGuard (gf_xl X) E i μ (by omega) (by omega)) rfl ⟨rfl, rfl, rfl, rfl⟩ (Nat.le_of_ble_eq_true rfl) rfl dd_Mo_firsts_2 (fun r2 m2 hR2 hp2 => ?_)
  have hr2 := hp2.1
  refine gf_pm hp2.2 ?_
  refine gf_if_eq 23 C dd_Mo_firsts_5 (by decide) (by omega) (fun h5 => ?_) (fun h5 => ?_)
  · skip
    refine gf_iconst C dd_Mo_firsts_23 ?_
    refine gf_istore_n (lv' := [(3, .int (gf_i (-1))), (0, .ref (gf_ad E 65)), (1, .int (gf_i i)), (2, .int (gf_i r))]) C dd_Mo_firsts_24 (by decide) rfl ?_
    refine gf_iload_n C dd_Mo_firsts_25 0 rfl ?_
    refine gf_if_ge 31 C dd_Mo_firsts_26 (by decide) (by omega) (fun h26 => ?_) (fun h26 => ?_)
    · skip
      exfalso; omega -- done
    · skip
      refine gf_iload_n C dd_Mo_firsts_29 0 rfl ?_
      refine gf_iret C hQ dd_Mo_firsts_30 (by omega) ?_
      first
      | (exact ⟨fun _ => ⟨rfl, rfl⟩, fun h => absurd h (by omega)⟩)
      | (have hne : ¬ (r17 = 0) := by omega
         refine ⟨fun h => absurd h (by omega), fun _ => ⟨hp17.1, fun hth => ⟨(hp17.2 hth).1, fun hnn => ⟨((hp17.2 hth).2 hnn).1, fun heo => absurd (((hp17.2 hth).2 hnn).2 heo).1 hne⟩⟩⟩⟩)
  · skip
    refine gf_iload_n C dd_Mo_firsts_8 2 rfl ?_
    refine gf_callSi (st := []) (As := [.int (gf_i r)]) C wk_Mo_73 (ct_Mo_isRow (gf_xl X) E r μ (by omega)) rfl ⟨rfl, rfl, rfl, rfl⟩ (Nat.le_of_ble_eq_true rfl) rfl dd_Mo_firsts_9 (fun r9 m9 hR9 hp9 => ?_)
    have hr9 := hp9.1
    refine gf_pm hp9.2 ?_
    refine gf_if_eq 23 C dd_Mo_firsts_12 (by decide) (by omega) (fun h12 => ?_) (fun h12 => ?_)
    · skip
      refine gf_iconst C dd_Mo_firsts_23 ?_
      refine gf_istore_n (lv' := [(3, .int (gf_i (-1))), (0, .ref (gf_ad E 65)), (1, .int (gf_i i)), (2, .int (gf_i r))]) C dd_Mo_firsts_24 (by decide) rfl ?_
      refine gf_iload_n C dd_Mo_firsts_25 0 rfl ?_
      refine gf_if_ge 31 C dd_Mo_firsts_26 (by decide) (by omega) (fun h26 => ?_) (fun h26 => ?_)
      · skip
        exfalso; omega -- done
      · skip
        refine gf_iload_n C dd_Mo_firsts_29 0 rfl ?_
        refine gf_iret C hQ dd_Mo_firsts_30 (by omega) ?_
        first
        | (exact ⟨fun _ => ⟨rfl, rfl⟩, fun h => absurd h (by omega)⟩)
        | (have hne : ¬ (r17 = 0) := by omega
           refine ⟨fun h => absurd h (by omega), fun _ => ⟨hp17.1, fun hth => ⟨(hp17.2 hth).1, fun hnn => ⟨((hp17.2 hth).2 hnn).1, fun heo => absurd (((hp17.2 hth).2 hnn).2 heo).1 hne⟩⟩⟩⟩)
    · skip
      have hin : 0 ≤ i ∧ i < μ 71 0 := by omega
      have hin2 : 0 ≤ r ∧ r < 6 := by omega
      clear hr2 hr9 hp2 hp9
      have hg := gm_ok_g hok hin
      have hg0 := hg.1
      have hrr := hrs r hin2.1 hin2.2
      refine gf_aload_n C dd_Mo_firsts_15 0 rfl ?_
      refine gf_iload_n C dd_Mo_firsts_16 2 rfl ?_
      refine gf_callVi (st := []) (As := [.int (gf_i r)]) C wk_Mo_244 gf_cl7 (show gf_is 81 65 0 7 26 by decide) (ct_Mo_lacksTold (gf_xl X) E r μ (by omega) (hrs)) rfl ⟨rfl, rfl, rfl, rfl⟩ (Nat.le_of_ble_eq_true rfl) rfl dd_Mo_firsts_17 (fun r17 m17 hR17 hp17 => ?_)
      refine gf_goto 24 C dd_Mo_firsts_20 (by decide) ?_
      refine gf_istore_n (lv' := [(3, .int (gf_i r17)), (0, .ref (gf_ad E 65)), (1, .int (gf_i i)), (2, .int (gf_i r))]) C dd_Mo_firsts_24 (by decide) rfl ?_
      refine gf_iload_n C dd_Mo_firsts_25 0 rfl ?_
      refine gf_if_ge 31 C dd_Mo_firsts_26 (by decide) (by omega) (fun h26 => ?_) (fun h26 => ?_)
      · skip
        have hlk := hp17
        have hth : μ 66 r ≠ -1 := fun h => by have := (hlk.1 h).1; omega
        have hl2 := hlk.2 hth
        have hnn : 2 ≤ μ 66 r ∧ μ 66 r ≤ 9 := by
          rcases Classical.em (2 ≤ μ 66 r ∧ μ 66 r ≤ 9) with h | h
          · exact h
          · have := (hl2.1 h).1; omega
        have hl3 := hl2.2 hnn
        have heo : pf_eok (gm_row μ r) (μ 66 r) := by
          rcases Classical.em (pf_eok (gm_row μ r) (μ 66 r)) with h | h
          · exact h
          · have := (hl3.1 h).1; omega
        obtain ⟨-, f78, o78⟩ := hl3.2 heo
        clear hlk hl2 hl3 hp17
        have q71 : ∀ b : Int, m17 71 b = μ 71 b := fun b => o78 71 b (by decide)
        have q66 : ∀ b : Int, m17 66 b = μ 66 b := fun b => o78 66 b (by decide)
        have q66r := q66 r
        have he78 : pf_eok (m17 78) (m17 66 r) := by rw [q66]; exact pf_eok_congr (by omega) f78 heo
        refine gf_aload_n C dd_Mo_firsts_31 1 rfl ?_
        refine gf_getA (r := 66) C gf_cl7 fl_Mo_7 dd_Mo_firsts_32 rfl (show gf_is 81 65 0 7 26 by decide) (by decide) (by decide) ?_
        refine gf_iload_n C dd_Mo_firsts_35 3 rfl ?_
        refine gf_iald C dd_Mo_firsts_36 (show gf_is 81 66 1 0 6 by decide) (by omega) (fun hv36 => ?_)
        refine gf_iconst C dd_Mo_firsts_37 ?_
        refine gf_isub C dd_Mo_firsts_38 ?_
        refine gf_nm (fun x39 hx39 => ?_)
        refine gf_istore (lv' := [(4, .int (gf_i x39)), (3, .int (gf_i r17)), (0, .ref (gf_ad E 65)), (1, .int (gf_i i)), (2, .int (gf_i r))]) C dd_Mo_firsts_39 (by decide) rfl ?_
        refine gf_iconst C dd_Mo_firsts_41 ?_
        refine gf_istore (lv' := [(5, .int (gf_i 0)), (4, .int (gf_i x39)), (3, .int (gf_i r17)), (0, .ref (gf_ad E 65)), (1, .int (gf_i i)), (2, .int (gf_i r))]) C dd_Mo_firsts_42 (by decide) rfl ?_
        refine gf_iconst C dd_Mo_firsts_44 ?_
        refine gf_istore (lv' := [(6, .int (gf_i 0)), (5, .int (gf_i 0)), (4, .int (gf_i x39)), (3, .int (gf_i r17)), (0, .ref (gf_ad E 65)), (1, .int (gf_i i)), (2, .int (gf_i r))]) C dd_Mo_firsts_45 (by decide) rfl ?_
        have L47_1 : ∀ (N : Nat) (z f : Int) , (0 ≤ f ∧ f ≤ 10 ∧ z = pf_set (fun f => decide (pf_reck (μ 71 (3 + i)) f (μ 71 (17 + i)) (m17 78) (μ 66 r - 1) = m17 78 (μ 66 r - 1))) f.toNat) → (10 - f).toNat < N → gf_G X E Q 7 gf_φ m17 47 [(5, .int (gf_i z)), (6, .int (gf_i f)), (0, .ref (gf_ad E 65)), (1, .int (gf_i i)), (2, .int (gf_i r)), (4, .int (gf_i x39))] [] := by
          intro N
          induction N with
          | zero => intro z f hinv hN; exact absurd hN (Nat.not_lt_zero _)
          | succ N ih47_1 =>
            intro z f hinv hN
            have hinv0 := hinv
            obtain ⟨hf0, hf1, hz⟩ := hinv
            have hzR := pf_set_R (fun f => decide (pf_reck (μ 71 (3 + i)) f (μ 71 (17 + i)) (m17 78) (μ 66 r - 1) = m17 78 (μ 66 r - 1))) f.toNat
            rw [← hz] at hzR
            have h210 := pf_2_10 (n := f.toNat) (by omega)
            refine gf_iload C dd_Mo_firsts_47 1 rfl ?_
            refine gf_bipush C dd_Mo_firsts_49 (by decide +kernel) ?_
            refine gf_icmp_ge 111 C dd_Mo_firsts_51 (by decide) (by omega) (by omega) (fun h51 => ?_) (fun h51 => ?_)
            · skip
              refine gf_iload C dd_Mo_firsts_111 0 rfl ?_
              refine gf_iret C hQ dd_Mo_firsts_113 (by omega) ?_
              have e10 : f.toNat = 10 := by omega
              rw [e10] at hz
              refine ⟨fun h => absurd h (by omega), fun _ => ⟨fun h => absurd h hth, fun _ => ⟨fun h => absurd hnn h, fun _ => ⟨fun h => absurd heo h, fun _ => ⟨?_, (fun a b hab => o78 a b (by unfold gm_scr at hab; omega))⟩⟩⟩⟩⟩
              rw [hz]
              refine pf_set_congr 10 (fun f h0 h1 => ?_)
              show decide (pf_reck (μ 71 (3 + i)) f (μ 71 (17 + i)) (m17 78) (μ 66 r - 1) = m17 78 (μ 66 r - 1)) = _
              rw [f78 (μ 66 r - 1) (by omega) (by omega), pf_reck_congr (g := gm_row μ r) (size := μ 66 r - 1) (fun j h0 h1 => f78 j h0 (by omega))]
            · skip
              have hsh := gf_shl1 (i := f) (by omega)
              have hg1 := hg.2.1
              have q3 := q71 (3 + i)
              have q17 := q71 (17 + i)
              have he2 := he78.2
              rw [q66r] at he2
              refine gf_iload C dd_Mo_firsts_54 0 rfl ?_
              refine gf_aload_n C dd_Mo_firsts_56 2 rfl ?_
              refine gf_getA (r := 71) C gf_cl7 fl_Mo_30 dd_Mo_firsts_57 rfl (show gf_is 81 65 0 7 26 by decide) (by decide) (by decide) ?_
              refine gf_iconst C dd_Mo_firsts_60 ?_
              refine gf_iload_n C dd_Mo_firsts_61 3 rfl ?_
              refine gf_iadd C dd_Mo_firsts_62 ?_
              refine gf_iald C dd_Mo_firsts_63 (show gf_is 81 71 1 0 392 by decide) (by omega) (fun hv63 => ?_)
              refine gf_iload C dd_Mo_firsts_64 1 rfl ?_
              refine gf_aload_n C dd_Mo_firsts_66 2 rfl ?_
              refine gf_getA (r := 71) C gf_cl7 fl_Mo_30 dd_Mo_firsts_67 rfl (show gf_is 81 65 0 7 26 by decide) (by decide) (by decide) ?_
              refine gf_bipush C dd_Mo_firsts_70 (by decide +kernel) ?_
              refine gf_iload_n C dd_Mo_firsts_72 3 rfl ?_
              refine gf_iadd C dd_Mo_firsts_73 ?_
              refine gf_iald C dd_Mo_firsts_74 (show gf_is 81 71 1 0 392 by decide) (by omega) (fun hv74 => ?_)
              refine gf_aload_n C dd_Mo_firsts_75 2 rfl ?_
              refine gf_getA (r := 78) C gf_cl7 fl_Mo_51 dd_Mo_firsts_76 rfl (show gf_is 81 65 0 7 26 by decide) (by decide) (by decide) ?_
              refine gf_iload C dd_Mo_firsts_79 5 rfl ?_
              refine gf_callSi (st := [.int (gf_i z)]) (As := [.int (gf_i (m17 71 (3 + i))), .int (gf_i f), .int (gf_i (m17 71 (17 + i))), .ref (gf_ad E 78), .int (gf_i x39)]) C wk_Mo_139 (ct_Mo_reckons (gf_xl X) E (m17 71 (3 + i)) f (m17 71 (17 + i)) 78 x39 9 m17 (by omega) (by omega) (by rw [q17]; exact hg.2.2.2) (show gf_is 81 78 1 0 9 by decide) (by omega) (fun j h0 h1 => he78.1 j h0 (by omega))) rfl ⟨rfl, rfl, rfl, rfl⟩ (Nat.le_of_ble_eq_true rfl) rfl dd_Mo_firsts_81 (fun r81 m81 hR81 hp81 => ?_)
              have hr81 := hp81.1
              refine gf_pm hp81.2 ?_
              have hr81b := hr81.2
              refine gf_aload_n C dd_Mo_firsts_84 2 rfl ?_
              refine gf_getA (r := 78) C gf_cl7 fl_Mo_51 dd_Mo_firsts_85 rfl (show gf_is 81 65 0 7 26 by decide) (by decide) (by decide) ?_
              refine gf_iload C dd_Mo_firsts_88 5 rfl ?_
              refine gf_iald C dd_Mo_firsts_90 (show gf_is 81 78 1 0 9 by decide) (by omega) (fun hv90 => ?_)
              refine gf_icmp_ne 101 C dd_Mo_firsts_91 (by decide) (by omega) (by omega) (fun h91 => ?_) (fun h91 => ?_)
              · skip
                refine gf_iconst C dd_Mo_firsts_101 ?_
                refine gf_ior C dd_Mo_firsts_102 (by omega) ?_
                refine gf_nm (fun x103 hx103 => ?_)
                refine gf_istore (lv' := [(5, .int (gf_i x103)), (6, .int (gf_i f)), (0, .ref (gf_ad E 65)), (1, .int (gf_i i)), (2, .int (gf_i r)), (4, .int (gf_i x39))]) C dd_Mo_firsts_103 (by decide) rfl ?_
                obtain ⟨x105, hx105⟩ : ∃ y : Int, y = f + 1 := ⟨_, rfl⟩
                refine gf_iinc (q := 1) (v := x105) (lv' := [(6, .int (gf_i x105)), (5, .int (gf_i x103)), (0, .ref (gf_ad E 65)), (1, .int (gf_i i)), (2, .int (gf_i r)), (4, .int (gf_i x39))]) C dd_Mo_firsts_105 rfl hx105 (by decide) rfl ?_
                refine gf_goto 47 C dd_Mo_firsts_108 (by decide) ?_
                refine gf_lsub [1, 0, 2, 3, 4, 5] rfl ?_
                exact ih47_1 x103 x105 (by
                        refine ⟨by omega, by omega, ?_⟩
                        rw [hx105, show (f + 1).toNat = f.toNat + 1 by omega]
                        show _ = if decide (pf_reck (μ 71 (3 + i)) ((f.toNat : Nat) : Int) (μ 71 (17 + i)) (m17 78) (μ 66 r - 1) = m17 78 (μ 66 r - 1)) = true then gf_or (pf_set _ f.toNat) (gf_shl 1 ((f.toNat : Nat) : Int)) else pf_set _ f.toNat
                        have hre := hr81.1
                        have ex : x39 = μ 66 r - 1 := by omega
                        rw [q3, q17, ex] at hre
                        rw [show ((f.toNat : Nat) : Int) = f by omega, ← hz, ← hre]
                        rw [ex] at h91
                        first
                        | (rw [if_pos (by simpa using h91)]; exact hx103)
                        | (rw [if_neg (by simpa using h91), hx103]; exact gf_or_0 (by omega))) (by omega)
              · skip
                refine gf_iconst C dd_Mo_firsts_94 ?_
                refine gf_iload C dd_Mo_firsts_95 1 rfl ?_
                refine gf_ishl C dd_Mo_firsts_97 (by omega) ?_
                refine gf_goto 102 C dd_Mo_firsts_98 (by decide) ?_
                refine gf_ior C dd_Mo_firsts_102 (by omega) ?_
                refine gf_nm (fun x103 hx103 => ?_)
                refine gf_istore (lv' := [(5, .int (gf_i x103)), (6, .int (gf_i f)), (0, .ref (gf_ad E 65)), (1, .int (gf_i i)), (2, .int (gf_i r)), (4, .int (gf_i x39))]) C dd_Mo_firsts_103 (by decide) rfl ?_
                obtain ⟨x105, hx105⟩ : ∃ y : Int, y = f + 1 := ⟨_, rfl⟩
                refine gf_iinc (q := 1) (v := x105) (lv' := [(6, .int (gf_i x105)), (5, .int (gf_i x103)), (0, .ref (gf_ad E 65)), (1, .int (gf_i i)), (2, .int (gf_i r)), (4, .int (gf_i x39))]) C dd_Mo_firsts_105 rfl hx105 (by decide) rfl ?_
                refine gf_goto 47 C dd_Mo_firsts_108 (by decide) ?_
                refine gf_lsub [1, 0, 2, 3, 4, 5] rfl ?_
                exact ih47_1 x103 x105 (by
                        refine ⟨by omega, by omega, ?_⟩
                        rw [hx105, show (f + 1).toNat = f.toNat + 1 by omega]
                        show _ = if decide (pf_reck (μ 71 (3 + i)) ((f.toNat : Nat) : Int) (μ 71 (17 + i)) (m17 78) (μ 66 r - 1) = m17 78 (μ 66 r - 1)) = true then gf_or (pf_set _ f.toNat) (gf_shl 1 ((f.toNat : Nat) : Int)) else pf_set _ f.toNat
                        have hre := hr81.1
                        have ex : x39 = μ 66 r - 1 := by omega
                        rw [q3, q17, ex] at hre
                        rw [show ((f.toNat : Nat) : Int) = f by omega, ← hz, ← hre]
                        rw [ex] at h91
                        first
                        | (rw [if_pos (by simpa using h91)]; exact hx103)
                        | (rw [if_neg (by simpa using h91), hx103]; exact gf_or_0 (by omega))) (by omega)
        refine gf_lsub [1, 0, 4, 5, 6, 2] rfl ?_
        exact L47_1 _ 0 0 (⟨by omega, by omega, rfl⟩) (Nat.lt_succ_self _)
      · skip
        refine gf_iload_n C dd_Mo_firsts_29 0 rfl ?_
        refine gf_iret C hQ dd_Mo_firsts_30 (by omega) ?_
        first
        | (exact ⟨fun _ => ⟨rfl, rfl⟩, fun h => absurd h (by omega)⟩)
        | (have hne : ¬ (r17 = 0) := by omega
           refine ⟨fun h => absurd h (by omega), fun _ => ⟨hp17.1, fun hth => ⟨(hp17.2 hth).1, fun hnn => ⟨((hp17.2 hth).2 hnn).1, fun heo => absurd (((hp17.2 hth).2 hnn).2 heo).1 hne⟩⟩⟩⟩)

theorem dd_Mo_partBy_0 : decode cc_Mo_partBy 0 = .ok (.aload_n 0, 1) := by decide +kernel
theorem dd_Mo_partBy_1 : decode cc_Mo_partBy 1 = .ok (.getfield 36, 3) := by decide +kernel
theorem dd_Mo_partBy_4 : decode cc_Mo_partBy 4 = .ok (.aload_n 0, 1) := by decide +kernel
theorem dd_Mo_partBy_5 : decode cc_Mo_partBy 5 = .ok (.getfield 146, 3) := by decide +kernel
theorem dd_Mo_partBy_8 : decode cc_Mo_partBy 8 = .ok (.iload_n 2, 1) := by decide +kernel
theorem dd_Mo_partBy_9 : decode cc_Mo_partBy 9 = .ok (.iastore, 1) := by decide +kernel
theorem dd_Mo_partBy_10 : decode cc_Mo_partBy 10 = .ok (.iconst 0, 1) := by decide +kernel
theorem dd_Mo_partBy_11 : decode cc_Mo_partBy 11 = .ok (.istore 4, 2) := by decide +kernel
theorem dd_Mo_partBy_13 : decode cc_Mo_partBy 13 = .ok (.iconst 0, 1) := by decide +kernel
theorem dd_Mo_partBy_14 : decode cc_Mo_partBy 14 = .ok (.istore 5, 2) := by decide +kernel
theorem dd_Mo_partBy_16 : decode cc_Mo_partBy 16 = .ok (.iload 5, 2) := by decide +kernel
theorem dd_Mo_partBy_18 : decode cc_Mo_partBy 18 = .ok (.bipush 11, 2) := by decide +kernel
theorem dd_Mo_partBy_20 : decode cc_Mo_partBy 20 = .ok (.if_icmp .ge 85, 3) := by decide +kernel
theorem dd_Mo_partBy_23 : decode cc_Mo_partBy 23 = .ok (.iconst 0, 1) := by decide +kernel
theorem dd_Mo_partBy_24 : decode cc_Mo_partBy 24 = .ok (.istore 6, 2) := by decide +kernel
theorem dd_Mo_partBy_26 : decode cc_Mo_partBy 26 = .ok (.iconst 0, 1) := by decide +kernel
theorem dd_Mo_partBy_27 : decode cc_Mo_partBy 27 = .ok (.istore 7, 2) := by decide +kernel
theorem dd_Mo_partBy_29 : decode cc_Mo_partBy 29 = .ok (.iload 7, 2) := by decide +kernel
theorem dd_Mo_partBy_31 : decode cc_Mo_partBy 31 = .ok (.iconst 5, 1) := by decide +kernel
theorem dd_Mo_partBy_32 : decode cc_Mo_partBy 32 = .ok (.if_icmp .gt 51, 3) := by decide +kernel
theorem dd_Mo_partBy_35 : decode cc_Mo_partBy 35 = .ok (.iload 6, 2) := by decide +kernel
theorem dd_Mo_partBy_37 : decode cc_Mo_partBy 37 = .ok (.iload_n 3, 1) := by decide +kernel
theorem dd_Mo_partBy_38 : decode cc_Mo_partBy 38 = .ok (.iload 7, 2) := by decide +kernel
theorem dd_Mo_partBy_40 : decode cc_Mo_partBy 40 = .ok (.ishr, 1) := by decide +kernel
theorem dd_Mo_partBy_41 : decode cc_Mo_partBy 41 = .ok (.iconst 1, 1) := by decide +kernel
theorem dd_Mo_partBy_42 : decode cc_Mo_partBy 42 = .ok (.iand, 1) := by decide +kernel
theorem dd_Mo_partBy_43 : decode cc_Mo_partBy 43 = .ok (.iconst 1, 1) := by decide +kernel
theorem dd_Mo_partBy_44 : decode cc_Mo_partBy 44 = .ok (.if_icmp .ne 29, 3) := by decide +kernel
theorem dd_Mo_partBy_47 : decode cc_Mo_partBy 47 = .ok (.aload_n 0, 1) := by decide +kernel
theorem dd_Mo_partBy_48 : decode cc_Mo_partBy 48 = .ok (.iload_n 1, 1) := by decide +kernel
theorem dd_Mo_partBy_49 : decode cc_Mo_partBy 49 = .ok (.iload 7, 2) := by decide +kernel
theorem dd_Mo_partBy_51 : decode cc_Mo_partBy 51 = .ok (.aload_n 0, 1) := by decide +kernel
theorem dd_Mo_partBy_52 : decode cc_Mo_partBy 52 = .ok (.getfield 36, 3) := by decide +kernel
theorem dd_Mo_partBy_55 : decode cc_Mo_partBy 55 = .ok (.aload_n 0, 1) := by decide +kernel
theorem dd_Mo_partBy_56 : decode cc_Mo_partBy 56 = .ok (.getfield 146, 3) := by decide +kernel
theorem dd_Mo_partBy_59 : decode cc_Mo_partBy 59 = .ok (.iconst 1, 1) := by decide +kernel
theorem dd_Mo_partBy_60 : decode cc_Mo_partBy 60 = .ok (.iadd, 1) := by decide +kernel
theorem dd_Mo_partBy_61 : decode cc_Mo_partBy 61 = .ok (.invokevirtual 143, 3) := by decide +kernel
theorem dd_Mo_partBy_64 : decode cc_Mo_partBy 64 = .ok (.iload 5, 2) := by decide +kernel
theorem dd_Mo_partBy_66 : decode cc_Mo_partBy 66 = .ok (.if_icmp .ne 7, 3) := by decide +kernel
theorem dd_Mo_partBy_69 : decode cc_Mo_partBy 69 = .ok (.iconst 1, 1) := by decide +kernel
theorem dd_Mo_partBy_70 : decode cc_Mo_partBy 70 = .ok (.goto 4, 3) := by decide +kernel
theorem dd_Mo_partBy_73 : decode cc_Mo_partBy 73 = .ok (.iconst 0, 1) := by decide +kernel
theorem dd_Mo_partBy_74 : decode cc_Mo_partBy 74 = .ok (.iadd, 1) := by decide +kernel
theorem dd_Mo_partBy_75 : decode cc_Mo_partBy 75 = .ok (.istore 6, 2) := by decide +kernel
theorem dd_Mo_partBy_77 : decode cc_Mo_partBy 77 = .ok (.iinc 7 1, 3) := by decide +kernel
theorem dd_Mo_partBy_80 : decode cc_Mo_partBy 80 = .ok (.goto (-51), 3) := by decide +kernel
theorem dd_Mo_partBy_83 : decode cc_Mo_partBy 83 = .ok (.iload 6, 2) := by decide +kernel
theorem dd_Mo_partBy_85 : decode cc_Mo_partBy 85 = .ok (.iload 4, 2) := by decide +kernel
theorem dd_Mo_partBy_87 : decode cc_Mo_partBy 87 = .ok (.if_icmp .le 8, 3) := by decide +kernel
theorem dd_Mo_partBy_90 : decode cc_Mo_partBy 90 = .ok (.iload 6, 2) := by decide +kernel
theorem dd_Mo_partBy_92 : decode cc_Mo_partBy 92 = .ok (.goto 5, 3) := by decide +kernel
theorem dd_Mo_partBy_95 : decode cc_Mo_partBy 95 = .ok (.iload 4, 2) := by decide +kernel
theorem dd_Mo_partBy_97 : decode cc_Mo_partBy 97 = .ok (.istore 4, 2) := by decide +kernel
theorem dd_Mo_partBy_99 : decode cc_Mo_partBy 99 = .ok (.iinc 5 1, 3) := by decide +kernel
theorem dd_Mo_partBy_102 : decode cc_Mo_partBy 102 = .ok (.goto (-86), 3) := by decide +kernel
theorem dd_Mo_partBy_105 : decode cc_Mo_partBy 105 = .ok (.iload 4, 2) := by decide +kernel
theorem dd_Mo_partBy_107 : decode cc_Mo_partBy 107 = .ok (.ireturn, 1) := by decide +kernel
set_option maxRecDepth 100000 in
set_option maxHeartbeats 4000000 in
theorem ct_Mo_partBy (l : Launch) (E : gf_E) (i f some : Int) (μ : gf_M) (hg : gm_okg μ i) (hf : 0 ≤ f ∧ f ≤ 9) (hso : 0 ≤ some ∧ some < 64) (hn : 0 ≤ μ 65 15 ∧ μ 65 15 < 8) (hF : ∀ j : Int, 0 ≤ j → j < μ 65 15 → 0 ≤ μ 73 j ∧ μ 73 j ≤ 9) : gf_Mi l E yy_Mo_partBy cc_Mo_partBy 8 .int (gf_rm 3 77) 81 gf_ref μ [.ref (gf_ad E 65), .int (gf_i i), .int (gf_i f), .int (gf_i some)] (fun q μ' => (q = gm_mxc some (fun kd => pf_reck kd (μ 71 (10 + i)) (μ 71 (17 + i)) (pf_apd (μ 73) (μ 65 15) f) (μ 65 15 + 1)) 11 ∧ 0 ≤ q ∧ q ≤ 6) ∧ μ' = gf_up μ 73 (μ 65 15) f) := by
  refine gf_mi (by decide +kernel) (Nat.le_of_ble_eq_true rfl) (by decide) (fun X Q hlx C hQ => ?_)
  subst hlx
  replace C : gf_C X E cc_Mo_partBy 8 "GuardFiguresModel" (gf_rm 3 77) := C
  show gf_G X E Q 8 gf_φ μ 0 [(0, .ref (gf_ad E 65)), (1, .int (gf_i i)), (2, .int (gf_i f)), (3, .int (gf_i some))] []
  have hg0 := hg.1
  obtain ⟨v, hv⟩ : ∃ v : Int → Int, v = (fun kd => pf_reck kd (μ 71 (10 + i)) (μ 71 (17 + i)) (pf_apd (μ 73) (μ 65 15) f) (μ 65 15 + 1)) := ⟨_, rfl⟩
  refine gf_aload_n C dd_Mo_partBy_0 0 rfl ?_
  refine gf_getA (r := 73) C gf_cl7 fl_Mo_36 dd_Mo_partBy_1 rfl (show gf_is 81 65 0 7 26 by decide) (by decide) (by decide) ?_
  refine gf_aload_n C dd_Mo_partBy_4 0 rfl ?_
  refine gf_getI (z := 15) C gf_cl7 fl_Mo_146 dd_Mo_partBy_5 rfl rfl (show gf_is 81 65 0 7 26 by decide) (fun hv5 => ?_)
  refine gf_iload_n C dd_Mo_partBy_8 2 rfl ?_
  refine gf_iast C dd_Mo_partBy_9 (show gf_is 81 73 1 0 8 by decide) (by omega) (by omega) ?_
  refine gf_nmM (fun m9 hm9 => ?_)
  have o9 : ∀ a b : Int, a ≠ 73 → m9 a b = μ a b := fun a b h => by rw [hm9]; exact gf_up_k h
  have e15 : m9 65 15 = μ 65 15 := o9 65 15 (by decide)
  have q71 : ∀ b : Int, m9 71 b = μ 71 b := fun b => o9 71 b (by decide)
  have f9 : m9 73 = pf_apd (μ 73) (μ 65 15) f := funext fun j => by
    unfold pf_apd
    rw [hm9]
    by_cases e : j = μ 65 15
    · rw [if_pos e, e, gf_up_s]
    · rw [if_neg e, gf_up_j e]
  have hF9 : ∀ j : Int, 0 ≤ j → j < m9 65 15 + 1 → 0 ≤ m9 73 j ∧ m9 73 j ≤ 9 := fun j h0 h1 => by
    rw [f9]
    unfold pf_apd
    split
    · omega
    · exact hF j h0 (by omega)
  refine gf_iconst C dd_Mo_partBy_10 ?_
  refine gf_istore (lv' := [(4, .int (gf_i 0)), (0, .ref (gf_ad E 65)), (1, .int (gf_i i)), (2, .int (gf_i f)), (3, .int (gf_i some))]) C dd_Mo_partBy_11 (by decide) rfl ?_
  refine gf_iconst C dd_Mo_partBy_13 ?_
  refine gf_istore (lv' := [(5, .int (gf_i 0)), (4, .int (gf_i 0)), (0, .ref (gf_ad E 65)), (1, .int (gf_i i)), (2, .int (gf_i f)), (3, .int (gf_i some))]) C dd_Mo_partBy_14 (by decide) rfl ?_
  have L16_1 : ∀ (N : Nat) (q c : Int) , (0 ≤ c ∧ c ≤ 11 ∧ q = gm_mxc some v c.toNat ∧ 0 ≤ q ∧ q ≤ 6) → (11 - c).toNat < N → gf_G X E Q 8 gf_φ m9 16 [(4, .int (gf_i q)), (5, .int (gf_i c)), (0, .ref (gf_ad E 65)), (1, .int (gf_i i)), (2, .int (gf_i f)), (3, .int (gf_i some))] [] := by
    intro N
    induction N with
    | zero => intro q c hinv hN; exact absurd hN (Nat.not_lt_zero _)
    | succ N ih16_1 =>
      intro q c hinv hN
      have hinv0 := hinv
      obtain ⟨hc0, hc1, hq, hq0, hq6⟩ := hinv
      refine gf_iload C dd_Mo_partBy_16 1 rfl ?_
      refine gf_bipush C dd_Mo_partBy_18 (by decide +kernel) ?_
      refine gf_icmp_ge 105 C dd_Mo_partBy_20 (by decide) (by omega) (by omega) (fun h20 => ?_) (fun h20 => ?_)
      · skip
        refine gf_iload C dd_Mo_partBy_105 0 rfl ?_
        refine gf_iret C hQ dd_Mo_partBy_107 (by omega) ?_
        have ec : c.toNat = 11 := by omega
        rw [ec, hv] at hq
        exact ⟨⟨hq, by omega, by omega⟩, hm9⟩
      · skip
        refine gf_iconst C dd_Mo_partBy_23 ?_
        refine gf_istore (lv' := [(6, .int (gf_i 0)), (4, .int (gf_i q)), (5, .int (gf_i c)), (0, .ref (gf_ad E 65)), (1, .int (gf_i i)), (2, .int (gf_i f)), (3, .int (gf_i some))]) C dd_Mo_partBy_24 (by decide) rfl ?_
        refine gf_iconst C dd_Mo_partBy_26 ?_
        refine gf_istore (lv' := [(7, .int (gf_i 0)), (6, .int (gf_i 0)), (4, .int (gf_i q)), (5, .int (gf_i c)), (0, .ref (gf_ad E 65)), (1, .int (gf_i i)), (2, .int (gf_i f)), (3, .int (gf_i some))]) C dd_Mo_partBy_27 (by decide) rfl ?_
        have L29_2 : ∀ (N : Nat) (z kd : Int) , (0 ≤ kd ∧ kd ≤ 6 ∧ z = pf_cnt (fun kd => pf_bit some kd && decide (v kd = c)) kd.toNat) → (6 - kd).toNat < N → gf_G X E Q 8 gf_φ m9 29 [(6, .int (gf_i z)), (7, .int (gf_i kd)), (0, .ref (gf_ad E 65)), (1, .int (gf_i i)), (2, .int (gf_i f)), (3, .int (gf_i some)), (4, .int (gf_i q)), (5, .int (gf_i c))] [] := by
          intro N
          induction N with
          | zero => intro z kd hinv hN; exact absurd hN (Nat.not_lt_zero _)
          | succ N ih29_2 =>
            intro z kd hinv hN
            have hinv0 := hinv
            obtain ⟨hd0, hd1, hz⟩ := hinv
            have hzR := pf_cnt_R (fun kd => pf_bit some kd && decide (v kd = c)) kd.toNat
            rw [← hz] at hzR
            refine gf_iload C dd_Mo_partBy_29 1 rfl ?_
            refine gf_iconst C dd_Mo_partBy_31 ?_
            refine gf_icmp_gt 83 C dd_Mo_partBy_32 (by decide) (by omega) (by omega) (fun h32 => ?_) (fun h32 => ?_)
            · skip
              refine gf_iload C dd_Mo_partBy_83 0 rfl ?_
              refine gf_iload C dd_Mo_partBy_85 6 rfl ?_
              refine gf_icmp_le 95 C dd_Mo_partBy_87 (by decide) (by omega) (by omega) (fun h87 => ?_) (fun h87 => ?_)
              · skip
                refine gf_iload C dd_Mo_partBy_95 6 rfl ?_
                refine gf_istore (lv' := [(4, .int (gf_i q)), (6, .int (gf_i z)), (7, .int (gf_i kd)), (0, .ref (gf_ad E 65)), (1, .int (gf_i i)), (2, .int (gf_i f)), (3, .int (gf_i some)), (5, .int (gf_i c))]) C dd_Mo_partBy_97 (by decide) rfl ?_
                obtain ⟨x99, hx99⟩ : ∃ y : Int, y = c + 1 := ⟨_, rfl⟩
                refine gf_iinc (q := 7) (v := x99) (lv' := [(5, .int (gf_i x99)), (4, .int (gf_i q)), (6, .int (gf_i z)), (7, .int (gf_i kd)), (0, .ref (gf_ad E 65)), (1, .int (gf_i i)), (2, .int (gf_i f)), (3, .int (gf_i some))]) C dd_Mo_partBy_99 rfl hx99 (by decide) rfl ?_
                refine gf_goto 16 C dd_Mo_partBy_102 (by decide) ?_
                refine gf_lsub [1, 0, 4, 5, 6, 7] rfl ?_
                exact ih16_1 q x99 (by
                          rw [show kd.toNat = 6 by omega] at hz
                          rw [show kd.toNat = 6 by omega] at hzR
                          refine ⟨by omega, by omega, ?_, by omega, by omega⟩
                          rw [hx99, show (c + 1).toNat = c.toNat + 1 by omega]
                          show _ = gf_max (gm_mxc some v c.toNat) (pf_cnt (fun kd => pf_bit some kd && decide (v kd = ((c.toNat : Nat) : Int))) 6)
                          rw [show ((c.toNat : Nat) : Int) = c by omega, ← hq, ← hz]
                          unfold gf_max
                          first | (rw [if_pos (by omega)]; done) | (rw [if_neg (by omega)]; done)) (by omega)
              · skip
                refine gf_iload C dd_Mo_partBy_90 0 rfl ?_
                refine gf_goto 97 C dd_Mo_partBy_92 (by decide) ?_
                refine gf_istore (lv' := [(4, .int (gf_i z)), (6, .int (gf_i z)), (7, .int (gf_i kd)), (0, .ref (gf_ad E 65)), (1, .int (gf_i i)), (2, .int (gf_i f)), (3, .int (gf_i some)), (5, .int (gf_i c))]) C dd_Mo_partBy_97 (by decide) rfl ?_
                obtain ⟨x99, hx99⟩ : ∃ y : Int, y = c + 1 := ⟨_, rfl⟩
                refine gf_iinc (q := 7) (v := x99) (lv' := [(5, .int (gf_i x99)), (4, .int (gf_i z)), (6, .int (gf_i z)), (7, .int (gf_i kd)), (0, .ref (gf_ad E 65)), (1, .int (gf_i i)), (2, .int (gf_i f)), (3, .int (gf_i some))]) C dd_Mo_partBy_99 rfl hx99 (by decide) rfl ?_
                refine gf_goto 16 C dd_Mo_partBy_102 (by decide) ?_
                refine gf_lsub [1, 0, 4, 5, 6, 7] rfl ?_
                exact ih16_1 z x99 (by
                          rw [show kd.toNat = 6 by omega] at hz
                          rw [show kd.toNat = 6 by omega] at hzR
                          refine ⟨by omega, by omega, ?_, by omega, by omega⟩
                          rw [hx99, show (c + 1).toNat = c.toNat + 1 by omega]
                          show _ = gf_max (gm_mxc some v c.toNat) (pf_cnt (fun kd => pf_bit some kd && decide (v kd = ((c.toNat : Nat) : Int))) 6)
                          rw [show ((c.toNat : Nat) : Int) = c by omega, ← hq, ← hz]
                          unfold gf_max
                          first | (rw [if_pos (by omega)]; done) | (rw [if_neg (by omega)]; done)) (by omega)
            · skip
              have hsr : 0 ≤ gf_shr some kd ∧ gf_shr some kd ≤ 64 := by
                unfold gf_shr
                have hp : (0 : Int) < 2 ^ kd.toNat := Int.pow_pos (by decide)
                exact ⟨Int.ediv_nonneg hso.1 (by omega), Int.le_trans (Int.ediv_le_self _ hso.1) (by omega)⟩
              refine gf_iload C dd_Mo_partBy_35 0 rfl ?_
              refine gf_iload_n C dd_Mo_partBy_37 5 rfl ?_
              refine gf_iload C dd_Mo_partBy_38 1 rfl ?_
              refine gf_ishr C dd_Mo_partBy_40 (by omega) ?_
              refine gf_iconst C dd_Mo_partBy_41 ?_
              refine gf_iand C dd_Mo_partBy_42 (by omega) ?_
              have hab : 0 ≤ gf_and (gf_shr some kd) 1 ∧ gf_and (gf_shr some kd) 1 ≤ 1 := by unfold gf_and; have := Nat.and_le_right (n := (gf_shr some kd).toNat) (m := (1 : Int).toNat); constructor <;> omega
              refine gf_iconst C dd_Mo_partBy_43 ?_
              refine gf_icmp_ne 73 C dd_Mo_partBy_44 (by decide) (by omega) (by omega) (fun h44 => ?_) (fun h44 => ?_)
              · skip
                refine gf_iconst C dd_Mo_partBy_73 ?_
                refine gf_iadd C dd_Mo_partBy_74 ?_
                refine gf_nm (fun x75 hx75 => ?_)
                refine gf_istore (lv' := [(6, .int (gf_i x75)), (7, .int (gf_i kd)), (0, .ref (gf_ad E 65)), (1, .int (gf_i i)), (2, .int (gf_i f)), (3, .int (gf_i some)), (4, .int (gf_i q)), (5, .int (gf_i c))]) C dd_Mo_partBy_75 (by decide) rfl ?_
                obtain ⟨x77, hx77⟩ : ∃ y : Int, y = kd + 1 := ⟨_, rfl⟩
                refine gf_iinc (q := 1) (v := x77) (lv' := [(7, .int (gf_i x77)), (6, .int (gf_i x75)), (0, .ref (gf_ad E 65)), (1, .int (gf_i i)), (2, .int (gf_i f)), (3, .int (gf_i some)), (4, .int (gf_i q)), (5, .int (gf_i c))]) C dd_Mo_partBy_77 rfl hx77 (by decide) rfl ?_
                refine gf_goto 29 C dd_Mo_partBy_80 (by decide) ?_
                refine gf_lsub [1, 0, 2, 3, 4, 5, 6, 7] rfl ?_
                exact ih29_2 x75 x77 (by
                        refine ⟨by omega, by omega, ?_⟩
                        rw [hx77, show (kd + 1).toNat = kd.toNat + 1 by omega]
                        show _ = pf_cnt _ kd.toNat + (if (pf_bit some ((kd.toNat : Nat) : Int) && decide (v ((kd.toNat : Nat) : Int) = c)) = true then 1 else 0)
                        rw [show ((kd.toNat : Nat) : Int) = kd by omega, ← hz, hx75]
                        unfold pf_bit
                        first
                        | (rw [if_pos (by rw [← hvk]; simp; omega)]; done)
                        | (rw [if_neg (by simp; intro h; omega)]; done)
                        | (rw [if_neg (by rw [← hvk]; simp; intro h; omega)]; done)) (by omega)
              · skip
                refine gf_aload_n C dd_Mo_partBy_47 2 rfl ?_
                refine gf_iload_n C dd_Mo_partBy_48 3 rfl ?_
                refine gf_iload C dd_Mo_partBy_49 1 rfl ?_
                refine gf_aload_n C dd_Mo_partBy_51 2 rfl ?_
                refine gf_getA (r := 73) C gf_cl7 fl_Mo_36 dd_Mo_partBy_52 rfl (show gf_is 81 65 0 7 26 by decide) (by decide) (by decide) ?_
                refine gf_aload_n C dd_Mo_partBy_55 2 rfl ?_
                refine gf_getI (z := 15) C gf_cl7 fl_Mo_146 dd_Mo_partBy_56 rfl rfl (show gf_is 81 65 0 7 26 by decide) (fun hv56 => ?_)
                refine gf_iconst C dd_Mo_partBy_59 ?_
                refine gf_iadd C dd_Mo_partBy_60 ?_
                refine gf_callVi (st := [.int (gf_i z)]) (As := [.int (gf_i i), .int (gf_i kd), .ref (gf_ad E 73), .int (gf_i ((m9 65 15) + 1))]) C wk_Mo_143 gf_cl7 (show gf_is 81 65 0 7 26 by decide) (ct_Mo_asKind (gf_xl X) E i kd 73 (m9 65 15 + 1) 8 m9 (by omega) hg0 (by rw [q71]; exact hg.2.2.1) (by rw [q71]; exact hg.2.2.2) (show gf_is 81 73 1 0 8 by decide) (by omega) hF9) rfl ⟨rfl, rfl, rfl, rfl⟩ (Nat.le_of_ble_eq_true rfl) rfl dd_Mo_partBy_61 (fun r61 m61 hR61 hp61 => ?_)
                have hr61 := hp61.1
                refine gf_pm hp61.2 ?_
                have hvk : r61 = v kd := by
                  rw [hr61.1, hv, q71, q71, e15, f9]
                refine gf_iload C dd_Mo_partBy_64 7 rfl ?_
                refine gf_icmp_ne 73 C dd_Mo_partBy_66 (by decide) (by omega) (by omega) (fun h66 => ?_) (fun h66 => ?_)
                · skip
                  refine gf_iconst C dd_Mo_partBy_73 ?_
                  refine gf_iadd C dd_Mo_partBy_74 ?_
                  refine gf_nm (fun x75 hx75 => ?_)
                  refine gf_istore (lv' := [(6, .int (gf_i x75)), (7, .int (gf_i kd)), (0, .ref (gf_ad E 65)), (1, .int (gf_i i)), (2, .int (gf_i f)), (3, .int (gf_i some)), (4, .int (gf_i q)), (5, .int (gf_i c))]) C dd_Mo_partBy_75 (by decide) rfl ?_
                  obtain ⟨x77, hx77⟩ : ∃ y : Int, y = kd + 1 := ⟨_, rfl⟩
                  refine gf_iinc (q := 1) (v := x77) (lv' := [(7, .int (gf_i x77)), (6, .int (gf_i x75)), (0, .ref (gf_ad E 65)), (1, .int (gf_i i)), (2, .int (gf_i f)), (3, .int (gf_i some)), (4, .int (gf_i q)), (5, .int (gf_i c))]) C dd_Mo_partBy_77 rfl hx77 (by decide) rfl ?_
                  refine gf_goto 29 C dd_Mo_partBy_80 (by decide) ?_
                  refine gf_lsub [1, 0, 2, 3, 4, 5, 6, 7] rfl ?_
                  exact ih29_2 x75 x77 (by
                          refine ⟨by omega, by omega, ?_⟩
                          rw [hx77, show (kd + 1).toNat = kd.toNat + 1 by omega]
                          show _ = pf_cnt _ kd.toNat + (if (pf_bit some ((kd.toNat : Nat) : Int) && decide (v ((kd.toNat : Nat) : Int) = c)) = true then 1 else 0)
                          rw [show ((kd.toNat : Nat) : Int) = kd by omega, ← hz, hx75]
                          unfold pf_bit
                          first
                          | (rw [if_pos (by rw [← hvk]; simp; omega)]; done)
                          | (rw [if_neg (by simp; intro h; omega)]; done)
                          | (rw [if_neg (by rw [← hvk]; simp; intro h; omega)]; done)) (by omega)
                · skip
                  refine gf_iconst C dd_Mo_partBy_69 ?_
                  refine gf_goto 74 C dd_Mo_partBy_70 (by decide) ?_
                  refine gf_iadd C dd_Mo_partBy_74 ?_
                  refine gf_nm (fun x75 hx75 => ?_)
                  refine gf_istore (lv' := [(6, .int (gf_i x75)), (7, .int (gf_i kd)), (0, .ref (gf_ad E 65)), (1, .int (gf_i i)), (2, .int (gf_i f)), (3, .int (gf_i some)), (4, .int (gf_i q)), (5, .int (gf_i c))]) C dd_Mo_partBy_75 (by decide) rfl ?_
                  obtain ⟨x77, hx77⟩ : ∃ y : Int, y = kd + 1 := ⟨_, rfl⟩
                  refine gf_iinc (q := 1) (v := x77) (lv' := [(7, .int (gf_i x77)), (6, .int (gf_i x75)), (0, .ref (gf_ad E 65)), (1, .int (gf_i i)), (2, .int (gf_i f)), (3, .int (gf_i some)), (4, .int (gf_i q)), (5, .int (gf_i c))]) C dd_Mo_partBy_77 rfl hx77 (by decide) rfl ?_
                  refine gf_goto 29 C dd_Mo_partBy_80 (by decide) ?_
                  refine gf_lsub [1, 0, 2, 3, 4, 5, 6, 7] rfl ?_
                  exact ih29_2 x75 x77 (by
                          refine ⟨by omega, by omega, ?_⟩
                          rw [hx77, show (kd + 1).toNat = kd.toNat + 1 by omega]
                          show _ = pf_cnt _ kd.toNat + (if (pf_bit some ((kd.toNat : Nat) : Int) && decide (v ((kd.toNat : Nat) : Int) = c)) = true then 1 else 0)
                          rw [show ((kd.toNat : Nat) : Int) = kd by omega, ← hz, hx75]
                          unfold pf_bit
                          first
                          | (rw [if_pos (by rw [← hvk]; simp; omega)]; done)
                          | (rw [if_neg (by simp; intro h; omega)]; done)
                          | (rw [if_neg (by rw [← hvk]; simp; intro h; omega)]; done)) (by omega)
        refine gf_lsub [1, 0, 4, 5, 6, 7, 2, 3] rfl ?_
        exact L29_2 _ 0 0 (⟨by omega, by omega, rfl⟩) (Nat.lt_succ_self _)
  refine gf_lsub [1, 0, 2, 3, 4, 5] rfl ?_
  exact L16_1 _ 0 0 (⟨by omega, by omega, rfl, by omega, by omega⟩) (Nat.lt_succ_self _)
