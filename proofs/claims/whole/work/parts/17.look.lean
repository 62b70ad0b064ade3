theorem dd_Wa_look_0 : decode cc_Wa_look 0 = .ok (.aload_n 0, 1) := by decide +kernel
theorem dd_Wa_look_1 : decode cc_Wa_look 1 = .ok (.aload_n 1, 1) := by decide +kernel
theorem dd_Wa_look_2 : decode cc_Wa_look 2 = .ok (.invokevirtual 27, 3) := by decide +kernel
theorem dd_Wa_look_5 : decode cc_Wa_look 5 = .ok (.iload_n 3, 1) := by decide +kernel
theorem dd_Wa_look_6 : decode cc_Wa_look 6 = .ok (.istore 5, 2) := by decide +kernel
theorem dd_Wa_look_8 : decode cc_Wa_look 8 = .ok (.iload 5, 2) := by decide +kernel
theorem dd_Wa_look_10 : decode cc_Wa_look 10 = .ok (.iload 4, 2) := by decide +kernel
theorem dd_Wa_look_12 : decode cc_Wa_look 12 = .ok (.if_icmp .ge 31, 3) := by decide +kernel
theorem dd_Wa_look_15 : decode cc_Wa_look 15 = .ok (.aload_n 0, 1) := by decide +kernel
theorem dd_Wa_look_16 : decode cc_Wa_look 16 = .ok (.getfield 24, 3) := by decide +kernel
theorem dd_Wa_look_19 : decode cc_Wa_look 19 = .ok (.iload 5, 2) := by decide +kernel
theorem dd_Wa_look_21 : decode cc_Wa_look 21 = .ok (.aload_n 2, 1) := by decide +kernel
theorem dd_Wa_look_22 : decode cc_Wa_look 22 = .ok (.iload 5, 2) := by decide +kernel
theorem dd_Wa_look_24 : decode cc_Wa_look 24 = .ok (.aaload, 1) := by decide +kernel
theorem dd_Wa_look_25 : decode cc_Wa_look 25 = .ok (.aload_n 1, 1) := by decide +kernel
theorem dd_Wa_look_26 : decode cc_Wa_look 26 = .ok (.getfield 31, 3) := by decide +kernel
theorem dd_Wa_look_29 : decode cc_Wa_look 29 = .ok (.aload_n 1, 1) := by decide +kernel
theorem dd_Wa_look_30 : decode cc_Wa_look 30 = .ok (.getfield 36, 3) := by decide +kernel
theorem dd_Wa_look_33 : decode cc_Wa_look 33 = .ok (.invokevirtual 40, 3) := by decide +kernel
theorem dd_Wa_look_36 : decode cc_Wa_look 36 = .ok (.iastore, 1) := by decide +kernel
theorem dd_Wa_look_37 : decode cc_Wa_look 37 = .ok (.iinc 5 1, 3) := by decide +kernel
theorem dd_Wa_look_40 : decode cc_Wa_look 40 = .ok (.goto (-32), 3) := by decide +kernel
theorem dd_Wa_look_43 : decode cc_Wa_look 43 = .ok (.iconst 0, 1) := by decide +kernel
theorem dd_Wa_look_44 : decode cc_Wa_look 44 = .ok (.istore 5, 2) := by decide +kernel
theorem dd_Wa_look_46 : decode cc_Wa_look 46 = .ok (.iload 5, 2) := by decide +kernel
theorem dd_Wa_look_48 : decode cc_Wa_look 48 = .ok (.aload_n 0, 1) := by decide +kernel
theorem dd_Wa_look_49 : decode cc_Wa_look 49 = .ok (.getfield 46, 3) := by decide +kernel
theorem dd_Wa_look_52 : decode cc_Wa_look 52 = .ok (.if_icmp .ge 71, 3) := by decide +kernel
theorem dd_Wa_look_55 : decode cc_Wa_look 55 = .ok (.aload_n 0, 1) := by decide +kernel
theorem dd_Wa_look_56 : decode cc_Wa_look 56 = .ok (.iload 5, 2) := by decide +kernel
theorem dd_Wa_look_58 : decode cc_Wa_look 58 = .ok (.aload_n 1, 1) := by decide +kernel
theorem dd_Wa_look_59 : decode cc_Wa_look 59 = .ok (.invokevirtual 49, 3) := by decide +kernel
theorem dd_Wa_look_62 : decode cc_Wa_look 62 = .ok (.iload_n 3, 1) := by decide +kernel
theorem dd_Wa_look_63 : decode cc_Wa_look 63 = .ok (.istore 6, 2) := by decide +kernel
theorem dd_Wa_look_65 : decode cc_Wa_look 65 = .ok (.iload 6, 2) := by decide +kernel
theorem dd_Wa_look_67 : decode cc_Wa_look 67 = .ok (.iload 4, 2) := by decide +kernel
theorem dd_Wa_look_69 : decode cc_Wa_look 69 = .ok (.if_icmp .ge 48, 3) := by decide +kernel
theorem dd_Wa_look_72 : decode cc_Wa_look 72 = .ok (.aload_n 2, 1) := by decide +kernel
theorem dd_Wa_look_73 : decode cc_Wa_look 73 = .ok (.iload 6, 2) := by decide +kernel
theorem dd_Wa_look_75 : decode cc_Wa_look 75 = .ok (.aaload, 1) := by decide +kernel
theorem dd_Wa_look_76 : decode cc_Wa_look 76 = .ok (.aload_n 0, 1) := by decide +kernel
theorem dd_Wa_look_77 : decode cc_Wa_look 77 = .ok (.getfield 21, 3) := by decide +kernel
theorem dd_Wa_look_80 : decode cc_Wa_look 80 = .ok (.aload_n 1, 1) := by decide +kernel
theorem dd_Wa_look_81 : decode cc_Wa_look 81 = .ok (.getfield 36, 3) := by decide +kernel
theorem dd_Wa_look_84 : decode cc_Wa_look 84 = .ok (.invokevirtual 40, 3) := by decide +kernel
theorem dd_Wa_look_87 : decode cc_Wa_look 87 = .ok (.aload_n 0, 1) := by decide +kernel
theorem dd_Wa_look_88 : decode cc_Wa_look 88 = .ok (.getfield 24, 3) := by decide +kernel
theorem dd_Wa_look_91 : decode cc_Wa_look 91 = .ok (.iload 6, 2) := by decide +kernel
theorem dd_Wa_look_93 : decode cc_Wa_look 93 = .ok (.iaload, 1) := by decide +kernel
theorem dd_Wa_look_94 : decode cc_Wa_look 94 = .ok (.if_icmp .eq 17, 3) := by decide +kernel
theorem dd_Wa_look_97 : decode cc_Wa_look 97 = .ok (.aload_n 0, 1) := by decide +kernel
theorem dd_Wa_look_98 : decode cc_Wa_look 98 = .ok (.getfield 15, 3) := by decide +kernel
theorem dd_Wa_look_101 : decode cc_Wa_look 101 = .ok (.iload 5, 2) := by decide +kernel
theorem dd_Wa_look_103 : decode cc_Wa_look 103 = .ok (.dup2, 1) := by decide +kernel
theorem dd_Wa_look_104 : decode cc_Wa_look 104 = .ok (.iaload, 1) := by decide +kernel
theorem dd_Wa_look_105 : decode cc_Wa_look 105 = .ok (.iconst 1, 1) := by decide +kernel
theorem dd_Wa_look_106 : decode cc_Wa_look 106 = .ok (.iload 6, 2) := by decide +kernel
theorem dd_Wa_look_108 : decode cc_Wa_look 108 = .ok (.ishl, 1) := by decide +kernel
theorem dd_Wa_look_109 : decode cc_Wa_look 109 = .ok (.ior, 1) := by decide +kernel
theorem dd_Wa_look_110 : decode cc_Wa_look 110 = .ok (.iastore, 1) := by decide +kernel
theorem dd_Wa_look_111 : decode cc_Wa_look 111 = .ok (.iinc 6 1, 3) := by decide +kernel
theorem dd_Wa_look_114 : decode cc_Wa_look 114 = .ok (.goto (-49), 3) := by decide +kernel
theorem dd_Wa_look_117 : decode cc_Wa_look 117 = .ok (.iinc 5 1, 3) := by decide +kernel
theorem dd_Wa_look_120 : decode cc_Wa_look 120 = .ok (.goto (-74), 3) := by decide +kernel
theorem dd_Wa_look_123 : decode cc_Wa_look 123 = .ok (.return_, 1) := by decide +kernel
set_option maxRecDepth 100000 in
set_option maxHeartbeats 4000000 in
theorem ct_Wa_look (l : Launch) (E : gf_E) (a b : Nat) (c : Int) (μ : gf_M) (hab : a ≤ b) (hb : (b : Int) ≤ c) (hc : c ≤ 7) (hG : gf_okGs μ c) (hs : 0 ≤ μ 41 1 ∧ μ 41 1 ≤ 8) (hF : gf_okF μ 42 (μ 41 1)) : gf_Mv l E yy_Wa_look cc_Wa_look 7 (gf_rm 3 69) 81 gf_ref 0 0 81 gf_ref μ [.ref (gf_ad E 53), .ref (gf_ad E 41), .ref (gf_ad E 23), .int (gf_i a), .int (gf_i b)] (fun μ' => gf_lk μ μ' a b) := by
  refine gf_mv (by decide +kernel) (Nat.le_of_ble_eq_true rfl) (by decide) (fun X Q hlx C hname hQ => ?_)
  subst hlx
  replace C : gf_C X E cc_Wa_look 7 "GuardFigures$Watch" (gf_rm 3 69) := C
  show gf_G X E Q 7 gf_φ μ 0 [(0, .ref (gf_ad E 53)), (1, .ref (gf_ad E 41)), (2, .ref (gf_ad E 23)), (3, .int (gf_i a)), (4, .int (gf_i b))] []
  have h88 := pf_T_88 hs hF
  refine gf_aload_n C dd_Wa_look_0 0 rfl ?_
  refine gf_aload_n C dd_Wa_look_1 1 rfl ?_
  refine gf_callVv (st := []) (As := [.ref (gf_ad E 41)]) C wk_Wa_27 gf_cl4 (show gf_is 81 53 0 4 6 by decide) (ct_Wa_listThings (gf_xl X) E μ (by omega) (hF)) rfl ⟨rfl, rfl, rfl, rfl⟩ (Nat.le_of_ble_eq_true rfl) rfl dd_Wa_look_2 (fun m2 hp2 => ?_)
  obtain ⟨hl2, he20, he21, he22⟩ := hp2
  have hfr2 := hl2.2.2.2
  refine gf_iload_n C dd_Wa_look_5 3 rfl ?_
  refine gf_istore (lv' := [(5, .int (gf_i a)), (0, .ref (gf_ad E 53)), (1, .ref (gf_ad E 41)), (2, .ref (gf_ad E 23)), (3, .int (gf_i a)), (4, .int (gf_i b))]) C dd_Wa_look_6 (by decide) rfl ?_
  have L8_1 : ∀ (N : Nat) (i : Int) (m : gf_M) , ((a : Int) ≤ i ∧ i ≤ b ∧ (∀ j : Int, (a : Int) ≤ j → j < i → m 58 j = pf_reck (μ (24 + j) 0) (μ (24 + j) 1) (μ (24 + j) 2) (μ 42) (μ 41 1)) ∧ ∀ x y : Int, x ≠ 58 → m x y = m2 x y) → ((b : Int) - i).toNat < N → gf_G X E Q 7 gf_φ m 8 [(5, .int (gf_i i)), (0, .ref (gf_ad E 53)), (1, .ref (gf_ad E 41)), (2, .ref (gf_ad E 23)), (3, .int (gf_i a)), (4, .int (gf_i b))] [] := by
    intro N
    induction N with
    | zero => intro i m hinv hN; exact absurd hN (Nat.not_lt_zero _)
    | succ N ih8_1 =>
      intro i m hinv hN
      have hinv0 := hinv
      obtain ⟨hi0, hi1, hi2, hi3⟩ := hinv
      have e41 : m 41 1 = μ 41 1 := by rw [hi3 41 1 (by decide), hfr2 41 1 (by decide)]
      have e42 : m 42 = μ 42 := funext fun y => by rw [hi3 42 y (by decide), hfr2 42 y (by decide)]
      have hF2 : gf_okF m 42 (m 41 1) := by rw [e41]; intro j h0 h1; rw [e42]; exact hF j h0 h1
      refine gf_iload C dd_Wa_look_8 0 rfl ?_
      refine gf_iload C dd_Wa_look_10 5 rfl ?_
      refine gf_icmp_ge 43 C dd_Wa_look_12 (by decide) (by omega) (by omega) (fun h12 => ?_) (fun h12 => ?_)
      · skip
        obtain ⟨mA, hmA⟩ : ∃ z, z = m := ⟨_, rfl⟩
        have hAd : ∀ j : Int, (a : Int) ≤ j → j < b → mA 58 j = pf_reck (μ (24 + j) 0) (μ (24 + j) 1) (μ (24 + j) 2) (μ 42) (μ 41 1) := fun j h0 h1 => by rw [hmA]; exact hi2 j h0 (by omega)
        have hAfr : ∀ x y : Int, x ≠ 58 → mA x y = m2 x y := fun x y h => by rw [hmA]; exact hi3 x y h
        have eA41 : mA 41 1 = μ 41 1 := by rw [hmA]; exact e41
        have eA42 : mA 42 = μ 42 := by rw [hmA]; exact e42
        have hthA : mA 53 2 = ((pf_T (μ 42) (μ 41 1)).length : Int) := by rw [hAfr 53 2 (by decide), hl2.1, ← pf_T_fst, List.length_map]
        clear hi2 hi3 e41 e42 hF2
        refine gf_iconst C dd_Wa_look_43 ?_
        refine gf_istore (lv' := [(5, .int (gf_i 0)), (0, .ref (gf_ad E 53)), (1, .ref (gf_ad E 41)), (2, .ref (gf_ad E 23)), (3, .int (gf_i a)), (4, .int (gf_i b))]) C dd_Wa_look_44 (by decide) rfl ?_
        have L46_2 : ∀ (N : Nat) (t : Int) (m : gf_M) , (0 ≤ t ∧ t ≤ ((pf_T (μ 42) (μ 41 1)).length : Int) ∧ (∀ (s : Nat) (q : Int × (Int → Int)), (pf_T (μ 42) (μ 41 1))[s]? = some q → ((s : Int) < t → m 55 s = ((pf_nb (pf_no μ (μ 42) (μ 41 1) q.2) a (b - a) : Nat) : Int)) ∧ (t ≤ (s : Int) → m 55 s = 0)) ∧ ∀ x y : Int, x ≠ 55 → x ≠ 57 → m x y = mA x y) → (88 - t).toNat < N → gf_G X E Q 7 gf_φ m 46 [(5, .int (gf_i t)), (0, .ref (gf_ad E 53)), (1, .ref (gf_ad E 41)), (2, .ref (gf_ad E 23)), (3, .int (gf_i a)), (4, .int (gf_i b))] [] := by
          intro N
          induction N with
          | zero => intro t m hinv hN; exact absurd hN (Nat.not_lt_zero _)
          | succ N ih46_2 =>
            intro t m hinv hN
            have hinv0 := hinv
            obtain ⟨ht0, ht1, ht2, ht3⟩ := hinv
            have hthm : m 53 2 = ((pf_T (μ 42) (μ 41 1)).length : Int) := by rw [ht3 53 2 (by decide) (by decide)]; exact hthA
            have e41 : m 41 1 = μ 41 1 := by rw [ht3 41 1 (by decide) (by decide)]; exact eA41
            have hm42 : ∀ y : Int, m 42 y = μ 42 y := fun y => by rw [ht3 42 y (by decide) (by decide)]; exact congrFun eA42 y
            have hE0 : m 56 0 = ((pf_sl (μ 42) (μ 41 1).toNat).length : Int) := by rw [ht3 56 0 (by decide) (by decide), hAfr 56 0 (by decide)]; exact he20
            have hE1 : m 56 1 = ((pf_sl (μ 42) (μ 41 1).toNat).length : Int) + ((pf_ex (μ 42) 1 (μ 41 1 - 1).toNat).length : Int) := by rw [ht3 56 1 (by decide) (by decide), hAfr 56 1 (by decide)]; exact he21
            refine gf_iload C dd_Wa_look_46 0 rfl ?_
            refine gf_aload_n C dd_Wa_look_48 1 rfl ?_
            refine gf_getI (z := 2) C gf_cl4 fl_Wa_46 dd_Wa_look_49 rfl rfl (show gf_is 81 53 0 4 6 by decide) (fun hv49 => ?_)
            refine gf_icmp_ge 123 C dd_Wa_look_52 (by decide) (by omega) (by omega) (fun h52 => ?_) (fun h52 => ?_)
            · skip
              refine gf_vret C hQ dd_Wa_look_123 ?_
              refine ⟨?_, fun s q hq => ⟨?_, ?_⟩, ?_, ?_, ?_, fun x y h => ?_⟩
              · exact hthm
              · rw [ht3 54 s (by decide) (by decide), hAfr 54 s (by decide)]
                exact pf_T_lst hl2.2.1 hq
              · have h1 := (List.getElem?_eq_some_iff.mp hq).1
                exact (ht2 s q hq).1 (by omega)
              · exact hE0
              · exact hE1
              · rw [ht3 56 2 (by decide) (by decide), hAfr 56 2 (by decide)]; exact he22
              · rw [ht3 x y (by omega) (by omega), hAfr x y (by omega)]; exact hfr2 x y (by omega)
            · skip
              have hlt : t.toNat < (pf_T (μ 42) (μ 41 1)).length := by omega
              obtain ⟨q, hTq⟩ : ∃ q, (pf_T (μ 42) (μ 41 1))[t.toNat]? = some q := ⟨_, List.getElem?_eq_getElem hlt⟩
              have hmk : m 54 t = q.1 := by
                have := pf_T_lst hl2.2.1 hTq
                rw [show ((t.toNat : Nat) : Int) = t by omega] at this
                rw [ht3 54 t (by decide) (by decide), hAfr 54 t (by decide)]; exact this
              refine gf_aload_n C dd_Wa_look_55 1 rfl ?_
              refine gf_iload C dd_Wa_look_56 0 rfl ?_
              refine gf_aload_n C dd_Wa_look_58 2 rfl ?_
              refine gf_callVv (st := []) (As := [.int (gf_i t), .ref (gf_ad E 41)]) C wk_Wa_49 gf_cl4 (show gf_is 81 53 0 4 6 by decide) (ct_Wa_copyWith (gf_xl X) E t q (μ 42) (μ 41 1) m ht0 hTq ⟨by omega, hs⟩ (fun j _ _ => (hm42 j).symm) hF hmk hE0 hE1) rfl ⟨rfl, rfl, rfl, rfl⟩ (Nat.le_of_ble_eq_true rfl) rfl dd_Wa_look_59 (fun m59 hp59 => ?_)
              obtain ⟨hp59a, hp59b⟩ := hp59
              refine gf_iload_n C dd_Wa_look_62 4 rfl ?_
              refine gf_istore (lv' := [(6, .int (gf_i a)), (5, .int (gf_i t)), (0, .ref (gf_ad E 53)), (1, .ref (gf_ad E 41)), (2, .ref (gf_ad E 23)), (3, .int (gf_i a)), (4, .int (gf_i b))]) C dd_Wa_look_63 (by decide) rfl ?_
              have L65_3 : ∀ (N : Nat) (i : Int) (m' : gf_M) , ((a : Int) ≤ i ∧ i ≤ b ∧ m' 55 t = ((pf_nb (pf_no μ (μ 42) (μ 41 1) q.2) a (i - (a : Int)).toNat : Nat) : Int) ∧ ∀ x y : Int, ¬ (x = 55 ∧ y = t) → m' x y = m59 x y) → ((b : Int) - i).toNat < N → gf_G X E Q 7 gf_φ m' 65 [(6, .int (gf_i i)), (5, .int (gf_i t)), (0, .ref (gf_ad E 53)), (1, .ref (gf_ad E 41)), (2, .ref (gf_ad E 23)), (3, .int (gf_i a)), (4, .int (gf_i b))] [] := by
                intro N
                induction N with
                | zero => intro i m' hinv hN; exact absurd hN (Nat.not_lt_zero _)
                | succ N ih65_3 =>
                  intro i m' hinv hN
                  have hinv0 := hinv
                  obtain ⟨hi0, hi1, hi2, hi3⟩ := hinv
                  have e41' : m' 41 1 = μ 41 1 := by rw [hi3 41 1 (by omega), hp59b 41 1 (by decide)]; exact e41
                  have eA : ∀ x y : Int, x ≠ 55 → x ≠ 57 → m' x y = mA x y := fun x y h1 h2 => by rw [hi3 x y (by omega), hp59b x y h2]; exact ht3 x y h1 h2
                  have e57 : ∀ j : Int, 0 ≤ j → j < μ 41 1 → m' 57 j = q.2 j ∧ 0 ≤ q.2 j ∧ q.2 j ≤ 9 := fun j h0 h1 => by rw [hi3 57 j (by omega)]; exact hp59a j h0 h1
                  have hFc : gf_okF m' 57 (m' 41 1) := by rw [e41']; intro j h0 h1; have := e57 j h0 h1; omega
                  have hnl := pf_nb_lt (pf_no μ (μ 42) (μ 41 1) q.2) a (i - (a : Int)).toNat
                  have hn7 := pf_pow7 (i := a + (i - (a : Int)).toNat) (by omega)
                  refine gf_iload C dd_Wa_look_65 0 rfl ?_
                  refine gf_iload C dd_Wa_look_67 6 rfl ?_
                  refine gf_icmp_ge 117 C dd_Wa_look_69 (by decide) (by omega) (by omega) (fun h69 => ?_) (fun h69 => ?_)
                  · skip
                    obtain ⟨x117, hx117⟩ : ∃ y : Int, y = t + 1 := ⟨_, rfl⟩
                    refine gf_iinc (q := 1) (v := x117) (lv' := [(5, .int (gf_i x117)), (6, .int (gf_i i)), (0, .ref (gf_ad E 53)), (1, .ref (gf_ad E 41)), (2, .ref (gf_ad E 23)), (3, .int (gf_i a)), (4, .int (gf_i b))]) C dd_Wa_look_117 rfl hx117 (by decide) rfl ?_
                    refine gf_goto 46 C dd_Wa_look_120 (by decide) ?_
                    refine gf_lsub [0, 2, 3, 4, 5, 6] rfl ?_
                    exact ih46_2 x117 m' (by
                              refine ⟨by omega, by omega, fun s q' hq' => ⟨fun h => ?_, fun h => ?_⟩, fun x y h1 h2 => by rw [hi3 x y (by omega), hp59b x y h2]; exact ht3 x y h1 h2⟩
                              · by_cases e : (s : Int) = t
                                · have es : s = t.toNat := by omega
                                  subst es
                                  have : q' = q := Option.some.inj (hq'.symm.trans hTq)
                                  subst this
                                  rw [e, hi2, show (i - (a : Int)).toNat = b - a by omega]
                                · rw [hi3 55 s (by omega), hp59b 55 s (by decide)]
                                  exact (ht2 s q' hq').1 (by omega)
                              · rw [hi3 55 s (by omega), hp59b 55 s (by decide)]
                                exact (ht2 s q' hq').2 (by omega)) (by omega)
                  · skip
                    refine gf_aload_n C dd_Wa_look_72 4 rfl ?_
                    have hGi0 := hG i (by omega) (by omega)
                    have eg : ∀ y : Int, m' (24 + i) y = μ (24 + i) y := fun y => by rw [eA (24 + i) y (by omega) (by omega), hAfr (24 + i) y (by omega)]; exact hfr2 (24 + i) y (by omega)
                    have hGi : gf_okG m' (24 + i) := by unfold gf_okG; rw [eg 0, eg 1, eg 2]; exact hGi0
                    have hshi := gf_shl1 (i := i) (by omega)
                    have hsh7 : gf_shl 1 i < 128 := by
                      unfold gf_shl
                      have : i = 0 ∨ i = 1 ∨ i = 2 ∨ i = 3 ∨ i = 4 ∨ i = 5 ∨ i = 6 := by omega
                      rcases this with h | h | h | h | h | h | h <;> rw [h] <;> decide
                    refine gf_iload C dd_Wa_look_73 0 rfl ?_
                    have ha75 := gf_guard_of (r := i) (by omega)
                    refine gf_aald C dd_Wa_look_75 (show gf_is 81 23 4 4 7 by decide) (by decide) (by omega) ha75.1 (by omega) ?_
                    refine gf_aload_n C dd_Wa_look_76 2 rfl ?_
                    refine gf_getA (r := 57) C gf_cl4 fl_Wa_21 dd_Wa_look_77 rfl (show gf_is 81 53 0 4 6 by decide) (by decide) (by decide) ?_
                    refine gf_aload_n C dd_Wa_look_80 3 rfl ?_
                    refine gf_getI (z := 1) C gf_cl5 fl_Wa_36 dd_Wa_look_81 rfl rfl (show gf_is 81 41 0 5 5 by decide) (fun hv81 => ?_)
                    refine gf_callVi (st := []) (As := [.ref (gf_ad E 57), .int (gf_i (m' 41 1))]) C wk_Wa_40 gf_cl0 ha75.2 (ct_Gd_reckon (gf_xl X) E (24 + i) 57 (m' 41 1) 8 m' ha75.2 hGi (by decide) (by omega) hFc) rfl ⟨rfl, rfl, rfl, rfl⟩ (Nat.le_of_ble_eq_true rfl) rfl dd_Wa_look_84 (fun r84 m84 hR84 hp84 => ?_)
                    have hr84 := hp84.1
                    refine gf_pm hp84.2 ?_
                    refine gf_aload_n C dd_Wa_look_87 2 rfl ?_
                    refine gf_getA (r := 58) C gf_cl4 fl_Wa_24 dd_Wa_look_88 rfl (show gf_is 81 53 0 4 6 by decide) (by decide) (by decide) ?_
                    refine gf_iload C dd_Wa_look_91 0 rfl ?_
                    refine gf_iald C dd_Wa_look_93 (show gf_is 81 58 1 0 7 by decide) (by omega) (fun hv93 => ?_)
                    refine gf_icmp_eq 111 C dd_Wa_look_94 (by decide) (by omega) (by omega) (fun h94 => ?_) (fun h94 => ?_)
                    · skip
                      obtain ⟨x111, hx111⟩ : ∃ y : Int, y = i + 1 := ⟨_, rfl⟩
                      refine gf_iinc (q := 0) (v := x111) (lv' := [(6, .int (gf_i x111)), (5, .int (gf_i t)), (0, .ref (gf_ad E 53)), (1, .ref (gf_ad E 41)), (2, .ref (gf_ad E 23)), (3, .int (gf_i a)), (4, .int (gf_i b))]) C dd_Wa_look_111 rfl hx111 (by decide) rfl ?_
                      refine gf_goto 65 C dd_Wa_look_114 (by decide) ?_
                      refine gf_lsub [0, 1, 2, 3, 4, 5, 6] rfl ?_
                      exact ih65_3 x111 m' (by
                                  have e1 : (i + 1 - (a : Int)).toNat = (i - (a : Int)).toNat + 1 := by omega
                                  have ei : a + (i - (a : Int)).toNat = i.toNat := by omega
                                  have eI : ((i.toNat : Nat) : Int) = i := by omega
                                  have er : pf_reck (μ (24 + i) 0) (μ (24 + i) 1) (μ (24 + i) 2) (m' 57) (μ 41 1) = pf_reck (μ (24 + i) 0) (μ (24 + i) 1) (μ (24 + i) 2) q.2 (μ 41 1) := pf_reck_congr (fun j h0 h1 => (e57 j h0 h1).1)
                                  have hr84' := hr84.1
                                  rw [e41', eg 0, eg 1, eg 2, er] at hr84'
                                  have hd' : m' 58 i = pf_reck (μ (24 + i) 0) (μ (24 + i) 1) (μ (24 + i) 2) (μ 42) (μ 41 1) := by rw [eA 58 i (by decide) (by decide)]; exact hAd i (by omega) (by omega)
                                  have hno : pf_no μ (μ 42) (μ 41 1) q.2 (a + (i - (a : Int)).toNat) = decide (r84 ≠ m' 58 i) := by
                                    rw [ei]; unfold pf_no; rw [eI, ← hr84', ← hd']
                                  first
                                  | (refine ⟨by omega, by omega, ?_, hi3⟩
                                     rw [hx111, e1, hi2]
                                     show _ = ((if pf_no μ (μ 42) (μ 41 1) q.2 (a + (i - (a : Int)).toNat) = true then _ else _ : Nat) : Int)
                                     rw [if_neg (by rw [hno]; simpa using h94)])
                                  | (refine ⟨by omega, by omega, ?_, fun x y h => ?_⟩
                                     · rw [hx111, e1, hm110, gf_up_s]
                                       show _ = ((if pf_no μ (μ 42) (μ 41 1) q.2 (a + (i - (a : Int)).toNat) = true then _ else _ : Nat) : Int)
                                       rw [if_pos (by rw [hno]; simpa using h94), hi2]
                                       unfold gf_or gf_shl
                                       rw [Int.toNat_natCast, Int.one_mul, ei]
                                       have e2 : ((2 : Int) ^ i.toNat).toNat = 2 ^ i.toNat := by
                                         have : ((2 : Int) ^ i.toNat) = ((2 ^ i.toNat : Nat) : Int) := by simp
                                         rw [this, Int.toNat_natCast]
                                       rw [e2]
                                     · rw [hm110]
                                       by_cases e5 : x = 55
                                       · rw [gf_up_j (fun hy => h ⟨e5, hy⟩)]; exact hi3 x y h
                                       · rw [gf_up_k e5]; exact hi3 x y h)) (by omega)
                    · skip
                      refine gf_aload_n C dd_Wa_look_97 2 rfl ?_
                      refine gf_getA (r := 55) C gf_cl4 fl_Wa_15 dd_Wa_look_98 rfl (show gf_is 81 53 0 4 6 by decide) (by decide) (by decide) ?_
                      refine gf_iload C dd_Wa_look_101 1 rfl ?_
                      refine gf_dup2 C dd_Wa_look_103 rfl rfl ?_
                      refine gf_iald C dd_Wa_look_104 (show gf_is 81 55 1 0 88 by decide) (by omega) (fun hv104 => ?_)
                      refine gf_iconst C dd_Wa_look_105 ?_
                      refine gf_iload C dd_Wa_look_106 0 rfl ?_
                      refine gf_ishl C dd_Wa_look_108 (by omega) ?_
                      refine gf_ior C dd_Wa_look_109 (by omega) ?_
                      refine gf_iast C dd_Wa_look_110 (show gf_is 81 55 1 0 88 by decide) (by omega) (by unfold gf_or; have := Nat.or_lt_two_pow (n := 7) (x := (m' 55 t).toNat) (y := (gf_shl 1 i).toNat) (by omega) (by omega); omega) ?_
                      refine gf_nmM (fun m110 hm110 => ?_)
                      obtain ⟨x111, hx111⟩ : ∃ y : Int, y = i + 1 := ⟨_, rfl⟩
                      refine gf_iinc (q := 0) (v := x111) (lv' := [(6, .int (gf_i x111)), (5, .int (gf_i t)), (0, .ref (gf_ad E 53)), (1, .ref (gf_ad E 41)), (2, .ref (gf_ad E 23)), (3, .int (gf_i a)), (4, .int (gf_i b))]) C dd_Wa_look_111 rfl hx111 (by decide) rfl ?_
                      refine gf_goto 65 C dd_Wa_look_114 (by decide) ?_
                      refine gf_lsub [0, 1, 2, 3, 4, 5, 6] rfl ?_
                      exact ih65_3 x111 m110 (by
                                  have e1 : (i + 1 - (a : Int)).toNat = (i - (a : Int)).toNat + 1 := by omega
                                  have ei : a + (i - (a : Int)).toNat = i.toNat := by omega
                                  have eI : ((i.toNat : Nat) : Int) = i := by omega
                                  have er : pf_reck (μ (24 + i) 0) (μ (24 + i) 1) (μ (24 + i) 2) (m' 57) (μ 41 1) = pf_reck (μ (24 + i) 0) (μ (24 + i) 1) (μ (24 + i) 2) q.2 (μ 41 1) := pf_reck_congr (fun j h0 h1 => (e57 j h0 h1).1)
                                  have hr84' := hr84.1
                                  rw [e41', eg 0, eg 1, eg 2, er] at hr84'
                                  have hd' : m' 58 i = pf_reck (μ (24 + i) 0) (μ (24 + i) 1) (μ (24 + i) 2) (μ 42) (μ 41 1) := by rw [eA 58 i (by decide) (by decide)]; exact hAd i (by omega) (by omega)
                                  have hno : pf_no μ (μ 42) (μ 41 1) q.2 (a + (i - (a : Int)).toNat) = decide (r84 ≠ m' 58 i) := by
                                    rw [ei]; unfold pf_no; rw [eI, ← hr84', ← hd']
                                  first
                                  | (refine ⟨by omega, by omega, ?_, hi3⟩
                                     rw [hx111, e1, hi2]
                                     show _ = ((if pf_no μ (μ 42) (μ 41 1) q.2 (a + (i - (a : Int)).toNat) = true then _ else _ : Nat) : Int)
                                     rw [if_neg (by rw [hno]; simpa using h94)])
                                  | (refine ⟨by omega, by omega, ?_, fun x y h => ?_⟩
                                     · rw [hx111, e1, hm110, gf_up_s]
                                       show _ = ((if pf_no μ (μ 42) (μ 41 1) q.2 (a + (i - (a : Int)).toNat) = true then _ else _ : Nat) : Int)
                                       rw [if_pos (by rw [hno]; simpa using h94), hi2]
                                       unfold gf_or gf_shl
                                       rw [Int.toNat_natCast, Int.one_mul, ei]
                                       have e2 : ((2 : Int) ^ i.toNat).toNat = 2 ^ i.toNat := by
                                         have : ((2 : Int) ^ i.toNat) = ((2 ^ i.toNat : Nat) : Int) := by simp
                                         rw [this, Int.toNat_natCast]
                                       rw [e2]
                                     · rw [hm110]
                                       by_cases e5 : x = 55
                                       · rw [gf_up_j (fun hy => h ⟨e5, hy⟩)]; exact hi3 x y h
                                       · rw [gf_up_k e5]; exact hi3 x y h)) (by omega)
              refine gf_lsub [0, 1, 2, 3, 4, 5, 6] rfl ?_
              exact L65_3 _ a m59 (by
                        refine ⟨by omega, by omega, ?_, fun x y _ => rfl⟩
                        rw [hp59b 55 t (by decide), show ((a : Int) - (a : Int)).toNat = 0 by omega]
                        have := (ht2 t.toNat q hTq).2 (by omega)
                        rw [show ((t.toNat : Nat) : Int) = t by omega] at this
                        rw [this]
                        rfl) (Nat.lt_succ_self _)
        refine gf_lsub [0, 1, 2, 3, 4, 5] rfl ?_
        exact L46_2 _ 0 m (by
            refine ⟨by omega, by omega, fun s q hq => ⟨fun h => by omega, fun _ => ?_⟩, fun x y _ _ => by rw [hmA]⟩
            rw [← hmA, hAfr 55 s (by decide)]
            refine hl2.2.2.1 s (by omega) ?_
            have h1 := (List.getElem?_eq_some_iff.mp hq).1
            rw [← pf_T_fst, List.length_map]
            omega) (Nat.lt_succ_self _)
      · skip
        refine gf_aload_n C dd_Wa_look_15 1 rfl ?_
        refine gf_getA (r := 58) C gf_cl4 fl_Wa_24 dd_Wa_look_16 rfl (show gf_is 81 53 0 4 6 by decide) (by decide) (by decide) ?_
        refine gf_iload C dd_Wa_look_19 0 rfl ?_
        refine gf_aload_n C dd_Wa_look_21 3 rfl ?_
        have hGi0 := hG i (by omega) (by omega)
        have eg : ∀ y : Int, m (24 + i) y = μ (24 + i) y := fun y => by rw [hi3 (24 + i) y (by omega)]; exact hfr2 (24 + i) y (by omega)
        have hGi : gf_okG m (24 + i) := by unfold gf_okG; rw [eg 0, eg 1, eg 2]; exact hGi0
        refine gf_iload C dd_Wa_look_22 0 rfl ?_
        have ha24 := gf_guard_of (r := i) (by omega)
        refine gf_aald C dd_Wa_look_24 (show gf_is 81 23 4 4 7 by decide) (by decide) (by omega) ha24.1 (by omega) ?_
        refine gf_aload_n C dd_Wa_look_25 2 rfl ?_
        refine gf_getA (r := 42) C gf_cl5 fl_Wa_31 dd_Wa_look_26 rfl (show gf_is 81 41 0 5 5 by decide) (by decide) (by decide) ?_
        refine gf_aload_n C dd_Wa_look_29 2 rfl ?_
        refine gf_getI (z := 1) C gf_cl5 fl_Wa_36 dd_Wa_look_30 rfl rfl (show gf_is 81 41 0 5 5 by decide) (fun hv30 => ?_)
        skip
        refine gf_callVi (st := [.int (gf_i i), .ref (gf_ad E 58)]) (As := [.ref (gf_ad E 42), .int (gf_i (m 41 1))]) C wk_Wa_40 gf_cl0 ha24.2 (ct_Gd_reckon (gf_xl X) E (24 + i) 42 (m 41 1) 8 m ha24.2 hGi (by decide) (by omega) hF2) rfl ⟨rfl, rfl, rfl, rfl⟩ (Nat.le_of_ble_eq_true rfl) rfl dd_Wa_look_33 (fun r33 m33 hR33 hp33 => ?_)
        have hr33 := hp33.1
        refine gf_pm hp33.2 ?_
        refine gf_iast C dd_Wa_look_36 (show gf_is 81 58 1 0 7 by decide) (by omega) (by omega) ?_
        refine gf_nmM (fun m36 hm36 => ?_)
        obtain ⟨x37, hx37⟩ : ∃ y : Int, y = i + 1 := ⟨_, rfl⟩
        refine gf_iinc (q := 0) (v := x37) (lv' := [(5, .int (gf_i x37)), (0, .ref (gf_ad E 53)), (1, .ref (gf_ad E 41)), (2, .ref (gf_ad E 23)), (3, .int (gf_i a)), (4, .int (gf_i b))]) C dd_Wa_look_37 rfl hx37 (by decide) rfl ?_
        refine gf_goto 8 C dd_Wa_look_40 (by decide) ?_
        refine gf_lsub [0, 1, 2, 3, 4, 5] rfl ?_
        exact ih8_1 x37 m36 (by
                refine ⟨by omega, by omega, fun j h0 h1 => ?_, fun x y h => by rw [hm36, gf_up_k h]; exact hi3 x y h⟩
                rw [hm36]
                by_cases e : j = i
                · rw [e, gf_up_s, hr33.1, e41, e42, eg 0, eg 1, eg 2]
                · rw [gf_up_j e]; exact hi2 j h0 (by omega)) (by omega)
  refine gf_lsub [0, 1, 2, 3, 4, 5] rfl ?_
  exact L8_1 _ a m2 (⟨by omega, by omega, fun j h0 h1 => by omega, fun x y _ => rfl⟩) (Nat.lt_succ_self _)
