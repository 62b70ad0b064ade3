/-! the reference: a text's fault, a house -/
/-- what no later call sees of the reference -/
def gm_scr (a b : Int) : Prop := (a = 65 ∧ (b = 10 ∨ b = 11 ∨ b = 12 ∨ b = 15 ∨ b = 16 ∨ b = 17 ∨ b = 21)) ∨ a = 72 ∨ a = 73 ∨ (76 ≤ a ∧ a ≤ 80)
theorem gm_n3 {a b : Int} (h : ¬ (a = 65 ∧ (b = 10 ∨ b = 11 ∨ b = 12))) : ¬ (a = 65 ∧ (b = 11 ∨ b = 12)) := by omega
theorem gm_n3b {a b : Int} (h : ¬ (a = 65 ∧ (b = 10 ∨ b = 11 ∨ b = 12))) : ¬ (a = 65 ∧ b = 11) := by omega
theorem gm_n3c {a b : Int} (h : ¬ (a = 65 ∧ (b = 10 ∨ b = 11 ∨ b = 12))) : ¬ (a = 65 ∧ b = 10) := by omega
def gm_sc (μ' μ : gf_M) : Prop := ∀ a b : Int, ¬ gm_scr a b → μ' a b = μ a b
theorem gm_sc_rf {μ : gf_M} : gm_sc μ μ := fun _ _ _ => rfl
theorem gm_sc_tr {a b c : gf_M} (h : gm_sc a b) (h2 : gm_sc b c) : gm_sc a c := fun x y hxy => by rw [h x y hxy, h2 x y hxy]
def gm_go (f : Int → Int) (n : Int) (P : Int × List (Int × Int × Int)) (m : gf_M) : Prop := ∃ a : List (Int × Int × Int), pf_pr f n 61 (m 65 11) a = P ∧ (0 ≤ m 65 11 ∧ m 65 11 ≤ n) ∧ m 72 0 = (a.length : Int) ∧ a.length ≤ 7 ∧ gm_hold m 72 a ∧ m 72 1 = 0 ∧ m 72 2 = 0
theorem gm_hold_app {μ μ' : gf_M} {k : Int} {a : List (Int × Int × Int)} {q : Int × Int × Int} (h : gm_hold μ k a) (hm : ∀ i : Nat, i < a.length → μ' k (3 + i) = μ k (3 + i) ∧ μ' k (10 + i) = μ k (10 + i) ∧ μ' k (17 + i) = μ k (17 + i)) (hq : μ' k (3 + a.length) = q.1 ∧ μ' k (10 + a.length) = q.2.1 ∧ μ' k (17 + a.length) = q.2.2) : gm_hold μ' k (a ++ [q]) := by
  intro i r hr
  by_cases hi : i < a.length
  · rw [List.getElem?_append_left hi] at hr
    have := hm i hi
    rw [this.1, this.2.1, this.2.2]
    exact h i r hr
  · have hi2 : i < (a ++ [q]).length := (List.getElem?_eq_some_iff.mp hr).1
    rw [List.length_append] at hi2
    have e : i = a.length := by
      have : [q].length = 1 := rfl
      omega
    subst e
    rw [List.getElem?_append_right (Nat.le_refl _), Nat.sub_self] at hr
    have : q = r := by simpa using hr
    subst this
    exact hq
theorem dd_Mo_faultOf_0 : decode cc_Mo_faultOf 0 = .ok (.aload_n 0, 1) := by decide +kernel
theorem dd_Mo_faultOf_1 : decode cc_Mo_faultOf 1 = .ok (.iload_n 1, 1) := by decide +kernel
theorem dd_Mo_faultOf_2 : decode cc_Mo_faultOf 2 = .ok (.putfield 96, 3) := by decide +kernel
theorem dd_Mo_faultOf_5 : decode cc_Mo_faultOf 5 = .ok (.aload_n 0, 1) := by decide +kernel
theorem dd_Mo_faultOf_6 : decode cc_Mo_faultOf 6 = .ok (.iconst 0, 1) := by decide +kernel
theorem dd_Mo_faultOf_7 : decode cc_Mo_faultOf 7 = .ok (.putfield 93, 3) := by decide +kernel
theorem dd_Mo_faultOf_10 : decode cc_Mo_faultOf 10 = .ok (.iconst 0, 1) := by decide +kernel
theorem dd_Mo_faultOf_11 : decode cc_Mo_faultOf 11 = .ok (.istore_n 2, 1) := by decide +kernel
theorem dd_Mo_faultOf_12 : decode cc_Mo_faultOf 12 = .ok (.iload_n 2, 1) := by decide +kernel
theorem dd_Mo_faultOf_13 : decode cc_Mo_faultOf 13 = .ok (.bipush 24, 2) := by decide +kernel
theorem dd_Mo_faultOf_15 : decode cc_Mo_faultOf 15 = .ok (.if_icmp .ge 16, 3) := by decide +kernel
theorem dd_Mo_faultOf_18 : decode cc_Mo_faultOf 18 = .ok (.aload_n 0, 1) := by decide +kernel
theorem dd_Mo_faultOf_19 : decode cc_Mo_faultOf 19 = .ok (.getfield 33, 3) := by decide +kernel
theorem dd_Mo_faultOf_22 : decode cc_Mo_faultOf 22 = .ok (.iload_n 2, 1) := by decide +kernel
theorem dd_Mo_faultOf_23 : decode cc_Mo_faultOf 23 = .ok (.iconst 0, 1) := by decide +kernel
theorem dd_Mo_faultOf_24 : decode cc_Mo_faultOf 24 = .ok (.iastore, 1) := by decide +kernel
theorem dd_Mo_faultOf_25 : decode cc_Mo_faultOf 25 = .ok (.iinc 2 1, 3) := by decide +kernel
theorem dd_Mo_faultOf_28 : decode cc_Mo_faultOf 28 = .ok (.goto (-16), 3) := by decide +kernel
theorem dd_Mo_faultOf_31 : decode cc_Mo_faultOf 31 = .ok (.iconst 1, 1) := by decide +kernel
theorem dd_Mo_faultOf_32 : decode cc_Mo_faultOf 32 = .ok (.istore_n 2, 1) := by decide +kernel
theorem dd_Mo_faultOf_33 : decode cc_Mo_faultOf 33 = .ok (.iload_n 2, 1) := by decide +kernel
theorem dd_Mo_faultOf_34 : decode cc_Mo_faultOf 34 = .ok (.ifCond .eq 31, 3) := by decide +kernel
theorem dd_Mo_faultOf_37 : decode cc_Mo_faultOf 37 = .ok (.aload_n 0, 1) := by decide +kernel
theorem dd_Mo_faultOf_38 : decode cc_Mo_faultOf 38 = .ok (.invokevirtual 114, 3) := by decide +kernel
theorem dd_Mo_faultOf_41 : decode cc_Mo_faultOf 41 = .ok (.sipush (-1000), 3) := by decide +kernel
theorem dd_Mo_faultOf_44 : decode cc_Mo_faultOf 44 = .ok (.if_icmp .ne 13, 3) := by decide +kernel
theorem dd_Mo_faultOf_47 : decode cc_Mo_faultOf 47 = .ok (.aload_n 0, 1) := by decide +kernel
theorem dd_Mo_faultOf_48 : decode cc_Mo_faultOf 48 = .ok (.getfield 33, 3) := by decide +kernel
theorem dd_Mo_faultOf_51 : decode cc_Mo_faultOf 51 = .ok (.iconst 0, 1) := by decide +kernel
theorem dd_Mo_faultOf_52 : decode cc_Mo_faultOf 52 = .ok (.iaload, 1) := by decide +kernel
theorem dd_Mo_faultOf_53 : decode cc_Mo_faultOf 53 = .ok (.iconst 2, 1) := by decide +kernel
theorem dd_Mo_faultOf_54 : decode cc_Mo_faultOf 54 = .ok (.if_icmp .ge 11, 3) := by decide +kernel
theorem dd_Mo_faultOf_57 : decode cc_Mo_faultOf 57 = .ok (.aload_n 0, 1) := by decide +kernel
theorem dd_Mo_faultOf_58 : decode cc_Mo_faultOf 58 = .ok (.invokevirtual 123, 3) := by decide +kernel
theorem dd_Mo_faultOf_61 : decode cc_Mo_faultOf 61 = .ok (.istore_n 2, 1) := by decide +kernel
theorem dd_Mo_faultOf_62 : decode cc_Mo_faultOf 62 = .ok (.goto (-29), 3) := by decide +kernel
theorem dd_Mo_faultOf_65 : decode cc_Mo_faultOf 65 = .ok (.iload_n 2, 1) := by decide +kernel
theorem dd_Mo_faultOf_66 : decode cc_Mo_faultOf 66 = .ok (.ifCond .eq 8, 3) := by decide +kernel
theorem dd_Mo_faultOf_69 : decode cc_Mo_faultOf 69 = .ok (.bipush (-9), 2) := by decide +kernel
theorem dd_Mo_faultOf_71 : decode cc_Mo_faultOf 71 = .ok (.goto 7, 3) := by decide +kernel
theorem dd_Mo_faultOf_74 : decode cc_Mo_faultOf 74 = .ok (.aload_n 0, 1) := by decide +kernel
theorem dd_Mo_faultOf_75 : decode cc_Mo_faultOf 75 = .ok (.getfield 103, 3) := by decide +kernel
theorem dd_Mo_faultOf_78 : decode cc_Mo_faultOf 78 = .ok (.ireturn, 1) := by decide +kernel
set_option maxRecDepth 100000 in
set_option maxHeartbeats 4000000 in
theorem ct_Mo_faultOf (l : Launch) (E : gf_E) (t n : Int) (μ : gf_M) (ht4 : 0 ≤ t ∧ t < 4) (hn : μ 68 t = n) (hn60 : 0 ≤ n ∧ n ≤ 60) (htb : ∀ j : Int, -128 ≤ μ 69 j ∧ μ 69 j ≤ 127)  : gf_Mi l E yy_Mo_faultOf cc_Mo_faultOf 3 .int (gf_rm 3 68) 81 gf_ref μ [.ref (gf_ad E 65), .int (gf_i t)] (fun q μ' => (q = (pf_pr (fun j => μ 69 (60 * t + j)) n 61 0 []).1 ∧ (q = -9 ∨ (0 ≤ q ∧ q ≤ 60))) ∧ (q = -9 → gm_hold μ' 72 (pf_pr (fun j => μ 69 (60 * t + j)) n 61 0 []).2 ∧ μ' 72 0 = ((pf_pr (fun j => μ 69 (60 * t + j)) n 61 0 []).2.length : Int) ∧ μ' 72 1 = 0 ∧ μ' 72 2 = 0) ∧ ∀ a b : Int, ¬ (a = 65 ∧ (b = 10 ∨ b = 11 ∨ b = 12)) → a ≠ 72 → μ' a b = μ a b) := by
  refine gf_mi (by decide +kernel) (Nat.le_of_ble_eq_true rfl) (by decide) (fun X Q hlx C hQ => ?_)
  subst hlx
  replace C : gf_C X E cc_Mo_faultOf 3 "GuardFiguresModel" (gf_rm 3 68) := C
  show gf_G X E Q 3 gf_φ μ 0 [(0, .ref (gf_ad E 65)), (1, .int (gf_i t))] []
  obtain ⟨P, hPd⟩ : ∃ P, P = pf_pr (fun j => μ 69 (60 * t + j)) n 61 0 [] := ⟨_, rfl⟩
  have hPR := (pf_pr_R (f := (fun j => μ 69 (60 * t + j))) hn60.1 61 0 [] (by decide) (by decide)).1
  rw [← hPd] at hPR hQ
  refine gf_aload_n C dd_Mo_faultOf_0 0 rfl ?_
  refine gf_iload_n C dd_Mo_faultOf_1 1 rfl ?_
  refine gf_putI (z := 10) C gf_cl7 fl_Mo_96 dd_Mo_faultOf_2 rfl rfl rfl (by decide +kernel) (show gf_is 81 65 0 7 26 by decide) (by omega) ?_
  refine gf_nmM (fun m2 hm2 => ?_)
  refine gf_aload_n C dd_Mo_faultOf_5 0 rfl ?_
  refine gf_iconst C dd_Mo_faultOf_6 ?_
  refine gf_putI (z := 11) C gf_cl7 fl_Mo_93 dd_Mo_faultOf_7 rfl rfl rfl (by decide +kernel) (show gf_is 81 65 0 7 26 by decide) (by omega) ?_
  refine gf_nmM (fun m7 hm7 => ?_)
  refine gf_iconst C dd_Mo_faultOf_10 ?_
  refine gf_istore_n (lv' := [(2, .int (gf_i 0)), (0, .ref (gf_ad E 65)), (1, .int (gf_i t))]) C dd_Mo_faultOf_11 (by decide) rfl ?_
  have L12_1 : ∀ (N : Nat) (k : Int) (m : gf_M) , (0 ≤ k ∧ k ≤ 24 ∧ (∀ j : Int, 0 ≤ j → j < k → m 72 j = 0) ∧ ∀ a b : Int, a ≠ 72 → m a b = m7 a b) → (24 - k).toNat < N → gf_G X E Q 3 gf_φ m 12 [(2, .int (gf_i k)), (0, .ref (gf_ad E 65)), (1, .int (gf_i t))] [] := by
    intro N
    induction N with
    | zero => intro k m hinv hN; exact absurd hN (Nat.not_lt_zero _)
    | succ N ih12_1 =>
      intro k m hinv hN
      have hinv0 := hinv
      obtain ⟨hk0, hk1, hkz, hkf⟩ := hinv
      refine gf_iload_n C dd_Mo_faultOf_12 0 rfl ?_
      refine gf_bipush C dd_Mo_faultOf_13 (by decide +kernel) ?_
      refine gf_icmp_ge 31 C dd_Mo_faultOf_15 (by decide) (by omega) (by omega) (fun h15 => ?_) (fun h15 => ?_)
      · skip
        refine gf_iconst C dd_Mo_faultOf_31 ?_
        refine gf_istore_n (lv' := [(2, .int (gf_i 1)), (0, .ref (gf_ad E 65)), (1, .int (gf_i t))]) C dd_Mo_faultOf_32 (by decide) rfl ?_
        have L33_2 : ∀ (N : Nat) (g : Int) (m : gf_M) , ((g = 0 ∨ g = 1) ∧ m 65 10 = t ∧ (∀ a b : Int, ¬ (a = 65 ∧ (b = 10 ∨ b = 11 ∨ b = 12)) → a ≠ 72 → m a b = μ a b) ∧ (g = 0 → m 65 12 = P.1 ∧ P.1 ≠ -9) ∧ (g = 1 → gm_go (fun j => μ 69 (60 * t + j)) n P m)) → (g * (n + 2 - m 65 11)).toNat < N → gf_G X E Q 3 gf_φ m 33 [(2, .int (gf_i g)), (0, .ref (gf_ad E 65)), (1, .int (gf_i t))] [] := by
          intro N
          induction N with
          | zero => intro g m hinv hN; exact absurd hN (Nat.not_lt_zero _)
          | succ N ih33_2 =>
            intro g m hinv hN
            have hinv0 := hinv
            obtain ⟨hg01, mt, hfr, hg0, hgo⟩ := hinv
            refine gf_iload_n C dd_Mo_faultOf_33 0 rfl ?_
            refine gf_if_eq 65 C dd_Mo_faultOf_34 (by decide) (by omega) (fun h34 => ?_) (fun h34 => ?_)
            · skip
              refine gf_iload_n C dd_Mo_faultOf_65 0 rfl ?_
              refine gf_if_eq 74 C dd_Mo_faultOf_66 (by decide) (by omega) (fun h66 => ?_) (fun h66 => ?_)
              · skip
                refine gf_aload_n C dd_Mo_faultOf_74 1 rfl ?_
                refine gf_getI (z := 12) C gf_cl7 fl_Mo_103 dd_Mo_faultOf_75 rfl rfl (show gf_is 81 65 0 7 26 by decide) (fun hv75 => ?_)
                refine gf_iret C hQ dd_Mo_faultOf_78 (by first | omega | (have := (hg0 h34).1; omega)) ?_
                first
                | (exfalso; omega)
                | (have h0 := hg0 h34
                   exact ⟨⟨h0.1, by omega⟩, fun h => absurd h (by omega), hfr⟩)
                | (have hnp : ¬ p < n := fun h => by
                     have : r38 = μ 69 (60 * t + p) := hp4.trans (if_pos h)
                     have := htb (60 * t + p)
                     omega
                   have hPe : P = (-9, a) := by rw [← hP2, pf_pr_s hn60.2 (by omega), if_pos (by omega), if_neg (by omega)]
                   refine ⟨⟨(congrArg Prod.fst hPe).symm, by omega⟩, fun _ => ?_, fun a b h1 h2 => by rw [o38 a b (gm_n3b h1)]; exact hfr a b h1 h2⟩
                   rw [hPe]
                   exact ⟨hh38, k38, by rw [o38 72 1 (by decide)]; exact h1, by rw [o38 72 2 (by decide)]; exact h2⟩)
              · skip
                refine gf_bipush C dd_Mo_faultOf_69 (by decide +kernel) ?_
                refine gf_goto 78 C dd_Mo_faultOf_71 (by decide) ?_
                refine gf_iret C hQ dd_Mo_faultOf_78 (by first | omega | (have := (hg0 h34).1; omega)) ?_
                first
                | (exfalso; omega)
                | (have h0 := hg0 h34
                   exact ⟨⟨h0.1, by omega⟩, fun h => absurd h (by omega), hfr⟩)
                | (have hnp : ¬ p < n := fun h => by
                     have : r38 = μ 69 (60 * t + p) := hp4.trans (if_pos h)
                     have := htb (60 * t + p)
                     omega
                   have hPe : P = (-9, a) := by rw [← hP2, pf_pr_s hn60.2 (by omega), if_pos (by omega), if_neg (by omega)]
                   refine ⟨⟨(congrArg Prod.fst hPe).symm, by omega⟩, fun _ => ?_, fun a b h1 h2 => by rw [o38 a b (gm_n3b h1)]; exact hfr a b h1 h2⟩
                   rw [hPe]
                   exact ⟨hh38, k38, by rw [o38 72 1 (by decide)]; exact h1, by rw [o38 72 2 (by decide)]; exact h2⟩)
            · skip
              have hg1 : g = 1 := by omega
              obtain ⟨a, hP, hpp, ha0, ha7, hh, h1, h2⟩ := hgo hg1
              clear hgo hg0
              refine gf_aload_n C dd_Mo_faultOf_37 1 rfl ?_
              refine gf_callVi (st := []) (As := []) C wk_Mo_114 gf_cl7 (show gf_is 81 65 0 7 26 by decide) (ct_Mo_nextLetter (gf_xl X) E t n (m 65 11) m mt ht4 (by rw [hfr 68 t (by omega) (by omega)]; exact hn) hn60 rfl hpp (fun j => by rw [hfr 69 j (by omega) (by omega)]; exact htb j)) rfl ⟨rfl, rfl, rfl, rfl⟩ (Nat.le_of_ble_eq_true rfl) rfl dd_Mo_faultOf_38 (fun r38 m38 hR38 hp38 => ?_)
              have q69 : ∀ j : Int, m 69 j = μ 69 j := fun j => hfr 69 j (by omega) (by omega)
              obtain ⟨p, hp1, hp2, hp3, ⟨hp4, hp5⟩, hp6⟩ := hp38
              rw [show (fun j => m 69 (60 * t + j)) = (fun j => μ 69 (60 * t + j)) from funext fun j => q69 _] at hp4
              rw [q69] at hp3
              have hP2 : pf_pr (fun j => μ 69 (60 * t + j)) n 61 p a = P := by
                rw [← hP]
                have := pf_pr_skip (f := (fun j => μ 69 (60 * t + j))) (a := a) hn60.2 hpp.1 (p - m 65 11).toNat (fun j h0 h1 => by
                  have := hp2 j h0 (by omega)
                  rw [q69] at this
                  exact this)
                rw [show m 65 11 + (((p - m 65 11).toNat : Nat) : Int) = p by omega] at this
                exact this.symm
              clear hp2
              have g38 : m38 65 11 = p := by rw [hp6]; exact gf_up_s
              have o38 : ∀ a b : Int, ¬ (a = 65 ∧ b = 11) → m38 a b = m a b := fun a b h => by rw [hp6]; exact gf_up_o h
              have k38 : m38 72 0 = (a.length : Int) := by rw [o38 72 0 (by decide)]; exact ha0
              have q38 : ∀ j : Int, m38 69 j = μ 69 j := fun j => by rw [o38 69 j (by omega)]; exact q69 j
              have e38 : (fun j => m38 69 (60 * t + j)) = (fun j => μ 69 (60 * t + j)) := funext fun j => q38 _
              have hh38 : gm_hold m38 72 a := fun i q hq => by
                rw [o38 72 _ (by omega), o38 72 _ (by omega), o38 72 _ (by omega)]
                exact hh i q hq
              clear hp6
              refine gf_sipush C dd_Mo_faultOf_41 (by decide +kernel) ?_
              refine gf_icmp_ne 57 C dd_Mo_faultOf_44 (by decide) (by omega) (by omega) (fun h44 => ?_) (fun h44 => ?_)
              · skip
                refine gf_aload_n C dd_Mo_faultOf_57 1 rfl ?_
                refine gf_callVi (st := []) (As := []) C wk_Mo_123 gf_cl7 (show gf_is 81 65 0 7 26 by decide) (ct_Mo_readGuard (gf_xl X) E (m38 72 0) t n p m38 (by rw [o38 65 10 (by omega)]; exact mt) ht4 (by rw [o38 68 t (by omega), hfr 68 t (by omega) (by omega)]; exact hn) hn60 g38 (by omega) (fun j => by rw [q38]; exact htb j) rfl (by omega) (by rw [q38]; exact hp3)) rfl ⟨rfl, rfl, rfl, rfl⟩ (Nat.le_of_ble_eq_true rfl) rfl dd_Mo_faultOf_58 (fun r58 m58 hR58 hp58 => ?_)
                refine gf_istore_n (lv' := [(2, .int (gf_i r58)), (0, .ref (gf_ad E 65)), (1, .int (gf_i t))]) C dd_Mo_faultOf_61 (by decide) rfl ?_
                refine gf_goto 33 C dd_Mo_faultOf_62 (by decide) ?_
                refine gf_lsub [0, 1, 2] rfl ?_
                exact ih33_2 r58 m58 (by
                        obtain ⟨hr01, hr0, hr1, hrf⟩ := hp58
                        rw [e38, k38] at hr0 hr1
                        refine ⟨hr01, ?_, ?_, fun h => ?_, fun h => ?_⟩
                        · rw [hrf 65 10 (by decide) (by decide), o38 65 10 (by decide)]; exact mt
                        · exact fun a b h1 h2 => by rw [hrf a b (gm_n3 h1) h2, o38 a b (gm_n3b h1)]; exact hfr a b h1 h2
                        · clear hr1 hrf hPR
                          obtain ⟨ha, hb⟩ := hr0 h
                          clear hr0 hr01
                          rw [← hP2, pf_pr_s hn60.2 (by omega)]
                          by_cases e : n ≤ p
                          · replace ha := ha e
                            clear hb
                            have hl2 : (a.length : Int) < 2 := by
                              have : r38 = -1000 := hp4.trans (if_neg (by omega))
                              omega
                            rw [if_pos e]
                            show _ = (if (a.length : Int) < 2 then n else -9) ∧ (if (a.length : Int) < 2 then n else -9) ≠ -9
                            rw [if_pos hl2, ha]
                            omega
                          · clear ha
                            obtain ⟨hc, hd⟩ := hb (by omega)
                            clear hb
                            rw [if_neg e, if_neg (fun h32 => hp3 ⟨by omega, h32⟩), if_neg hd]
                            exact ⟨hc, hd⟩
                        · clear hr0 hrf hPR
                          obtain ⟨ha, hb, hc, hc2, hk7, hd, h3, h10, h17, hre⟩ := hr1 h
                          clear hr1 hr01
                          refine ⟨a ++ [(pf_pk (μ 69 (60 * t + p)), μ 69 (60 * t + (p + 1)) - 48, μ 69 (60 * t + (p + 2)) - 48)], ?_, by omega, ?_, ?_, ?_, ?_, ?_⟩
                          · rw [hc, ← hP2]
                            conv => rhs; rw [pf_pr_s hn60.2 (show 0 ≤ p by omega), if_neg (by omega), if_neg (fun h32 => hp3 ⟨by omega, h32⟩), if_pos hb]
                          · rw [hd, List.length_append]; show _ = ((a.length + 1 : Nat) : Int); omega
                          · rw [List.length_append]; show a.length + 1 ≤ 7; omega
                          · refine gm_hold_app hh38 (fun i hi => ⟨hre _ (by omega) (by omega) (by omega) (by omega), hre _ (by omega) (by omega) (by omega) (by omega), hre _ (by omega) (by omega) (by omega) (by omega)⟩) ⟨?_, ?_, ?_⟩
                            · rw [h3, q38]
                            · rw [h10, q38]
                            · rw [h17, q38]
                          · rw [hre 1 (by omega) (by omega) (by omega) (by omega), o38 72 1 (by decide)]; exact h1
                          · rw [hre 2 (by omega) (by omega) (by omega) (by omega), o38 72 2 (by decide)]; exact h2) (by
                        obtain ⟨hr01, hr0, hr1, hrf⟩ := hp58
                        clear hr0 hrf hPR
                        rw [hg1, Int.one_mul] at hN
                        rcases hr01 with h | h
                        · clear hr1
                          rw [h, Int.zero_mul]; omega
                        · obtain ⟨_, _, hc, _⟩ := hr1 h
                          clear hr1
                          rw [h, Int.one_mul, hc]
                          omega)
              · skip
                refine gf_aload_n C dd_Mo_faultOf_47 1 rfl ?_
                refine gf_getA (r := 72) C gf_cl7 fl_Mo_33 dd_Mo_faultOf_48 rfl (show gf_is 81 65 0 7 26 by decide) (by decide) (by decide) ?_
                refine gf_iconst C dd_Mo_faultOf_51 ?_
                refine gf_iald C dd_Mo_faultOf_52 (show gf_is 81 72 1 0 24 by decide) (by omega) (fun hv52 => ?_)
                refine gf_iconst C dd_Mo_faultOf_53 ?_
                refine gf_icmp_ge 65 C dd_Mo_faultOf_54 (by decide) (by omega) (by omega) (fun h54 => ?_) (fun h54 => ?_)
                · skip
                  refine gf_iload_n C dd_Mo_faultOf_65 0 rfl ?_
                  refine gf_if_eq 74 C dd_Mo_faultOf_66 (by decide) (by omega) (fun h66 => ?_) (fun h66 => ?_)
                  · skip
                    refine gf_aload_n C dd_Mo_faultOf_74 1 rfl ?_
                    refine gf_getI (z := 12) C gf_cl7 fl_Mo_103 dd_Mo_faultOf_75 rfl rfl (show gf_is 81 65 0 7 26 by decide) (fun hv75 => ?_)
                    refine gf_iret C hQ dd_Mo_faultOf_78 (by first | omega | (have := (hg0 h34).1; omega)) ?_
                    first
                    | (exfalso; omega)
                    | (have h0 := hg0 h34
                       exact ⟨⟨h0.1, by omega⟩, fun h => absurd h (by omega), hfr⟩)
                    | (have hnp : ¬ p < n := fun h => by
                         have : r38 = μ 69 (60 * t + p) := hp4.trans (if_pos h)
                         have := htb (60 * t + p)
                         omega
                       have hPe : P = (-9, a) := by rw [← hP2, pf_pr_s hn60.2 (by omega), if_pos (by omega), if_neg (by omega)]
                       refine ⟨⟨(congrArg Prod.fst hPe).symm, by omega⟩, fun _ => ?_, fun a b h1 h2 => by rw [o38 a b (gm_n3b h1)]; exact hfr a b h1 h2⟩
                       rw [hPe]
                       exact ⟨hh38, k38, by rw [o38 72 1 (by decide)]; exact h1, by rw [o38 72 2 (by decide)]; exact h2⟩)
                  · skip
                    refine gf_bipush C dd_Mo_faultOf_69 (by decide +kernel) ?_
                    refine gf_goto 78 C dd_Mo_faultOf_71 (by decide) ?_
                    refine gf_iret C hQ dd_Mo_faultOf_78 (by first | omega | (have := (hg0 h34).1; omega)) ?_
                    first
                    | (exfalso; omega)
                    | (have h0 := hg0 h34
                       exact ⟨⟨h0.1, by omega⟩, fun h => absurd h (by omega), hfr⟩)
                    | (have hnp : ¬ p < n := fun h => by
                         have : r38 = μ 69 (60 * t + p) := hp4.trans (if_pos h)
                         have := htb (60 * t + p)
                         omega
                       have hPe : P = (-9, a) := by rw [← hP2, pf_pr_s hn60.2 (by omega), if_pos (by omega), if_neg (by omega)]
                       refine ⟨⟨(congrArg Prod.fst hPe).symm, by omega⟩, fun _ => ?_, fun a b h1 h2 => by rw [o38 a b (gm_n3b h1)]; exact hfr a b h1 h2⟩
                       rw [hPe]
                       exact ⟨hh38, k38, by rw [o38 72 1 (by decide)]; exact h1, by rw [o38 72 2 (by decide)]; exact h2⟩)
                · skip
                  refine gf_aload_n C dd_Mo_faultOf_57 1 rfl ?_
                  refine gf_callVi (st := []) (As := []) C wk_Mo_123 gf_cl7 (show gf_is 81 65 0 7 26 by decide) (ct_Mo_readGuard (gf_xl X) E (m38 72 0) t n p m38 (by rw [o38 65 10 (by omega)]; exact mt) ht4 (by rw [o38 68 t (by omega), hfr 68 t (by omega) (by omega)]; exact hn) hn60 g38 (by omega) (fun j => by rw [q38]; exact htb j) rfl (by omega) (by rw [q38]; exact hp3)) rfl ⟨rfl, rfl, rfl, rfl⟩ (Nat.le_of_ble_eq_true rfl) rfl dd_Mo_faultOf_58 (fun r58 m58 hR58 hp58 => ?_)
                  refine gf_istore_n (lv' := [(2, .int (gf_i r58)), (0, .ref (gf_ad E 65)), (1, .int (gf_i t))]) C dd_Mo_faultOf_61 (by decide) rfl ?_
                  refine gf_goto 33 C dd_Mo_faultOf_62 (by decide) ?_
                  refine gf_lsub [0, 1, 2] rfl ?_
                  exact ih33_2 r58 m58 (by
                          obtain ⟨hr01, hr0, hr1, hrf⟩ := hp58
                          rw [e38, k38] at hr0 hr1
                          refine ⟨hr01, ?_, ?_, fun h => ?_, fun h => ?_⟩
                          · rw [hrf 65 10 (by decide) (by decide), o38 65 10 (by decide)]; exact mt
                          · exact fun a b h1 h2 => by rw [hrf a b (gm_n3 h1) h2, o38 a b (gm_n3b h1)]; exact hfr a b h1 h2
                          · clear hr1 hrf hPR
                            obtain ⟨ha, hb⟩ := hr0 h
                            clear hr0 hr01
                            rw [← hP2, pf_pr_s hn60.2 (by omega)]
                            by_cases e : n ≤ p
                            · replace ha := ha e
                              clear hb
                              have hl2 : (a.length : Int) < 2 := by
                                have : r38 = -1000 := hp4.trans (if_neg (by omega))
                                omega
                              rw [if_pos e]
                              show _ = (if (a.length : Int) < 2 then n else -9) ∧ (if (a.length : Int) < 2 then n else -9) ≠ -9
                              rw [if_pos hl2, ha]
                              omega
                            · clear ha
                              obtain ⟨hc, hd⟩ := hb (by omega)
                              clear hb
                              rw [if_neg e, if_neg (fun h32 => hp3 ⟨by omega, h32⟩), if_neg hd]
                              exact ⟨hc, hd⟩
                          · clear hr0 hrf hPR
                            obtain ⟨ha, hb, hc, hc2, hk7, hd, h3, h10, h17, hre⟩ := hr1 h
                            clear hr1 hr01
                            refine ⟨a ++ [(pf_pk (μ 69 (60 * t + p)), μ 69 (60 * t + (p + 1)) - 48, μ 69 (60 * t + (p + 2)) - 48)], ?_, by omega, ?_, ?_, ?_, ?_, ?_⟩
                            · rw [hc, ← hP2]
                              conv => rhs; rw [pf_pr_s hn60.2 (show 0 ≤ p by omega), if_neg (by omega), if_neg (fun h32 => hp3 ⟨by omega, h32⟩), if_pos hb]
                            · rw [hd, List.length_append]; show _ = ((a.length + 1 : Nat) : Int); omega
                            · rw [List.length_append]; show a.length + 1 ≤ 7; omega
                            · refine gm_hold_app hh38 (fun i hi => ⟨hre _ (by omega) (by omega) (by omega) (by omega), hre _ (by omega) (by omega) (by omega) (by omega), hre _ (by omega) (by omega) (by omega) (by omega)⟩) ⟨?_, ?_, ?_⟩
                              · rw [h3, q38]
                              · rw [h10, q38]
                              · rw [h17, q38]
                            · rw [hre 1 (by omega) (by omega) (by omega) (by omega), o38 72 1 (by decide)]; exact h1
                            · rw [hre 2 (by omega) (by omega) (by omega) (by omega), o38 72 2 (by decide)]; exact h2) (by
                          obtain ⟨hr01, hr0, hr1, hrf⟩ := hp58
                          clear hr0 hrf hPR
                          rw [hg1, Int.one_mul] at hN
                          rcases hr01 with h | h
                          · clear hr1
                            rw [h, Int.zero_mul]; omega
                          · obtain ⟨_, _, hc, _⟩ := hr1 h
                            clear hr1
                            rw [h, Int.one_mul, hc]
                            omega)
        refine gf_lsub [0, 1, 2] rfl ?_
        exact L33_2 _ 1 m (by
              have h7 : ∀ a b : Int, ¬ (a = 65 ∧ (b = 10 ∨ b = 11 ∨ b = 12)) → m7 a b = μ a b := fun a b h => by rw [hm7, gf_up_o (gm_n3b h), hm2, gf_up_o (gm_n3c h)]
              have h711 : m7 65 11 = 0 := by rw [hm7]; exact gf_up_s
              have h710 : m7 65 10 = t := by rw [hm7, gf_up_j (by decide), hm2]; exact gf_up_s
              refine ⟨Or.inr rfl, by rw [hkf 65 10 (by decide)]; exact h710, fun a b h1 h2 => by rw [hkf a b h2]; exact h7 a b h1, fun h => by omega, fun _ => ⟨[], ?_, ?_, ?_, by decide, fun i q hq => by simp at hq, hkz 1 (by omega) (by omega), hkz 2 (by omega) (by omega)⟩⟩
              · rw [hkf 65 11 (by decide), h711]; exact hPd.symm
              · rw [hkf 65 11 (by decide), h711]; omega
              · exact hkz 0 (by omega) (by omega)) (Nat.lt_succ_self _)
      · skip
        refine gf_aload_n C dd_Mo_faultOf_18 1 rfl ?_
        refine gf_getA (r := 72) C gf_cl7 fl_Mo_33 dd_Mo_faultOf_19 rfl (show gf_is 81 65 0 7 26 by decide) (by decide) (by decide) ?_
        refine gf_iload_n C dd_Mo_faultOf_22 0 rfl ?_
        refine gf_iconst C dd_Mo_faultOf_23 ?_
        refine gf_iast C dd_Mo_faultOf_24 (show gf_is 81 72 1 0 24 by decide) (by omega) (by omega) ?_
        refine gf_nmM (fun m24 hm24 => ?_)
        obtain ⟨x25, hx25⟩ : ∃ y : Int, y = k + 1 := ⟨_, rfl⟩
        refine gf_iinc (q := 0) (v := x25) (lv' := [(2, .int (gf_i x25)), (0, .ref (gf_ad E 65)), (1, .int (gf_i t))]) C dd_Mo_faultOf_25 rfl hx25 (by decide) rfl ?_
        refine gf_goto 12 C dd_Mo_faultOf_28 (by decide) ?_
        refine gf_lsub [0, 1, 2] rfl ?_
        exact ih12_1 x25 m24 (by
                refine ⟨by omega, by omega, fun j h0 h1 => ?_, fun a b h => by rw [hm24, gf_up_k h]; exact hkf a b h⟩
                rw [hm24]
                by_cases e : j = k
                · rw [e]; exact gf_up_s
                · rw [gf_up_j e]; exact hkz j h0 (by omega)) (by omega)
  refine gf_lsub [0, 1, 2] rfl ?_
  exact L12_1 _ 0 m7 (⟨by omega, by omega, fun j h0 h1 => by omega, fun a b _ => rfl⟩) (Nat.lt_succ_self _)
