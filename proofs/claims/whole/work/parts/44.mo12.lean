/-- whether some notice all, for the reference -/
def gm_cvd (μ : gf_M) (s : Int) : Prop := ∀ q ∈ pf_T (gm_x μ) (μ 71 1), gf_and (gm_mk μ q.2) s ≠ 0
theorem gm_sc_sa {μ m : gf_M} (h : gm_sa μ m) : gm_sc m μ := fun a b hab => by
  unfold gm_scr at hab
  exact h.2.2 a b (by omega) (by omega) (by omega) (by omega)
theorem dd_Mo_cover_0 : decode cc_Mo_cover 0 = .ok (.aload_n 0, 1) := by decide +kernel
theorem dd_Mo_cover_1 : decode cc_Mo_cover 1 = .ok (.getfield 30, 3) := by decide +kernel
theorem dd_Mo_cover_4 : decode cc_Mo_cover 4 = .ok (.iconst 0, 1) := by decide +kernel
theorem dd_Mo_cover_5 : decode cc_Mo_cover 5 = .ok (.iaload, 1) := by decide +kernel
theorem dd_Mo_cover_6 : decode cc_Mo_cover 6 = .ok (.ifCond .ne 6, 3) := by decide +kernel
theorem dd_Mo_cover_9 : decode cc_Mo_cover 9 = .ok (.bipush (-4), 2) := by decide +kernel
theorem dd_Mo_cover_11 : decode cc_Mo_cover 11 = .ok (.ireturn, 1) := by decide +kernel
theorem dd_Mo_cover_12 : decode cc_Mo_cover 12 = .ok (.aload_n 0, 1) := by decide +kernel
theorem dd_Mo_cover_13 : decode cc_Mo_cover 13 = .ok (.invokevirtual 221, 3) := by decide +kernel
theorem dd_Mo_cover_16 : decode cc_Mo_cover 16 = .ok (.bipush (-9), 2) := by decide +kernel
theorem dd_Mo_cover_18 : decode cc_Mo_cover 18 = .ok (.istore_n 1, 1) := by decide +kernel
theorem dd_Mo_cover_19 : decode cc_Mo_cover 19 = .ok (.iconst 0, 1) := by decide +kernel
theorem dd_Mo_cover_20 : decode cc_Mo_cover 20 = .ok (.istore_n 2, 1) := by decide +kernel
theorem dd_Mo_cover_21 : decode cc_Mo_cover 21 = .ok (.iload_n 2, 1) := by decide +kernel
theorem dd_Mo_cover_22 : decode cc_Mo_cover 22 = .ok (.iconst 1, 1) := by decide +kernel
theorem dd_Mo_cover_23 : decode cc_Mo_cover 23 = .ok (.aload_n 0, 1) := by decide +kernel
theorem dd_Mo_cover_24 : decode cc_Mo_cover 24 = .ok (.getfield 30, 3) := by decide +kernel
theorem dd_Mo_cover_27 : decode cc_Mo_cover 27 = .ok (.iconst 0, 1) := by decide +kernel
theorem dd_Mo_cover_28 : decode cc_Mo_cover 28 = .ok (.iaload, 1) := by decide +kernel
theorem dd_Mo_cover_29 : decode cc_Mo_cover 29 = .ok (.ishl, 1) := by decide +kernel
theorem dd_Mo_cover_30 : decode cc_Mo_cover 30 = .ok (.if_icmp .ge 34, 3) := by decide +kernel
theorem dd_Mo_cover_33 : decode cc_Mo_cover 33 = .ok (.iload_n 1, 1) := by decide +kernel
theorem dd_Mo_cover_34 : decode cc_Mo_cover 34 = .ok (.ifCond .lt 14, 3) := by decide +kernel
theorem dd_Mo_cover_37 : decode cc_Mo_cover 37 = .ok (.iload_n 2, 1) := by decide +kernel
theorem dd_Mo_cover_38 : decode cc_Mo_cover 38 = .ok (.invokestatic 224, 3) := by decide +kernel
theorem dd_Mo_cover_41 : decode cc_Mo_cover 41 = .ok (.iload_n 1, 1) := by decide +kernel
theorem dd_Mo_cover_42 : decode cc_Mo_cover 42 = .ok (.invokestatic 224, 3) := by decide +kernel
theorem dd_Mo_cover_45 : decode cc_Mo_cover 45 = .ok (.if_icmp .ge 13, 3) := by decide +kernel
theorem dd_Mo_cover_48 : decode cc_Mo_cover 48 = .ok (.aload_n 0, 1) := by decide +kernel
theorem dd_Mo_cover_49 : decode cc_Mo_cover 49 = .ok (.iload_n 2, 1) := by decide +kernel
theorem dd_Mo_cover_50 : decode cc_Mo_cover 50 = .ok (.invokevirtual 227, 3) := by decide +kernel
theorem dd_Mo_cover_53 : decode cc_Mo_cover 53 = .ok (.ifCond .eq 5, 3) := by decide +kernel
theorem dd_Mo_cover_56 : decode cc_Mo_cover 56 = .ok (.iload_n 2, 1) := by decide +kernel
theorem dd_Mo_cover_57 : decode cc_Mo_cover 57 = .ok (.istore_n 1, 1) := by decide +kernel
theorem dd_Mo_cover_58 : decode cc_Mo_cover 58 = .ok (.iinc 2 1, 3) := by decide +kernel
theorem dd_Mo_cover_61 : decode cc_Mo_cover 61 = .ok (.goto (-40), 3) := by decide +kernel
theorem dd_Mo_cover_64 : decode cc_Mo_cover 64 = .ok (.aload_n 0, 1) := by decide +kernel
theorem dd_Mo_cover_65 : decode cc_Mo_cover 65 = .ok (.iload_n 1, 1) := by decide +kernel
theorem dd_Mo_cover_66 : decode cc_Mo_cover 66 = .ok (.ifCond .ge 10, 3) := by decide +kernel
theorem dd_Mo_cover_69 : decode cc_Mo_cover 69 = .ok (.aload_n 0, 1) := by decide +kernel
theorem dd_Mo_cover_70 : decode cc_Mo_cover 70 = .ok (.getfield 64, 3) := by decide +kernel
theorem dd_Mo_cover_73 : decode cc_Mo_cover 73 = .ok (.goto 7, 3) := by decide +kernel
theorem dd_Mo_cover_76 : decode cc_Mo_cover 76 = .ok (.aload_n 0, 1) := by decide +kernel
theorem dd_Mo_cover_77 : decode cc_Mo_cover 77 = .ok (.getfield 215, 3) := by decide +kernel
theorem dd_Mo_cover_80 : decode cc_Mo_cover 80 = .ok (.putfield 64, 3) := by decide +kernel
theorem dd_Mo_cover_83 : decode cc_Mo_cover 83 = .ok (.iload_n 1, 1) := by decide +kernel
theorem dd_Mo_cover_84 : decode cc_Mo_cover 84 = .ok (.ireturn, 1) := by decide +kernel
set_option maxRecDepth 100000 in
set_option maxHeartbeats 4000000 in
theorem ct_Mo_cover (l : Launch) (E : gf_E) (μ : gf_M) (hok : gm_ok μ)  : gf_Mi l E yy_Mo_cover cc_Mo_cover 3 .int (gf_rm 6 145) 81 gf_ref μ [.ref (gf_ad E 65)] (fun q μ' => (μ 71 0 = 0 → q = -4 ∧ μ' = μ) ∧ (μ 71 0 ≠ 0 → q = pf_cov (gm_cvd μ) (gf_shl 1 (μ 71 0)).toNat ∧ (q = -9 → gm_sc μ' μ) ∧ (q ≠ -9 → gm_sc μ' (gm_tl μ ((pf_T (gm_x μ) (μ 71 1)).length : Int))))) := by
  refine gf_mi (by decide +kernel) (Nat.le_of_ble_eq_true rfl) (by decide) (fun X Q hlx C hQ => ?_)
  subst hlx
  replace C : gf_C X E cc_Mo_cover 3 "GuardFiguresModel" (gf_rm 6 145) := C
  show gf_G X E Q 3 gf_φ μ 0 [(0, .ref (gf_ad E 65))] []
  obtain ⟨hc, hgs, hn, hx, hd⟩ := id hok
  have h88 := pf_T_88 (f := gm_x μ) hn hx
  have hsh := gf_shl1_7 hc
  refine gf_aload_n C dd_Mo_cover_0 0 rfl ?_
  refine gf_getA (r := 71) C gf_cl7 fl_Mo_30 dd_Mo_cover_1 rfl (show gf_is 81 65 0 7 26 by decide) (by decide) (by decide) ?_
  refine gf_iconst C dd_Mo_cover_4 ?_
  refine gf_iald C dd_Mo_cover_5 (show gf_is 81 71 1 0 392 by decide) (by omega) (fun hv5 => ?_)
  refine gf_if_ne 12 C dd_Mo_cover_6 (by decide) (by omega) (fun h6 => ?_) (fun h6 => ?_)
  · skip
    refine gf_aload_n C dd_Mo_cover_12 0 rfl ?_
    refine gf_callVv (st := []) (As := []) C wk_Mo_221 gf_cl7 (show gf_is 81 65 0 7 26 by decide) (ct_Mo_seeAll (gf_xl X) E μ (hok)) rfl ⟨rfl, rfl, rfl, rfl⟩ (Nat.le_of_ble_eq_true rfl) rfl dd_Mo_cover_13 (fun m13 hp13 => ?_)
    obtain ⟨hsn, hsa⟩ := hp13
    have q71 := gm_sa_71 hsa
    have e03 := q71 0
    have e21 : m13 65 21 = ((pf_T (gm_x μ) (μ 71 1)).length : Int) := by rw [hsn.1, List.length_map]
    have hmk : ∀ (t : Nat) (q : Int × (Int → Int)), (pf_T (gm_x μ) (μ 71 1))[t]? = some q → m13 76 t = gm_mk μ q.2 := fun t q h => hsn.2 t _ (by rw [List.getElem?_map, h]; rfl)
    have hex : ∀ t : Int, 0 ≤ t → t < m13 65 21 → ∃ q, (pf_T (gm_x μ) (μ 71 1))[t.toNat]? = some q ∧ m13 76 t = gm_mk μ q.2 := fun t h0 h1 => by
      have hl : t.toNat < (pf_T (gm_x μ) (μ 71 1)).length := by omega
      refine ⟨_, List.getElem?_eq_getElem hl, ?_⟩
      have := hmk t.toNat _ (List.getElem?_eq_getElem hl)
      rw [show ((t.toNat : Nat) : Int) = t by omega] at this
      exact this
    have hcv : ∀ s : Int, (∀ t : Int, 0 ≤ t → t < m13 65 21 → gf_and (m13 76 t) s ≠ 0) ↔ gm_cvd μ s := by
      intro s
      constructor
      · intro h q hq
        obtain ⟨t, ht, he⟩ := List.mem_iff_getElem.mp hq
        rw [← hmk t q (List.getElem?_eq_some_iff.mpr ⟨ht, he⟩)]
        exact h t (by omega) (by omega)
      · intro h t h0 h1
        obtain ⟨q, hq, he⟩ := hex t h0 h1
        rw [he]
        exact h q (List.mem_of_getElem? hq)
    refine gf_bipush C dd_Mo_cover_16 (by decide +kernel) ?_
    refine gf_istore_n (lv' := [(1, .int (gf_i (-9))), (0, .ref (gf_ad E 65))]) C dd_Mo_cover_18 (by decide) rfl ?_
    refine gf_iconst C dd_Mo_cover_19 ?_
    refine gf_istore_n (lv' := [(2, .int (gf_i 0)), (1, .int (gf_i (-9))), (0, .ref (gf_ad E 65))]) C dd_Mo_cover_20 (by decide) rfl ?_
    have L21_1 : ∀ (N : Nat) (f s : Int) , (0 ≤ s ∧ s ≤ gf_shl 1 (μ 71 0) ∧ f = pf_cov (gm_cvd μ) s.toNat) → (128 - s).toNat < N → gf_G X E Q 3 gf_φ m13 21 [(1, .int (gf_i f)), (2, .int (gf_i s)), (0, .ref (gf_ad E 65))] [] := by
      intro N
      induction N with
      | zero => intro f s hinv hN; exact absurd hN (Nat.not_lt_zero _)
      | succ N ih21_1 =>
        intro f s hinv hN
        have hinv0 := hinv
        obtain ⟨hs0, hs1, hf⟩ := hinv
        have hfR := pf_cov_R (gm_cvd μ) s.toNat
        rw [← hf] at hfR
        have esh : gf_shl 1 (m13 71 0) = gf_shl 1 (μ 71 0) := by rw [e03]
        refine gf_iload_n C dd_Mo_cover_21 1 rfl ?_
        refine gf_iconst C dd_Mo_cover_22 ?_
        refine gf_aload_n C dd_Mo_cover_23 2 rfl ?_
        refine gf_getA (r := 71) C gf_cl7 fl_Mo_30 dd_Mo_cover_24 rfl (show gf_is 81 65 0 7 26 by decide) (by decide) (by decide) ?_
        refine gf_iconst C dd_Mo_cover_27 ?_
        refine gf_iald C dd_Mo_cover_28 (show gf_is 81 71 1 0 392 by decide) (by omega) (fun hv28 => ?_)
        refine gf_ishl C dd_Mo_cover_29 (by omega) ?_
        refine gf_icmp_ge 64 C dd_Mo_cover_30 (by decide) (by omega) (by omega) (fun h30 => ?_) (fun h30 => ?_)
        · skip
          refine gf_aload_n C dd_Mo_cover_64 2 rfl ?_
          refine gf_iload_n C dd_Mo_cover_65 0 rfl ?_
          refine gf_if_ge 76 C dd_Mo_cover_66 (by decide) (by omega) (fun h66 => ?_) (fun h66 => ?_)
          · skip
            refine gf_aload_n C dd_Mo_cover_76 2 rfl ?_
            refine gf_getI (z := 21) C gf_cl7 fl_Mo_215 dd_Mo_cover_77 rfl rfl (show gf_is 81 65 0 7 26 by decide) (fun hv77 => ?_)
            refine gf_putI (z := 4) C gf_cl7 fl_Mo_64 dd_Mo_cover_80 rfl rfl rfl (by decide +kernel) (show gf_is 81 65 0 7 26 by decide) (by omega) ?_
            refine gf_nmM (fun m80 hm80 => ?_)
            refine gf_iload_n C dd_Mo_cover_83 0 rfl ?_
            refine gf_iret C hQ dd_Mo_cover_84 (by omega) ?_
            have es : s.toNat = (gf_shl 1 (μ 71 0)).toNat := by omega
            rw [es] at hf
            refine ⟨fun h => absurd h (by omega), fun _ => ⟨hf, fun h => ?_, fun h => ?_⟩⟩
            · first | (exfalso; omega) | (rw [hm80, gf_up_id]; exact gm_sc_sa hsa)
            · first | (exfalso; omega) | (rw [← e21]; exact gm_sc_tl (gm_sc_sa hsa) hm80)
          · skip
            refine gf_aload_n C dd_Mo_cover_69 2 rfl ?_
            refine gf_getI (z := 4) C gf_cl7 fl_Mo_64 dd_Mo_cover_70 rfl rfl (show gf_is 81 65 0 7 26 by decide) (fun hv70 => ?_)
            refine gf_goto 80 C dd_Mo_cover_73 (by decide) ?_
            refine gf_putI (z := 4) C gf_cl7 fl_Mo_64 dd_Mo_cover_80 rfl rfl rfl (by decide +kernel) (show gf_is 81 65 0 7 26 by decide) (by omega) ?_
            refine gf_nmM (fun m80 hm80 => ?_)
            refine gf_iload_n C dd_Mo_cover_83 0 rfl ?_
            refine gf_iret C hQ dd_Mo_cover_84 (by omega) ?_
            have es : s.toNat = (gf_shl 1 (μ 71 0)).toNat := by omega
            rw [es] at hf
            refine ⟨fun h => absurd h (by omega), fun _ => ⟨hf, fun h => ?_, fun h => ?_⟩⟩
            · first | (exfalso; omega) | (rw [hm80, gf_up_id]; exact gm_sc_sa hsa)
            · first | (exfalso; omega) | (rw [← e21]; exact gm_sc_tl (gm_sc_sa hsa) hm80)
        · skip
          refine gf_iload_n C dd_Mo_cover_33 0 rfl ?_
          refine gf_if_lt 48 C dd_Mo_cover_34 (by decide) (by omega) (fun h34 => ?_) (fun h34 => ?_)
          · skip
            refine gf_aload_n C dd_Mo_cover_48 2 rfl ?_
            refine gf_iload_n C dd_Mo_cover_49 1 rfl ?_
            refine gf_callVi (st := []) (As := [.int (gf_i s)]) C wk_Mo_227 gf_cl7 (show gf_is 81 65 0 7 26 by decide) (ct_Mo_isCover (gf_xl X) E s m13 (by omega) (by omega) (fun t h0 h1 => by obtain ⟨q, _, he⟩ := hex t h0 h1; have := gm_mk_R μ hc q.2; omega)) rfl ⟨rfl, rfl, rfl, rfl⟩ (Nat.le_of_ble_eq_true rfl) rfl dd_Mo_cover_50 (fun r50 m50 hR50 hp50 => ?_)
            have hr50 := hp50.1
            refine gf_pm hp50.2 ?_
            refine gf_if_eq 58 C dd_Mo_cover_53 (by decide) (by omega) (fun h53 => ?_) (fun h53 => ?_)
            · skip
              obtain ⟨x58, hx58⟩ : ∃ y : Int, y = s + 1 := ⟨_, rfl⟩
              refine gf_iinc (q := 1) (v := x58) (lv' := [(2, .int (gf_i x58)), (1, .int (gf_i f)), (0, .ref (gf_ad E 65))]) C dd_Mo_cover_58 rfl hx58 (by decide) rfl ?_
              refine gf_goto 21 C dd_Mo_cover_61 (by decide) ?_
              refine gf_lsub [1, 0, 2] rfl ?_
              exact ih21_1 f x58 (by
                      have e1 : x58.toNat = s.toNat + 1 := by omega
                      refine ⟨by omega, by omega, ?_⟩
                      rw [e1]
                      first
                      | (have hcc := (hcv s).mp (hr50.1.mp (by omega))
                         rw [pf_cov_s (gm_cvd μ) hs0 True (by rw [← hf]; exact ⟨fun _ => ⟨by first | (left; omega) | (right; rw [← hr38.1, ← hr42.1]; omega), hcc⟩, fun _ => trivial⟩), if_pos trivial]
                         done)
                      | (have hcc : ¬ gm_cvd μ s := fun h => by have := hr50.1.mpr ((hcv s).mpr h); omega
                         rw [pf_cov_s (gm_cvd μ) hs0 False ⟨fun h => h.elim, fun h => hcc h.2⟩, if_neg id]
                         exact hf)
                      | (exfalso; omega)
                      | (rw [pf_cov_s (gm_cvd μ) hs0 False ⟨fun h => h.elim, fun h => by rw [← hf, ← hr38.1, ← hr42.1] at h; omega⟩, if_neg id]
                         exact hf)) (by omega)
            · skip
              refine gf_iload_n C dd_Mo_cover_56 1 rfl ?_
              refine gf_istore_n (lv' := [(1, .int (gf_i s)), (2, .int (gf_i s)), (0, .ref (gf_ad E 65))]) C dd_Mo_cover_57 (by decide) rfl ?_
              obtain ⟨x58, hx58⟩ : ∃ y : Int, y = s + 1 := ⟨_, rfl⟩
              refine gf_iinc (q := 1) (v := x58) (lv' := [(2, .int (gf_i x58)), (1, .int (gf_i s)), (0, .ref (gf_ad E 65))]) C dd_Mo_cover_58 rfl hx58 (by decide) rfl ?_
              refine gf_goto 21 C dd_Mo_cover_61 (by decide) ?_
              refine gf_lsub [1, 0, 2] rfl ?_
              exact ih21_1 s x58 (by
                      have e1 : x58.toNat = s.toNat + 1 := by omega
                      refine ⟨by omega, by omega, ?_⟩
                      rw [e1]
                      first
                      | (have hcc := (hcv s).mp (hr50.1.mp (by omega))
                         rw [pf_cov_s (gm_cvd μ) hs0 True (by rw [← hf]; exact ⟨fun _ => ⟨by first | (left; omega) | (right; rw [← hr38.1, ← hr42.1]; omega), hcc⟩, fun _ => trivial⟩), if_pos trivial]
                         done)
                      | (have hcc : ¬ gm_cvd μ s := fun h => by have := hr50.1.mpr ((hcv s).mpr h); omega
                         rw [pf_cov_s (gm_cvd μ) hs0 False ⟨fun h => h.elim, fun h => hcc h.2⟩, if_neg id]
                         exact hf)
                      | (exfalso; omega)
                      | (rw [pf_cov_s (gm_cvd μ) hs0 False ⟨fun h => h.elim, fun h => by rw [← hf, ← hr38.1, ← hr42.1] at h; omega⟩, if_neg id]
                         exact hf)) (by omega)
          · skip
            refine gf_iload_n C dd_Mo_cover_37 1 rfl ?_
            refine gf_callSi (st := []) (As := [.int (gf_i s)]) C wk_Mo_224 (ct_Mo_ones (gf_xl X) E s m13 (by omega)) rfl ⟨rfl, rfl, rfl, rfl⟩ (Nat.le_of_ble_eq_true rfl) rfl dd_Mo_cover_38 (fun r38 m38 hR38 hp38 => ?_)
            have hr38 := hp38.1
            refine gf_pm hp38.2 ?_
            refine gf_iload_n C dd_Mo_cover_41 0 rfl ?_
            refine gf_callSi (st := [.int (gf_i r38)]) (As := [.int (gf_i f)]) C wk_Mo_224 (ct_Mo_ones (gf_xl X) E f m13 (by omega)) rfl ⟨rfl, rfl, rfl, rfl⟩ (Nat.le_of_ble_eq_true rfl) rfl dd_Mo_cover_42 (fun r42 m42 hR42 hp42 => ?_)
            have hr42 := hp42.1
            refine gf_pm hp42.2 ?_
            refine gf_icmp_ge 58 C dd_Mo_cover_45 (by decide) (by omega) (by omega) (fun h45 => ?_) (fun h45 => ?_)
            · skip
              obtain ⟨x58, hx58⟩ : ∃ y : Int, y = s + 1 := ⟨_, rfl⟩
              refine gf_iinc (q := 1) (v := x58) (lv' := [(2, .int (gf_i x58)), (1, .int (gf_i f)), (0, .ref (gf_ad E 65))]) C dd_Mo_cover_58 rfl hx58 (by decide) rfl ?_
              refine gf_goto 21 C dd_Mo_cover_61 (by decide) ?_
              refine gf_lsub [1, 0, 2] rfl ?_
              exact ih21_1 f x58 (by
                      have e1 : x58.toNat = s.toNat + 1 := by omega
                      refine ⟨by omega, by omega, ?_⟩
                      rw [e1]
                      first
                      | (have hcc := (hcv s).mp (hr50.1.mp (by omega))
                         rw [pf_cov_s (gm_cvd μ) hs0 True (by rw [← hf]; exact ⟨fun _ => ⟨by first | (left; omega) | (right; rw [← hr38.1, ← hr42.1]; omega), hcc⟩, fun _ => trivial⟩), if_pos trivial]
                         done)
                      | (have hcc : ¬ gm_cvd μ s := fun h => by have := hr50.1.mpr ((hcv s).mpr h); omega
                         rw [pf_cov_s (gm_cvd μ) hs0 False ⟨fun h => h.elim, fun h => hcc h.2⟩, if_neg id]
                         exact hf)
                      | (exfalso; omega)
                      | (rw [pf_cov_s (gm_cvd μ) hs0 False ⟨fun h => h.elim, fun h => by rw [← hf, ← hr38.1, ← hr42.1] at h; omega⟩, if_neg id]
                         exact hf)) (by omega)
            · skip
              refine gf_aload_n C dd_Mo_cover_48 2 rfl ?_
              refine gf_iload_n C dd_Mo_cover_49 1 rfl ?_
              refine gf_callVi (st := []) (As := [.int (gf_i s)]) C wk_Mo_227 gf_cl7 (show gf_is 81 65 0 7 26 by decide) (ct_Mo_isCover (gf_xl X) E s m13 (by omega) (by omega) (fun t h0 h1 => by obtain ⟨q, _, he⟩ := hex t h0 h1; have := gm_mk_R μ hc q.2; omega)) rfl ⟨rfl, rfl, rfl, rfl⟩ (Nat.le_of_ble_eq_true rfl) rfl dd_Mo_cover_50 (fun r50 m50 hR50 hp50 => ?_)
              have hr50 := hp50.1
              refine gf_pm hp50.2 ?_
              refine gf_if_eq 58 C dd_Mo_cover_53 (by decide) (by omega) (fun h53 => ?_) (fun h53 => ?_)
              · skip
                obtain ⟨x58, hx58⟩ : ∃ y : Int, y = s + 1 := ⟨_, rfl⟩
                refine gf_iinc (q := 1) (v := x58) (lv' := [(2, .int (gf_i x58)), (1, .int (gf_i f)), (0, .ref (gf_ad E 65))]) C dd_Mo_cover_58 rfl hx58 (by decide) rfl ?_
                refine gf_goto 21 C dd_Mo_cover_61 (by decide) ?_
                refine gf_lsub [1, 0, 2] rfl ?_
                exact ih21_1 f x58 (by
                        have e1 : x58.toNat = s.toNat + 1 := by omega
                        refine ⟨by omega, by omega, ?_⟩
                        rw [e1]
                        first
                        | (have hcc := (hcv s).mp (hr50.1.mp (by omega))
                           rw [pf_cov_s (gm_cvd μ) hs0 True (by rw [← hf]; exact ⟨fun _ => ⟨by first | (left; omega) | (right; rw [← hr38.1, ← hr42.1]; omega), hcc⟩, fun _ => trivial⟩), if_pos trivial]
                           done)
                        | (have hcc : ¬ gm_cvd μ s := fun h => by have := hr50.1.mpr ((hcv s).mpr h); omega
                           rw [pf_cov_s (gm_cvd μ) hs0 False ⟨fun h => h.elim, fun h => hcc h.2⟩, if_neg id]
                           exact hf)
                        | (exfalso; omega)
                        | (rw [pf_cov_s (gm_cvd μ) hs0 False ⟨fun h => h.elim, fun h => by rw [← hf, ← hr38.1, ← hr42.1] at h; omega⟩, if_neg id]
                           exact hf)) (by omega)
              · skip
                refine gf_iload_n C dd_Mo_cover_56 1 rfl ?_
                refine gf_istore_n (lv' := [(1, .int (gf_i s)), (2, .int (gf_i s)), (0, .ref (gf_ad E 65))]) C dd_Mo_cover_57 (by decide) rfl ?_
                obtain ⟨x58, hx58⟩ : ∃ y : Int, y = s + 1 := ⟨_, rfl⟩
                refine gf_iinc (q := 1) (v := x58) (lv' := [(2, .int (gf_i x58)), (1, .int (gf_i s)), (0, .ref (gf_ad E 65))]) C dd_Mo_cover_58 rfl hx58 (by decide) rfl ?_
                refine gf_goto 21 C dd_Mo_cover_61 (by decide) ?_
                refine gf_lsub [1, 0, 2] rfl ?_
                exact ih21_1 s x58 (by
                        have e1 : x58.toNat = s.toNat + 1 := by omega
                        refine ⟨by omega, by omega, ?_⟩
                        rw [e1]
                        first
                        | (have hcc := (hcv s).mp (hr50.1.mp (by omega))
                           rw [pf_cov_s (gm_cvd μ) hs0 True (by rw [← hf]; exact ⟨fun _ => ⟨by first | (left; omega) | (right; rw [← hr38.1, ← hr42.1]; omega), hcc⟩, fun _ => trivial⟩), if_pos trivial]
                           done)
                        | (have hcc : ¬ gm_cvd μ s := fun h => by have := hr50.1.mpr ((hcv s).mpr h); omega
                           rw [pf_cov_s (gm_cvd μ) hs0 False ⟨fun h => h.elim, fun h => hcc h.2⟩, if_neg id]
                           exact hf)
                        | (exfalso; omega)
                        | (rw [pf_cov_s (gm_cvd μ) hs0 False ⟨fun h => h.elim, fun h => by rw [← hf, ← hr38.1, ← hr42.1] at h; omega⟩, if_neg id]
                           exact hf)) (by omega)
    refine gf_lsub [1, 0, 2] rfl ?_
    exact L21_1 _ (-9) 0 (⟨by omega, by omega, rfl⟩) (Nat.lt_succ_self _)
  · skip
    refine gf_bipush C dd_Mo_cover_9 (by decide +kernel) ?_
    refine gf_iret C hQ dd_Mo_cover_11 (by omega) ?_
    exact ⟨fun _ => ⟨rfl, rfl⟩, fun h => absurd h (by omega)⟩
