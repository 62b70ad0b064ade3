/-! the reference: deeds -/
def gm_nt (μ : gf_M) : gf_M := fun a b => if a = 71 ∧ b = 2 then μ 71 2 + 1 else if a = 71 ∧ b = 32 + 9 * μ 71 2 then μ 71 1 else if a = 71 ∧ 33 + 9 * μ 71 2 ≤ b ∧ b ≤ 40 + 9 * μ 71 2 then μ 71 (24 + (b - (33 + 9 * μ 71 2))) else μ a b
def gm_app (μ : gf_M) (f : Int) : gf_M := gf_up (gf_up μ 71 (24 + μ 71 1) f) 71 1 (μ 71 1 + 1)
def gm_off (μ : gf_M) : gf_M := gf_up (gf_up μ 71 1 (μ 71 1 - 1)) 71 (24 + (μ 71 1 - 1)) 0
theorem gm_nt_o {μ : gf_M} {a b : Int} (h : ¬ (a = 71 ∧ (b = 2 ∨ (32 + 9 * μ 71 2 ≤ b ∧ b ≤ 40 + 9 * μ 71 2)))) : gm_nt μ a b = μ a b := by
  unfold gm_nt
  rw [if_neg (by omega), if_neg (by omega), if_neg (by omega)]
theorem gm_nt_2 {μ : gf_M} : gm_nt μ 71 2 = μ 71 2 + 1 := by
  unfold gm_nt
  rw [if_pos (by omega)]
theorem gm_nt_L {μ : gf_M} (h : 0 ≤ μ 71 2) : gm_nt μ 71 (32 + 9 * μ 71 2) = μ 71 1 := by
  unfold gm_nt
  rw [if_neg (by omega), if_pos (by omega)]
theorem gm_nt_f {μ : gf_M} (h : 0 ≤ μ 71 2) {j : Int} (hj : 0 ≤ j ∧ j < 8) : gm_nt μ 71 (33 + 9 * μ 71 2 + j) = μ 71 (24 + j) := by
  unfold gm_nt
  rw [if_neg (by omega), if_neg (by omega), if_pos (by omega), show 24 + (33 + 9 * μ 71 2 + j - (33 + 9 * μ 71 2)) = 24 + j by omega]
theorem gm_nt_b {μ : gf_M} (h : 0 ≤ μ 71 2) {b : Int} (hb : b ≠ 2 ∧ b < 32) : gm_nt μ 71 b = μ 71 b := gm_nt_o (by omega)
theorem dd_Mo_note_0 : decode cc_Mo_note 0 = .ok (.bipush 32, 2) := by decide +kernel
theorem dd_Mo_note_2 : decode cc_Mo_note 2 = .ok (.bipush 9, 2) := by decide +kernel
theorem dd_Mo_note_4 : decode cc_Mo_note 4 = .ok (.aload_n 0, 1) := by decide +kernel
theorem dd_Mo_note_5 : decode cc_Mo_note 5 = .ok (.getfield 30, 3) := by decide +kernel
theorem dd_Mo_note_8 : decode cc_Mo_note 8 = .ok (.iconst 2, 1) := by decide +kernel
theorem dd_Mo_note_9 : decode cc_Mo_note 9 = .ok (.iaload, 1) := by decide +kernel
theorem dd_Mo_note_10 : decode cc_Mo_note 10 = .ok (.imul, 1) := by decide +kernel
theorem dd_Mo_note_11 : decode cc_Mo_note 11 = .ok (.iadd, 1) := by decide +kernel
theorem dd_Mo_note_12 : decode cc_Mo_note 12 = .ok (.istore_n 1, 1) := by decide +kernel
theorem dd_Mo_note_13 : decode cc_Mo_note 13 = .ok (.aload_n 0, 1) := by decide +kernel
theorem dd_Mo_note_14 : decode cc_Mo_note 14 = .ok (.getfield 30, 3) := by decide +kernel
theorem dd_Mo_note_17 : decode cc_Mo_note 17 = .ok (.iload_n 1, 1) := by decide +kernel
theorem dd_Mo_note_18 : decode cc_Mo_note 18 = .ok (.aload_n 0, 1) := by decide +kernel
theorem dd_Mo_note_19 : decode cc_Mo_note 19 = .ok (.getfield 30, 3) := by decide +kernel
theorem dd_Mo_note_22 : decode cc_Mo_note 22 = .ok (.iconst 1, 1) := by decide +kernel
theorem dd_Mo_note_23 : decode cc_Mo_note 23 = .ok (.iaload, 1) := by decide +kernel
theorem dd_Mo_note_24 : decode cc_Mo_note 24 = .ok (.iastore, 1) := by decide +kernel
theorem dd_Mo_note_25 : decode cc_Mo_note 25 = .ok (.iconst 0, 1) := by decide +kernel
theorem dd_Mo_note_26 : decode cc_Mo_note 26 = .ok (.istore_n 2, 1) := by decide +kernel
theorem dd_Mo_note_27 : decode cc_Mo_note 27 = .ok (.iload_n 2, 1) := by decide +kernel
theorem dd_Mo_note_28 : decode cc_Mo_note 28 = .ok (.bipush 8, 2) := by decide +kernel
theorem dd_Mo_note_30 : decode cc_Mo_note 30 = .ok (.if_icmp .ge 28, 3) := by decide +kernel
theorem dd_Mo_note_33 : decode cc_Mo_note 33 = .ok (.aload_n 0, 1) := by decide +kernel
theorem dd_Mo_note_34 : decode cc_Mo_note 34 = .ok (.getfield 30, 3) := by decide +kernel
theorem dd_Mo_note_37 : decode cc_Mo_note 37 = .ok (.iload_n 1, 1) := by decide +kernel
theorem dd_Mo_note_38 : decode cc_Mo_note 38 = .ok (.iconst 1, 1) := by decide +kernel
theorem dd_Mo_note_39 : decode cc_Mo_note 39 = .ok (.iadd, 1) := by decide +kernel
theorem dd_Mo_note_40 : decode cc_Mo_note 40 = .ok (.iload_n 2, 1) := by decide +kernel
theorem dd_Mo_note_41 : decode cc_Mo_note 41 = .ok (.iadd, 1) := by decide +kernel
theorem dd_Mo_note_42 : decode cc_Mo_note 42 = .ok (.aload_n 0, 1) := by decide +kernel
theorem dd_Mo_note_43 : decode cc_Mo_note 43 = .ok (.getfield 30, 3) := by decide +kernel
theorem dd_Mo_note_46 : decode cc_Mo_note 46 = .ok (.bipush 24, 2) := by decide +kernel
theorem dd_Mo_note_48 : decode cc_Mo_note 48 = .ok (.iload_n 2, 1) := by decide +kernel
theorem dd_Mo_note_49 : decode cc_Mo_note 49 = .ok (.iadd, 1) := by decide +kernel
theorem dd_Mo_note_50 : decode cc_Mo_note 50 = .ok (.iaload, 1) := by decide +kernel
theorem dd_Mo_note_51 : decode cc_Mo_note 51 = .ok (.iastore, 1) := by decide +kernel
theorem dd_Mo_note_52 : decode cc_Mo_note 52 = .ok (.iinc 2 1, 3) := by decide +kernel
theorem dd_Mo_note_55 : decode cc_Mo_note 55 = .ok (.goto (-28), 3) := by decide +kernel
theorem dd_Mo_note_58 : decode cc_Mo_note 58 = .ok (.aload_n 0, 1) := by decide +kernel
theorem dd_Mo_note_59 : decode cc_Mo_note 59 = .ok (.getfield 30, 3) := by decide +kernel
theorem dd_Mo_note_62 : decode cc_Mo_note 62 = .ok (.iconst 2, 1) := by decide +kernel
theorem dd_Mo_note_63 : decode cc_Mo_note 63 = .ok (.dup2, 1) := by decide +kernel
theorem dd_Mo_note_64 : decode cc_Mo_note 64 = .ok (.iaload, 1) := by decide +kernel
theorem dd_Mo_note_65 : decode cc_Mo_note 65 = .ok (.iconst 1, 1) := by decide +kernel
theorem dd_Mo_note_66 : decode cc_Mo_note 66 = .ok (.iadd, 1) := by decide +kernel
theorem dd_Mo_note_67 : decode cc_Mo_note 67 = .ok (.iastore, 1) := by decide +kernel
theorem dd_Mo_note_68 : decode cc_Mo_note 68 = .ok (.return_, 1) := by decide +kernel
set_option maxRecDepth 100000 in
set_option maxHeartbeats 4000000 in
theorem ct_Mo_note (l : Launch) (E : gf_E) (μ : gf_M) (hn : 0 ≤ μ 71 1 ∧ μ 71 1 ≤ 8) (hd : 0 ≤ μ 71 2 ∧ μ 71 2 < 40) : gf_Mv l E yy_Mo_note cc_Mo_note 3 (gf_rm 0 0) 81 gf_ref 0 0 81 gf_ref μ [.ref (gf_ad E 65)] (fun μ' => μ' = gm_nt μ) := by
  refine gf_mv (by decide +kernel) (Nat.le_of_ble_eq_true rfl) (by decide) (fun X Q hlx C hname hQ => ?_)
  subst hlx
  replace C : gf_C X E cc_Mo_note 3 "GuardFiguresModel" (gf_rm 0 0) := C
  show gf_G X E Q 3 gf_φ μ 0 [(0, .ref (gf_ad E 65))] []
  refine gf_bipush C dd_Mo_note_0 (by decide +kernel) ?_
  refine gf_bipush C dd_Mo_note_2 (by decide +kernel) ?_
  refine gf_aload_n C dd_Mo_note_4 0 rfl ?_
  refine gf_getA (r := 71) C gf_cl7 fl_Mo_30 dd_Mo_note_5 rfl (show gf_is 81 65 0 7 26 by decide) (by decide) (by decide) ?_
  refine gf_iconst C dd_Mo_note_8 ?_
  refine gf_iald C dd_Mo_note_9 (show gf_is 81 71 1 0 392 by decide) (by omega) (fun hv9 => ?_)
  refine gf_imul C dd_Mo_note_10 ?_
  refine gf_iadd C dd_Mo_note_11 ?_
  refine gf_nm (fun x12 hx12 => ?_)
  refine gf_istore_n (lv' := [(1, .int (gf_i x12)), (0, .ref (gf_ad E 65))]) C dd_Mo_note_12 (by decide) rfl ?_
  refine gf_aload_n C dd_Mo_note_13 1 rfl ?_
  refine gf_getA (r := 71) C gf_cl7 fl_Mo_30 dd_Mo_note_14 rfl (show gf_is 81 65 0 7 26 by decide) (by decide) (by decide) ?_
  refine gf_iload_n C dd_Mo_note_17 0 rfl ?_
  refine gf_aload_n C dd_Mo_note_18 1 rfl ?_
  refine gf_getA (r := 71) C gf_cl7 fl_Mo_30 dd_Mo_note_19 rfl (show gf_is 81 65 0 7 26 by decide) (by decide) (by decide) ?_
  refine gf_iconst C dd_Mo_note_22 ?_
  refine gf_iald C dd_Mo_note_23 (show gf_is 81 71 1 0 392 by decide) (by omega) (fun hv23 => ?_)
  refine gf_iast C dd_Mo_note_24 (show gf_is 81 71 1 0 392 by decide) (by omega) (by omega) ?_
  refine gf_nmM (fun m24 hm24 => ?_)
  refine gf_iconst C dd_Mo_note_25 ?_
  refine gf_istore_n (lv' := [(2, .int (gf_i 0)), (1, .int (gf_i x12)), (0, .ref (gf_ad E 65))]) C dd_Mo_note_26 (by decide) rfl ?_
  have L27_1 : ∀ (N : Nat) (k : Int) (m : gf_M) , (0 ≤ k ∧ k ≤ 8 ∧ m 71 x12 = μ 71 1 ∧ (∀ j : Int, 0 ≤ j → j < k → m 71 (x12 + 1 + j) = μ 71 (24 + j)) ∧ ∀ a b : Int, ¬ (a = 71 ∧ x12 ≤ b ∧ b < x12 + 1 + k) → m a b = μ a b) → (8 - k).toNat < N → gf_G X E Q 3 gf_φ m 27 [(2, .int (gf_i k)), (1, .int (gf_i x12)), (0, .ref (gf_ad E 65))] [] := by
    intro N
    induction N with
    | zero => intro k m hinv hN; exact absurd hN (Nat.not_lt_zero _)
    | succ N ih27_1 =>
      intro k m hinv hN
      have hinv0 := hinv
      obtain ⟨hk0, hk1, hk2, hk3, hk4⟩ := hinv
      refine gf_iload_n C dd_Mo_note_27 0 rfl ?_
      refine gf_bipush C dd_Mo_note_28 (by decide +kernel) ?_
      refine gf_icmp_ge 58 C dd_Mo_note_30 (by decide) (by omega) (by omega) (fun h30 => ?_) (fun h30 => ?_)
      · skip
        have e2 : m 71 2 = μ 71 2 := hk4 71 2 (by omega)
        refine gf_aload_n C dd_Mo_note_58 2 rfl ?_
        refine gf_getA (r := 71) C gf_cl7 fl_Mo_30 dd_Mo_note_59 rfl (show gf_is 81 65 0 7 26 by decide) (by decide) (by decide) ?_
        refine gf_iconst C dd_Mo_note_62 ?_
        refine gf_dup2 C dd_Mo_note_63 rfl rfl ?_
        refine gf_iald C dd_Mo_note_64 (show gf_is 81 71 1 0 392 by decide) (by omega) (fun hv64 => ?_)
        refine gf_iconst C dd_Mo_note_65 ?_
        refine gf_iadd C dd_Mo_note_66 ?_
        refine gf_iast C dd_Mo_note_67 (show gf_is 81 71 1 0 392 by decide) (by omega) (by omega) ?_
        refine gf_nmM (fun m67 hm67 => ?_)
        refine gf_vret C hQ dd_Mo_note_68 ?_
        funext a b
        rw [hm67, e2]
        unfold gm_nt
        by_cases h1 : a = 71 ∧ b = 2
        · rw [if_pos h1, h1.1, h1.2, gf_up_s]
        · rw [if_neg h1, gf_up_o h1]
          by_cases h2 : a = 71 ∧ b = 32 + 9 * μ 71 2
          · rw [if_pos h2, h2.1, h2.2, ← hx12]; exact hk2
          · rw [if_neg h2]
            by_cases h3 : a = 71 ∧ 33 + 9 * μ 71 2 ≤ b ∧ b ≤ 40 + 9 * μ 71 2
            · rw [if_pos h3, h3.1]
              have := hk3 (b - (33 + 9 * μ 71 2)) (by omega) (by omega)
              rw [show x12 + 1 + (b - (33 + 9 * μ 71 2)) = b by omega] at this
              exact this
            · rw [if_neg h3]; exact hk4 a b (by omega)
      · skip
        refine gf_aload_n C dd_Mo_note_33 2 rfl ?_
        refine gf_getA (r := 71) C gf_cl7 fl_Mo_30 dd_Mo_note_34 rfl (show gf_is 81 65 0 7 26 by decide) (by decide) (by decide) ?_
        refine gf_iload_n C dd_Mo_note_37 1 rfl ?_
        refine gf_iconst C dd_Mo_note_38 ?_
        refine gf_iadd C dd_Mo_note_39 ?_
        refine gf_iload_n C dd_Mo_note_40 0 rfl ?_
        refine gf_iadd C dd_Mo_note_41 ?_
        refine gf_aload_n C dd_Mo_note_42 2 rfl ?_
        refine gf_getA (r := 71) C gf_cl7 fl_Mo_30 dd_Mo_note_43 rfl (show gf_is 81 65 0 7 26 by decide) (by decide) (by decide) ?_
        refine gf_bipush C dd_Mo_note_46 (by decide +kernel) ?_
        refine gf_iload_n C dd_Mo_note_48 0 rfl ?_
        refine gf_iadd C dd_Mo_note_49 ?_
        refine gf_iald C dd_Mo_note_50 (show gf_is 81 71 1 0 392 by decide) (by omega) (fun hv50 => ?_)
        refine gf_iast C dd_Mo_note_51 (show gf_is 81 71 1 0 392 by decide) (by omega) (by omega) ?_
        refine gf_nmM (fun m51 hm51 => ?_)
        obtain ⟨x52, hx52⟩ : ∃ y : Int, y = k + 1 := ⟨_, rfl⟩
        refine gf_iinc (q := 0) (v := x52) (lv' := [(2, .int (gf_i x52)), (1, .int (gf_i x12)), (0, .ref (gf_ad E 65))]) C dd_Mo_note_52 rfl hx52 (by decide) rfl ?_
        refine gf_goto 27 C dd_Mo_note_55 (by decide) ?_
        refine gf_lsub [0, 1, 2] rfl ?_
        exact ih27_1 x52 m51 (by
                refine ⟨by omega, by omega, by rw [hm51, gf_up_j (by omega)]; exact hk2, fun j h0 h1 => ?_, fun a b h => by rw [hm51, gf_up_o (by omega)]; exact hk4 a b (by omega)⟩
                rw [hm51]
                by_cases e : j = k
                · rw [e, gf_up_s]; exact hk4 71 _ (by omega)
                · rw [gf_up_j (by omega)]; exact hk3 j h0 (by omega)) (by omega)
  refine gf_lsub [0, 1, 2] rfl ?_
  exact L27_1 _ 0 m24 (⟨by omega, by omega, by rw [hm24]; exact gf_up_s, fun j h0 h1 => by omega, fun a b h => by rw [hm24]; exact gf_up_o (by omega)⟩) (Nat.lt_succ_self _)

theorem dd_Mo_append_0 : decode cc_Mo_append 0 = .ok (.aload_n 0, 1) := by decide +kernel
theorem dd_Mo_append_1 : decode cc_Mo_append 1 = .ok (.getfield 30, 3) := by decide +kernel
theorem dd_Mo_append_4 : decode cc_Mo_append 4 = .ok (.bipush 24, 2) := by decide +kernel
theorem dd_Mo_append_6 : decode cc_Mo_append 6 = .ok (.aload_n 0, 1) := by decide +kernel
theorem dd_Mo_append_7 : decode cc_Mo_append 7 = .ok (.getfield 30, 3) := by decide +kernel
theorem dd_Mo_append_10 : decode cc_Mo_append 10 = .ok (.iconst 1, 1) := by decide +kernel
theorem dd_Mo_append_11 : decode cc_Mo_append 11 = .ok (.iaload, 1) := by decide +kernel
theorem dd_Mo_append_12 : decode cc_Mo_append 12 = .ok (.iadd, 1) := by decide +kernel
theorem dd_Mo_append_13 : decode cc_Mo_append 13 = .ok (.iload_n 1, 1) := by decide +kernel
theorem dd_Mo_append_14 : decode cc_Mo_append 14 = .ok (.iastore, 1) := by decide +kernel
theorem dd_Mo_append_15 : decode cc_Mo_append 15 = .ok (.aload_n 0, 1) := by decide +kernel
theorem dd_Mo_append_16 : decode cc_Mo_append 16 = .ok (.getfield 30, 3) := by decide +kernel
theorem dd_Mo_append_19 : decode cc_Mo_append 19 = .ok (.iconst 1, 1) := by decide +kernel
theorem dd_Mo_append_20 : decode cc_Mo_append 20 = .ok (.dup2, 1) := by decide +kernel
theorem dd_Mo_append_21 : decode cc_Mo_append 21 = .ok (.iaload, 1) := by decide +kernel
theorem dd_Mo_append_22 : decode cc_Mo_append 22 = .ok (.iconst 1, 1) := by decide +kernel
theorem dd_Mo_append_23 : decode cc_Mo_append 23 = .ok (.iadd, 1) := by decide +kernel
theorem dd_Mo_append_24 : decode cc_Mo_append 24 = .ok (.iastore, 1) := by decide +kernel
theorem dd_Mo_append_25 : decode cc_Mo_append 25 = .ok (.return_, 1) := by decide +kernel
set_option maxRecDepth 100000 in
set_option maxHeartbeats 4000000 in
theorem ct_Mo_append (l : Launch) (E : gf_E) (f : Int) (μ : gf_M) (hf : gf_R f) (hn : 0 ≤ μ 71 1 ∧ μ 71 1 < 8) : gf_Mv l E yy_Mo_append cc_Mo_append 2 (gf_rm 0 0) 81 gf_ref 0 0 81 gf_ref μ [.ref (gf_ad E 65), .int (gf_i f)] (fun μ' => μ' = gm_app μ f) := by
  refine gf_mv (by decide +kernel) (Nat.le_of_ble_eq_true rfl) (by decide) (fun X Q hlx C hname hQ => ?_)
  subst hlx
  replace C : gf_C X E cc_Mo_append 2 "GuardFiguresModel" (gf_rm 0 0) := C
  show gf_G X E Q 2 gf_φ μ 0 [(0, .ref (gf_ad E 65)), (1, .int (gf_i f))] []
  refine gf_aload_n C dd_Mo_append_0 0 rfl ?_
  refine gf_getA (r := 71) C gf_cl7 fl_Mo_30 dd_Mo_append_1 rfl (show gf_is 81 65 0 7 26 by decide) (by decide) (by decide) ?_
  refine gf_bipush C dd_Mo_append_4 (by decide +kernel) ?_
  refine gf_aload_n C dd_Mo_append_6 0 rfl ?_
  refine gf_getA (r := 71) C gf_cl7 fl_Mo_30 dd_Mo_append_7 rfl (show gf_is 81 65 0 7 26 by decide) (by decide) (by decide) ?_
  refine gf_iconst C dd_Mo_append_10 ?_
  refine gf_iald C dd_Mo_append_11 (show gf_is 81 71 1 0 392 by decide) (by omega) (fun hv11 => ?_)
  refine gf_iadd C dd_Mo_append_12 ?_
  refine gf_iload_n C dd_Mo_append_13 1 rfl ?_
  refine gf_iast C dd_Mo_append_14 (show gf_is 81 71 1 0 392 by decide) (by omega) (by omega) ?_
  refine gf_nmM (fun m14 hm14 => ?_)
  have e1 : m14 71 1 = μ 71 1 := by rw [hm14]; exact gf_up_j (by omega)
  refine gf_aload_n C dd_Mo_append_15 0 rfl ?_
  refine gf_getA (r := 71) C gf_cl7 fl_Mo_30 dd_Mo_append_16 rfl (show gf_is 81 65 0 7 26 by decide) (by decide) (by decide) ?_
  refine gf_iconst C dd_Mo_append_19 ?_
  refine gf_dup2 C dd_Mo_append_20 rfl rfl ?_
  refine gf_iald C dd_Mo_append_21 (show gf_is 81 71 1 0 392 by decide) (by omega) (fun hv21 => ?_)
  refine gf_iconst C dd_Mo_append_22 ?_
  refine gf_iadd C dd_Mo_append_23 ?_
  refine gf_iast C dd_Mo_append_24 (show gf_is 81 71 1 0 392 by decide) (by omega) (by omega) ?_
  refine gf_nmM (fun m24 hm24 => ?_)
  refine gf_vret C hQ dd_Mo_append_25 ?_
  rw [hm24, e1, hm14]
  rfl

theorem dd_Mo_takeOff_0 : decode cc_Mo_takeOff 0 = .ok (.aload_n 0, 1) := by decide +kernel
theorem dd_Mo_takeOff_1 : decode cc_Mo_takeOff 1 = .ok (.getfield 30, 3) := by decide +kernel
theorem dd_Mo_takeOff_4 : decode cc_Mo_takeOff 4 = .ok (.iconst 1, 1) := by decide +kernel
theorem dd_Mo_takeOff_5 : decode cc_Mo_takeOff 5 = .ok (.dup2, 1) := by decide +kernel
theorem dd_Mo_takeOff_6 : decode cc_Mo_takeOff 6 = .ok (.iaload, 1) := by decide +kernel
theorem dd_Mo_takeOff_7 : decode cc_Mo_takeOff 7 = .ok (.iconst 1, 1) := by decide +kernel
theorem dd_Mo_takeOff_8 : decode cc_Mo_takeOff 8 = .ok (.isub, 1) := by decide +kernel
theorem dd_Mo_takeOff_9 : decode cc_Mo_takeOff 9 = .ok (.iastore, 1) := by decide +kernel
theorem dd_Mo_takeOff_10 : decode cc_Mo_takeOff 10 = .ok (.aload_n 0, 1) := by decide +kernel
theorem dd_Mo_takeOff_11 : decode cc_Mo_takeOff 11 = .ok (.getfield 30, 3) := by decide +kernel
theorem dd_Mo_takeOff_14 : decode cc_Mo_takeOff 14 = .ok (.bipush 24, 2) := by decide +kernel
theorem dd_Mo_takeOff_16 : decode cc_Mo_takeOff 16 = .ok (.aload_n 0, 1) := by decide +kernel
theorem dd_Mo_takeOff_17 : decode cc_Mo_takeOff 17 = .ok (.getfield 30, 3) := by decide +kernel
theorem dd_Mo_takeOff_20 : decode cc_Mo_takeOff 20 = .ok (.iconst 1, 1) := by decide +kernel
theorem dd_Mo_takeOff_21 : decode cc_Mo_takeOff 21 = .ok (.iaload, 1) := by decide +kernel
theorem dd_Mo_takeOff_22 : decode cc_Mo_takeOff 22 = .ok (.iadd, 1) := by decide +kernel
theorem dd_Mo_takeOff_23 : decode cc_Mo_takeOff 23 = .ok (.iconst 0, 1) := by decide +kernel
theorem dd_Mo_takeOff_24 : decode cc_Mo_takeOff 24 = .ok (.iastore, 1) := by decide +kernel
theorem dd_Mo_takeOff_25 : decode cc_Mo_takeOff 25 = .ok (.return_, 1) := by decide +kernel
set_option maxRecDepth 100000 in
set_option maxHeartbeats 4000000 in
theorem ct_Mo_takeOff (l : Launch) (E : gf_E) (μ : gf_M) (hn : 1 ≤ μ 71 1 ∧ μ 71 1 ≤ 8) : gf_Mv l E yy_Mo_takeOff cc_Mo_takeOff 1 (gf_rm 0 0) 81 gf_ref 0 0 81 gf_ref μ [.ref (gf_ad E 65)] (fun μ' => μ' = gm_off μ) := by
  refine gf_mv (by decide +kernel) (Nat.le_of_ble_eq_true rfl) (by decide) (fun X Q hlx C hname hQ => ?_)
  subst hlx
  replace C : gf_C X E cc_Mo_takeOff 1 "GuardFiguresModel" (gf_rm 0 0) := C
  show gf_G X E Q 1 gf_φ μ 0 [(0, .ref (gf_ad E 65))] []
  refine gf_aload_n C dd_Mo_takeOff_0 0 rfl ?_
  refine gf_getA (r := 71) C gf_cl7 fl_Mo_30 dd_Mo_takeOff_1 rfl (show gf_is 81 65 0 7 26 by decide) (by decide) (by decide) ?_
  refine gf_iconst C dd_Mo_takeOff_4 ?_
  refine gf_dup2 C dd_Mo_takeOff_5 rfl rfl ?_
  refine gf_iald C dd_Mo_takeOff_6 (show gf_is 81 71 1 0 392 by decide) (by omega) (fun hv6 => ?_)
  refine gf_iconst C dd_Mo_takeOff_7 ?_
  refine gf_isub C dd_Mo_takeOff_8 ?_
  refine gf_iast C dd_Mo_takeOff_9 (show gf_is 81 71 1 0 392 by decide) (by omega) (by omega) ?_
  refine gf_nmM (fun m9 hm9 => ?_)
  have e1 : m9 71 1 = μ 71 1 - 1 := by rw [hm9]; exact gf_up_s
  refine gf_aload_n C dd_Mo_takeOff_10 0 rfl ?_
  refine gf_getA (r := 71) C gf_cl7 fl_Mo_30 dd_Mo_takeOff_11 rfl (show gf_is 81 65 0 7 26 by decide) (by decide) (by decide) ?_
  refine gf_bipush C dd_Mo_takeOff_14 (by decide +kernel) ?_
  refine gf_aload_n C dd_Mo_takeOff_16 0 rfl ?_
  refine gf_getA (r := 71) C gf_cl7 fl_Mo_30 dd_Mo_takeOff_17 rfl (show gf_is 81 65 0 7 26 by decide) (by decide) (by decide) ?_
  refine gf_iconst C dd_Mo_takeOff_20 ?_
  refine gf_iald C dd_Mo_takeOff_21 (show gf_is 81 71 1 0 392 by decide) (by omega) (fun hv21 => ?_)
  refine gf_iadd C dd_Mo_takeOff_22 ?_
  refine gf_iconst C dd_Mo_takeOff_23 ?_
  refine gf_iast C dd_Mo_takeOff_24 (show gf_is 81 71 1 0 392 by decide) (by omega) (by omega) ?_
  refine gf_nmM (fun m24 hm24 => ?_)
  refine gf_vret C hQ dd_Mo_takeOff_25 ?_
  rw [hm24, e1, hm9]
  rfl

theorem dd_Mo_add_0 : decode cc_Mo_add 0 = .ok (.iload_n 1, 1) := by decide +kernel
theorem dd_Mo_add_1 : decode cc_Mo_add 1 = .ok (.invokestatic 198, 3) := by decide +kernel
theorem dd_Mo_add_4 : decode cc_Mo_add 4 = .ok (.ifCond .ne 5, 3) := by decide +kernel
theorem dd_Mo_add_7 : decode cc_Mo_add 7 = .ok (.iconst (-1), 1) := by decide +kernel
theorem dd_Mo_add_8 : decode cc_Mo_add 8 = .ok (.ireturn, 1) := by decide +kernel
theorem dd_Mo_add_9 : decode cc_Mo_add 9 = .ok (.aload_n 0, 1) := by decide +kernel
theorem dd_Mo_add_10 : decode cc_Mo_add 10 = .ok (.getfield 30, 3) := by decide +kernel
theorem dd_Mo_add_13 : decode cc_Mo_add 13 = .ok (.iconst 0, 1) := by decide +kernel
theorem dd_Mo_add_14 : decode cc_Mo_add 14 = .ok (.iaload, 1) := by decide +kernel
theorem dd_Mo_add_15 : decode cc_Mo_add 15 = .ok (.ifCond .eq 14, 3) := by decide +kernel
theorem dd_Mo_add_18 : decode cc_Mo_add 18 = .ok (.aload_n 0, 1) := by decide +kernel
theorem dd_Mo_add_19 : decode cc_Mo_add 19 = .ok (.getfield 30, 3) := by decide +kernel
theorem dd_Mo_add_22 : decode cc_Mo_add 22 = .ok (.iconst 1, 1) := by decide +kernel
theorem dd_Mo_add_23 : decode cc_Mo_add 23 = .ok (.iaload, 1) := by decide +kernel
theorem dd_Mo_add_24 : decode cc_Mo_add 24 = .ok (.bipush 8, 2) := by decide +kernel
theorem dd_Mo_add_26 : decode cc_Mo_add 26 = .ok (.if_icmp .ne 6, 3) := by decide +kernel
theorem dd_Mo_add_29 : decode cc_Mo_add 29 = .ok (.bipush (-4), 2) := by decide +kernel
theorem dd_Mo_add_31 : decode cc_Mo_add 31 = .ok (.ireturn, 1) := by decide +kernel
theorem dd_Mo_add_32 : decode cc_Mo_add 32 = .ok (.aload_n 0, 1) := by decide +kernel
theorem dd_Mo_add_33 : decode cc_Mo_add 33 = .ok (.getfield 30, 3) := by decide +kernel
theorem dd_Mo_add_36 : decode cc_Mo_add 36 = .ok (.iconst 2, 1) := by decide +kernel
theorem dd_Mo_add_37 : decode cc_Mo_add 37 = .ok (.iaload, 1) := by decide +kernel
theorem dd_Mo_add_38 : decode cc_Mo_add 38 = .ok (.bipush 40, 2) := by decide +kernel
theorem dd_Mo_add_40 : decode cc_Mo_add 40 = .ok (.if_icmp .ne 6, 3) := by decide +kernel
theorem dd_Mo_add_43 : decode cc_Mo_add 43 = .ok (.bipush (-2), 2) := by decide +kernel
theorem dd_Mo_add_45 : decode cc_Mo_add 45 = .ok (.ireturn, 1) := by decide +kernel
theorem dd_Mo_add_46 : decode cc_Mo_add 46 = .ok (.aload_n 0, 1) := by decide +kernel
theorem dd_Mo_add_47 : decode cc_Mo_add 47 = .ok (.invokevirtual 201, 3) := by decide +kernel
theorem dd_Mo_add_50 : decode cc_Mo_add 50 = .ok (.aload_n 0, 1) := by decide +kernel
theorem dd_Mo_add_51 : decode cc_Mo_add 51 = .ok (.iload_n 1, 1) := by decide +kernel
theorem dd_Mo_add_52 : decode cc_Mo_add 52 = .ok (.invokevirtual 204, 3) := by decide +kernel
theorem dd_Mo_add_55 : decode cc_Mo_add 55 = .ok (.aload_n 0, 1) := by decide +kernel
theorem dd_Mo_add_56 : decode cc_Mo_add 56 = .ok (.getfield 30, 3) := by decide +kernel
theorem dd_Mo_add_59 : decode cc_Mo_add 59 = .ok (.iconst 1, 1) := by decide +kernel
theorem dd_Mo_add_60 : decode cc_Mo_add 60 = .ok (.iaload, 1) := by decide +kernel
theorem dd_Mo_add_61 : decode cc_Mo_add 61 = .ok (.ireturn, 1) := by decide +kernel
set_option maxRecDepth 100000 in
set_option maxHeartbeats 4000000 in
theorem ct_Mo_add (l : Launch) (E : gf_E) (f : Int) (μ : gf_M) (hf : gf_R f) (hc : 0 ≤ μ 71 0 ∧ μ 71 0 ≤ 7) (hn : 0 ≤ μ 71 1 ∧ μ 71 1 ≤ 8) (hd : 0 ≤ μ 71 2 ∧ μ 71 2 ≤ 40)  : gf_Mi l E yy_Mo_add cc_Mo_add 2 .int (gf_rm 2 45) 81 gf_ref μ [.ref (gf_ad E 65), .int (gf_i f)] (fun q μ' => (¬ (0 ≤ f ∧ f < 10) → q = -1 ∧ μ' = μ) ∧ (0 ≤ f ∧ f < 10 → (μ 71 0 = 0 ∨ μ 71 1 = 8 → q = -4 ∧ μ' = μ) ∧ (μ 71 0 ≠ 0 ∧ μ 71 1 < 8 → (μ 71 2 = 40 → q = -2 ∧ μ' = μ) ∧ (μ 71 2 < 40 → q = μ 71 1 + 1 ∧ μ' = gm_app (gm_nt μ) f)))) := by
  refine gf_mi (by decide +kernel) (Nat.le_of_ble_eq_true rfl) (by decide) (fun X Q hlx C hQ => ?_)
  subst hlx
  replace C : gf_C X E cc_Mo_add 2 "GuardFiguresModel" (gf_rm 2 45) := C
  show gf_G X E Q 2 gf_φ μ 0 [(0, .ref (gf_ad E 65)), (1, .int (gf_i f))] []
  refine gf_iload_n C dd_Mo_add_0 1 rfl ?_
  refine gf_callSi (st := []) (As := [.int (gf_i f)]) C wk_Mo_198 (ct_Mo_isFigure (gf_xl X) E f μ (by omega)) rfl ⟨rfl, rfl, rfl, rfl⟩ (Nat.le_of_ble_eq_true rfl) rfl dd_Mo_add_1 (fun r1 m1 hR1 hp1 => ?_)
  have hr1 := hp1.1
  refine gf_pm hp1.2 ?_
  refine gf_if_ne 9 C dd_Mo_add_4 (by decide) (by omega) (fun h4 => ?_) (fun h4 => ?_)
  · skip
    refine gf_aload_n C dd_Mo_add_9 0 rfl ?_
    refine gf_getA (r := 71) C gf_cl7 fl_Mo_30 dd_Mo_add_10 rfl (show gf_is 81 65 0 7 26 by decide) (by decide) (by decide) ?_
    refine gf_iconst C dd_Mo_add_13 ?_
    refine gf_iald C dd_Mo_add_14 (show gf_is 81 71 1 0 392 by decide) (by omega) (fun hv14 => ?_)
    refine gf_if_eq 29 C dd_Mo_add_15 (by decide) (by omega) (fun h15 => ?_) (fun h15 => ?_)
    · skip
      refine gf_bipush C dd_Mo_add_29 (by decide +kernel) ?_
      refine gf_iret C hQ dd_Mo_add_31 (by omega) ?_
      exact ⟨fun h => absurd h (by omega), fun _ => ⟨fun _ => ⟨rfl, rfl⟩, fun h => absurd h (by omega)⟩⟩
    · skip
      refine gf_aload_n C dd_Mo_add_18 0 rfl ?_
      refine gf_getA (r := 71) C gf_cl7 fl_Mo_30 dd_Mo_add_19 rfl (show gf_is 81 65 0 7 26 by decide) (by decide) (by decide) ?_
      refine gf_iconst C dd_Mo_add_22 ?_
      refine gf_iald C dd_Mo_add_23 (show gf_is 81 71 1 0 392 by decide) (by omega) (fun hv23 => ?_)
      refine gf_bipush C dd_Mo_add_24 (by decide +kernel) ?_
      refine gf_icmp_ne 32 C dd_Mo_add_26 (by decide) (by omega) (by omega) (fun h26 => ?_) (fun h26 => ?_)
      · skip
        refine gf_aload_n C dd_Mo_add_32 0 rfl ?_
        refine gf_getA (r := 71) C gf_cl7 fl_Mo_30 dd_Mo_add_33 rfl (show gf_is 81 65 0 7 26 by decide) (by decide) (by decide) ?_
        refine gf_iconst C dd_Mo_add_36 ?_
        refine gf_iald C dd_Mo_add_37 (show gf_is 81 71 1 0 392 by decide) (by omega) (fun hv37 => ?_)
        refine gf_bipush C dd_Mo_add_38 (by decide +kernel) ?_
        refine gf_icmp_ne 46 C dd_Mo_add_40 (by decide) (by omega) (by omega) (fun h40 => ?_) (fun h40 => ?_)
        · skip
          refine gf_aload_n C dd_Mo_add_46 0 rfl ?_
          refine gf_callVv (st := []) (As := []) C wk_Mo_201 gf_cl7 (show gf_is 81 65 0 7 26 by decide) (ct_Mo_note (gf_xl X) E μ (by omega) (by omega)) rfl ⟨rfl, rfl, rfl, rfl⟩ (Nat.le_of_ble_eq_true rfl) rfl dd_Mo_add_47 (fun m47 hp47 => ?_)
          have n1 : m47 71 1 = μ 71 1 := by rw [hp47]; exact gm_nt_b (by omega) (by omega)
          have nf : ∀ j : Int, 0 ≤ j → j < 8 → m47 71 (24 + j) = μ 71 (24 + j) := fun j h0 h1 => by rw [hp47]; exact gm_nt_b (by omega) (by omega)
          refine gf_aload_n C dd_Mo_add_50 0 rfl ?_
          refine gf_iload_n C dd_Mo_add_51 1 rfl ?_
          refine gf_callVv (st := []) (As := [.int (gf_i f)]) C wk_Mo_204 gf_cl7 (show gf_is 81 65 0 7 26 by decide) (ct_Mo_append (gf_xl X) E f m47 (by omega) (by omega)) rfl ⟨rfl, rfl, rfl, rfl⟩ (Nat.le_of_ble_eq_true rfl) rfl dd_Mo_add_52 (fun m52 hp52 => ?_)
          have e1 : m52 71 1 = μ 71 1 + 1 := by rw [hp52]; unfold gm_app; rw [gf_up_s, n1]
          refine gf_aload_n C dd_Mo_add_55 0 rfl ?_
          refine gf_getA (r := 71) C gf_cl7 fl_Mo_30 dd_Mo_add_56 rfl (show gf_is 81 65 0 7 26 by decide) (by decide) (by decide) ?_
          refine gf_iconst C dd_Mo_add_59 ?_
          refine gf_iald C dd_Mo_add_60 (show gf_is 81 71 1 0 392 by decide) (by omega) (fun hv60 => ?_)
          refine gf_iret C hQ dd_Mo_add_61 (by omega) ?_
          exact ⟨fun h => absurd h (by omega), fun _ => ⟨fun h => absurd h (by omega), fun _ => ⟨fun h => absurd h (by omega), fun _ => ⟨e1, by rw [hp52, hp47]⟩⟩⟩⟩
        · skip
          refine gf_bipush C dd_Mo_add_43 (by decide +kernel) ?_
          refine gf_iret C hQ dd_Mo_add_45 (by omega) ?_
          exact ⟨fun h => absurd h (by omega), fun _ => ⟨fun h => absurd h (by omega), fun _ => ⟨fun _ => ⟨rfl, rfl⟩, fun h => absurd h (by omega)⟩⟩⟩
      · skip
        refine gf_bipush C dd_Mo_add_29 (by decide +kernel) ?_
        refine gf_iret C hQ dd_Mo_add_31 (by omega) ?_
        exact ⟨fun h => absurd h (by omega), fun _ => ⟨fun _ => ⟨rfl, rfl⟩, fun h => absurd h (by omega)⟩⟩
  · skip
    refine gf_iconst C dd_Mo_add_7 ?_
    refine gf_iret C hQ dd_Mo_add_8 (by omega) ?_
    exact ⟨fun _ => ⟨rfl, rfl⟩, fun h => absurd h (by omega)⟩

theorem dd_Mo_drop_0 : decode cc_Mo_drop 0 = .ok (.aload_n 0, 1) := by decide +kernel
theorem dd_Mo_drop_1 : decode cc_Mo_drop 1 = .ok (.getfield 30, 3) := by decide +kernel
theorem dd_Mo_drop_4 : decode cc_Mo_drop 4 = .ok (.iconst 1, 1) := by decide +kernel
theorem dd_Mo_drop_5 : decode cc_Mo_drop 5 = .ok (.iaload, 1) := by decide +kernel
theorem dd_Mo_drop_6 : decode cc_Mo_drop 6 = .ok (.ifCond .ne 6, 3) := by decide +kernel
theorem dd_Mo_drop_9 : decode cc_Mo_drop 9 = .ok (.bipush (-4), 2) := by decide +kernel
theorem dd_Mo_drop_11 : decode cc_Mo_drop 11 = .ok (.ireturn, 1) := by decide +kernel
theorem dd_Mo_drop_12 : decode cc_Mo_drop 12 = .ok (.aload_n 0, 1) := by decide +kernel
theorem dd_Mo_drop_13 : decode cc_Mo_drop 13 = .ok (.getfield 30, 3) := by decide +kernel
theorem dd_Mo_drop_16 : decode cc_Mo_drop 16 = .ok (.iconst 2, 1) := by decide +kernel
theorem dd_Mo_drop_17 : decode cc_Mo_drop 17 = .ok (.iaload, 1) := by decide +kernel
theorem dd_Mo_drop_18 : decode cc_Mo_drop 18 = .ok (.bipush 40, 2) := by decide +kernel
theorem dd_Mo_drop_20 : decode cc_Mo_drop 20 = .ok (.if_icmp .ne 6, 3) := by decide +kernel
theorem dd_Mo_drop_23 : decode cc_Mo_drop 23 = .ok (.bipush (-2), 2) := by decide +kernel
theorem dd_Mo_drop_25 : decode cc_Mo_drop 25 = .ok (.ireturn, 1) := by decide +kernel
theorem dd_Mo_drop_26 : decode cc_Mo_drop 26 = .ok (.aload_n 0, 1) := by decide +kernel
theorem dd_Mo_drop_27 : decode cc_Mo_drop 27 = .ok (.invokevirtual 201, 3) := by decide +kernel
theorem dd_Mo_drop_30 : decode cc_Mo_drop 30 = .ok (.aload_n 0, 1) := by decide +kernel
theorem dd_Mo_drop_31 : decode cc_Mo_drop 31 = .ok (.getfield 30, 3) := by decide +kernel
theorem dd_Mo_drop_34 : decode cc_Mo_drop 34 = .ok (.bipush 24, 2) := by decide +kernel
theorem dd_Mo_drop_36 : decode cc_Mo_drop 36 = .ok (.aload_n 0, 1) := by decide +kernel
theorem dd_Mo_drop_37 : decode cc_Mo_drop 37 = .ok (.getfield 30, 3) := by decide +kernel
theorem dd_Mo_drop_40 : decode cc_Mo_drop 40 = .ok (.iconst 1, 1) := by decide +kernel
theorem dd_Mo_drop_41 : decode cc_Mo_drop 41 = .ok (.iaload, 1) := by decide +kernel
theorem dd_Mo_drop_42 : decode cc_Mo_drop 42 = .ok (.iadd, 1) := by decide +kernel
theorem dd_Mo_drop_43 : decode cc_Mo_drop 43 = .ok (.iconst 1, 1) := by decide +kernel
theorem dd_Mo_drop_44 : decode cc_Mo_drop 44 = .ok (.isub, 1) := by decide +kernel
theorem dd_Mo_drop_45 : decode cc_Mo_drop 45 = .ok (.iaload, 1) := by decide +kernel
theorem dd_Mo_drop_46 : decode cc_Mo_drop 46 = .ok (.istore_n 1, 1) := by decide +kernel
theorem dd_Mo_drop_47 : decode cc_Mo_drop 47 = .ok (.aload_n 0, 1) := by decide +kernel
theorem dd_Mo_drop_48 : decode cc_Mo_drop 48 = .ok (.invokevirtual 207, 3) := by decide +kernel
theorem dd_Mo_drop_51 : decode cc_Mo_drop 51 = .ok (.iload_n 1, 1) := by decide +kernel
theorem dd_Mo_drop_52 : decode cc_Mo_drop 52 = .ok (.ireturn, 1) := by decide +kernel
set_option maxRecDepth 100000 in
set_option maxHeartbeats 4000000 in
theorem ct_Mo_drop (l : Launch) (E : gf_E) (μ : gf_M) (hn : 0 ≤ μ 71 1 ∧ μ 71 1 ≤ 8) (hd : 0 ≤ μ 71 2 ∧ μ 71 2 ≤ 40)  : gf_Mi l E yy_Mo_drop cc_Mo_drop 2 .int (gf_rm 1 22) 81 gf_ref μ [.ref (gf_ad E 65)] (fun q μ' => (μ 71 1 = 0 → q = -4 ∧ μ' = μ) ∧ (μ 71 1 ≠ 0 → (μ 71 2 = 40 → q = -2 ∧ μ' = μ) ∧ (μ 71 2 < 40 → q = μ 71 (24 + (μ 71 1 - 1)) ∧ μ' = gm_off (gm_nt μ)))) := by
  refine gf_mi (by decide +kernel) (Nat.le_of_ble_eq_true rfl) (by decide) (fun X Q hlx C hQ => ?_)
  subst hlx
  replace C : gf_C X E cc_Mo_drop 2 "GuardFiguresModel" (gf_rm 1 22) := C
  show gf_G X E Q 2 gf_φ μ 0 [(0, .ref (gf_ad E 65))] []
  refine gf_aload_n C dd_Mo_drop_0 0 rfl ?_
  refine gf_getA (r := 71) C gf_cl7 fl_Mo_30 dd_Mo_drop_1 rfl (show gf_is 81 65 0 7 26 by decide) (by decide) (by decide) ?_
  refine gf_iconst C dd_Mo_drop_4 ?_
  refine gf_iald C dd_Mo_drop_5 (show gf_is 81 71 1 0 392 by decide) (by omega) (fun hv5 => ?_)
  refine gf_if_ne 12 C dd_Mo_drop_6 (by decide) (by omega) (fun h6 => ?_) (fun h6 => ?_)
  · skip
    refine gf_aload_n C dd_Mo_drop_12 0 rfl ?_
    refine gf_getA (r := 71) C gf_cl7 fl_Mo_30 dd_Mo_drop_13 rfl (show gf_is 81 65 0 7 26 by decide) (by decide) (by decide) ?_
    refine gf_iconst C dd_Mo_drop_16 ?_
    refine gf_iald C dd_Mo_drop_17 (show gf_is 81 71 1 0 392 by decide) (by omega) (fun hv17 => ?_)
    refine gf_bipush C dd_Mo_drop_18 (by decide +kernel) ?_
    refine gf_icmp_ne 26 C dd_Mo_drop_20 (by decide) (by omega) (by omega) (fun h20 => ?_) (fun h20 => ?_)
    · skip
      refine gf_aload_n C dd_Mo_drop_26 0 rfl ?_
      refine gf_callVv (st := []) (As := []) C wk_Mo_201 gf_cl7 (show gf_is 81 65 0 7 26 by decide) (ct_Mo_note (gf_xl X) E μ (by omega) (by omega)) rfl ⟨rfl, rfl, rfl, rfl⟩ (Nat.le_of_ble_eq_true rfl) rfl dd_Mo_drop_27 (fun m27 hp27 => ?_)
      have n1 : m27 71 1 = μ 71 1 := by rw [hp27]; exact gm_nt_b (by omega) (by omega)
      have nf : ∀ j : Int, 0 ≤ j → j < 8 → m27 71 (24 + j) = μ 71 (24 + j) := fun j h0 h1 => by rw [hp27]; exact gm_nt_b (by omega) (by omega)
      refine gf_aload_n C dd_Mo_drop_30 0 rfl ?_
      refine gf_getA (r := 71) C gf_cl7 fl_Mo_30 dd_Mo_drop_31 rfl (show gf_is 81 65 0 7 26 by decide) (by decide) (by decide) ?_
      refine gf_bipush C dd_Mo_drop_34 (by decide +kernel) ?_
      refine gf_aload_n C dd_Mo_drop_36 0 rfl ?_
      refine gf_getA (r := 71) C gf_cl7 fl_Mo_30 dd_Mo_drop_37 rfl (show gf_is 81 65 0 7 26 by decide) (by decide) (by decide) ?_
      refine gf_iconst C dd_Mo_drop_40 ?_
      refine gf_iald C dd_Mo_drop_41 (show gf_is 81 71 1 0 392 by decide) (by omega) (fun hv41 => ?_)
      refine gf_iadd C dd_Mo_drop_42 ?_
      refine gf_iconst C dd_Mo_drop_43 ?_
      refine gf_isub C dd_Mo_drop_44 ?_
      refine gf_iald C dd_Mo_drop_45 (show gf_is 81 71 1 0 392 by decide) (by omega) (fun hv45 => ?_)
      refine gf_nm (fun x46 hx46 => ?_)
      refine gf_istore_n (lv' := [(1, .int (gf_i x46)), (0, .ref (gf_ad E 65))]) C dd_Mo_drop_46 (by decide) rfl ?_
      refine gf_aload_n C dd_Mo_drop_47 1 rfl ?_
      refine gf_callVv (st := []) (As := []) C wk_Mo_207 gf_cl7 (show gf_is 81 65 0 7 26 by decide) (ct_Mo_takeOff (gf_xl X) E m27 (by omega)) rfl ⟨rfl, rfl, rfl, rfl⟩ (Nat.le_of_ble_eq_true rfl) rfl dd_Mo_drop_48 (fun m48 hp48 => ?_)
      refine gf_iload_n C dd_Mo_drop_51 0 rfl ?_
      refine gf_iret C hQ dd_Mo_drop_52 (by omega) ?_
      refine ⟨fun h => absurd h (by omega), fun _ => ⟨fun h => absurd h (by omega), fun _ => ⟨?_, by rw [hp48, hp27]⟩⟩⟩
      rw [hx46, n1, show 24 + μ 71 1 - 1 = 24 + (μ 71 1 - 1) by omega]
      exact nf _ (by omega) (by omega)
    · skip
      refine gf_bipush C dd_Mo_drop_23 (by decide +kernel) ?_
      refine gf_iret C hQ dd_Mo_drop_25 (by omega) ?_
      exact ⟨fun h => absurd h (by omega), fun _ => ⟨fun _ => ⟨rfl, rfl⟩, fun h => absurd h (by omega)⟩⟩
  · skip
    refine gf_bipush C dd_Mo_drop_9 (by decide +kernel) ?_
    refine gf_iret C hQ dd_Mo_drop_11 (by omega) ?_
    exact ⟨fun _ => ⟨rfl, rfl⟩, fun h => absurd h (by omega)⟩

theorem dd_Mo_change_0 : decode cc_Mo_change 0 = .ok (.iload_n 1, 1) := by decide +kernel
theorem dd_Mo_change_1 : decode cc_Mo_change 1 = .ok (.i2l, 1) := by decide +kernel
theorem dd_Mo_change_2 : decode cc_Mo_change 2 = .ok (.lconst 0, 1) := by decide +kernel
theorem dd_Mo_change_3 : decode cc_Mo_change 3 = .ok (.aload_n 0, 1) := by decide +kernel
theorem dd_Mo_change_4 : decode cc_Mo_change 4 = .ok (.getfield 30, 3) := by decide +kernel
theorem dd_Mo_change_7 : decode cc_Mo_change 7 = .ok (.iconst 1, 1) := by decide +kernel
theorem dd_Mo_change_8 : decode cc_Mo_change 8 = .ok (.iaload, 1) := by decide +kernel
theorem dd_Mo_change_9 : decode cc_Mo_change 9 = .ok (.iconst 1, 1) := by decide +kernel
theorem dd_Mo_change_10 : decode cc_Mo_change 10 = .ok (.isub, 1) := by decide +kernel
theorem dd_Mo_change_11 : decode cc_Mo_change 11 = .ok (.i2l, 1) := by decide +kernel
theorem dd_Mo_change_12 : decode cc_Mo_change 12 = .ok (.invokestatic 69, 3) := by decide +kernel
theorem dd_Mo_change_15 : decode cc_Mo_change 15 = .ok (.ifCond .eq 10, 3) := by decide +kernel
theorem dd_Mo_change_18 : decode cc_Mo_change 18 = .ok (.iload_n 2, 1) := by decide +kernel
theorem dd_Mo_change_19 : decode cc_Mo_change 19 = .ok (.invokestatic 198, 3) := by decide +kernel
theorem dd_Mo_change_22 : decode cc_Mo_change 22 = .ok (.ifCond .ne 5, 3) := by decide +kernel
theorem dd_Mo_change_25 : decode cc_Mo_change 25 = .ok (.iconst (-1), 1) := by decide +kernel
theorem dd_Mo_change_26 : decode cc_Mo_change 26 = .ok (.ireturn, 1) := by decide +kernel
theorem dd_Mo_change_27 : decode cc_Mo_change 27 = .ok (.aload_n 0, 1) := by decide +kernel
theorem dd_Mo_change_28 : decode cc_Mo_change 28 = .ok (.getfield 30, 3) := by decide +kernel
theorem dd_Mo_change_31 : decode cc_Mo_change 31 = .ok (.bipush 24, 2) := by decide +kernel
theorem dd_Mo_change_33 : decode cc_Mo_change 33 = .ok (.iload_n 1, 1) := by decide +kernel
theorem dd_Mo_change_34 : decode cc_Mo_change 34 = .ok (.iadd, 1) := by decide +kernel
theorem dd_Mo_change_35 : decode cc_Mo_change 35 = .ok (.iaload, 1) := by decide +kernel
theorem dd_Mo_change_36 : decode cc_Mo_change 36 = .ok (.istore_n 3, 1) := by decide +kernel
theorem dd_Mo_change_37 : decode cc_Mo_change 37 = .ok (.iload_n 3, 1) := by decide +kernel
theorem dd_Mo_change_38 : decode cc_Mo_change 38 = .ok (.iload_n 2, 1) := by decide +kernel
theorem dd_Mo_change_39 : decode cc_Mo_change 39 = .ok (.if_icmp .ne 6, 3) := by decide +kernel
theorem dd_Mo_change_42 : decode cc_Mo_change 42 = .ok (.bipush (-4), 2) := by decide +kernel
theorem dd_Mo_change_44 : decode cc_Mo_change 44 = .ok (.ireturn, 1) := by decide +kernel
theorem dd_Mo_change_45 : decode cc_Mo_change 45 = .ok (.aload_n 0, 1) := by decide +kernel
theorem dd_Mo_change_46 : decode cc_Mo_change 46 = .ok (.getfield 30, 3) := by decide +kernel
theorem dd_Mo_change_49 : decode cc_Mo_change 49 = .ok (.iconst 2, 1) := by decide +kernel
theorem dd_Mo_change_50 : decode cc_Mo_change 50 = .ok (.iaload, 1) := by decide +kernel
theorem dd_Mo_change_51 : decode cc_Mo_change 51 = .ok (.bipush 40, 2) := by decide +kernel
theorem dd_Mo_change_53 : decode cc_Mo_change 53 = .ok (.if_icmp .ne 6, 3) := by decide +kernel
theorem dd_Mo_change_56 : decode cc_Mo_change 56 = .ok (.bipush (-2), 2) := by decide +kernel
theorem dd_Mo_change_58 : decode cc_Mo_change 58 = .ok (.ireturn, 1) := by decide +kernel
theorem dd_Mo_change_59 : decode cc_Mo_change 59 = .ok (.aload_n 0, 1) := by decide +kernel
theorem dd_Mo_change_60 : decode cc_Mo_change 60 = .ok (.invokevirtual 201, 3) := by decide +kernel
theorem dd_Mo_change_63 : decode cc_Mo_change 63 = .ok (.aload_n 0, 1) := by decide +kernel
theorem dd_Mo_change_64 : decode cc_Mo_change 64 = .ok (.getfield 30, 3) := by decide +kernel
theorem dd_Mo_change_67 : decode cc_Mo_change 67 = .ok (.bipush 24, 2) := by decide +kernel
theorem dd_Mo_change_69 : decode cc_Mo_change 69 = .ok (.iload_n 1, 1) := by decide +kernel
theorem dd_Mo_change_70 : decode cc_Mo_change 70 = .ok (.iadd, 1) := by decide +kernel
theorem dd_Mo_change_71 : decode cc_Mo_change 71 = .ok (.iload_n 2, 1) := by decide +kernel
theorem dd_Mo_change_72 : decode cc_Mo_change 72 = .ok (.iastore, 1) := by decide +kernel
theorem dd_Mo_change_73 : decode cc_Mo_change 73 = .ok (.iload_n 3, 1) := by decide +kernel
theorem dd_Mo_change_74 : decode cc_Mo_change 74 = .ok (.ireturn, 1) := by decide +kernel
set_option maxRecDepth 100000 in
set_option maxHeartbeats 4000000 in
theorem ct_Mo_change (l : Launch) (E : gf_E) (k f : Int) (μ : gf_M) (hk : gf_R k) (hf : gf_R f) (hn : 0 ≤ μ 71 1 ∧ μ 71 1 ≤ 8) (hd : 0 ≤ μ 71 2 ∧ μ 71 2 ≤ 40)  : gf_Mi l E yy_Mo_change cc_Mo_change 4 .int (gf_rm 2 45) 81 gf_ref μ [.ref (gf_ad E 65), .int (gf_i k), .int (gf_i f)] (fun q μ' => (¬ (0 ≤ k ∧ k < μ 71 1 ∧ 0 ≤ f ∧ f < 10) → q = -1 ∧ μ' = μ) ∧ (0 ≤ k ∧ k < μ 71 1 ∧ 0 ≤ f ∧ f < 10 → (μ 71 (24 + k) = f → q = -4 ∧ μ' = μ) ∧ (μ 71 (24 + k) ≠ f → (μ 71 2 = 40 → q = -2 ∧ μ' = μ) ∧ (μ 71 2 < 40 → q = μ 71 (24 + k) ∧ μ' = gf_up (gm_nt μ) 71 (24 + k) f)))) := by
  refine gf_mi (by decide +kernel) (Nat.le_of_ble_eq_true rfl) (by decide) (fun X Q hlx C hQ => ?_)
  subst hlx
  replace C : gf_C X E cc_Mo_change 4 "GuardFiguresModel" (gf_rm 2 45) := C
  show gf_G X E Q 4 gf_φ μ 0 [(0, .ref (gf_ad E 65)), (1, .int (gf_i k)), (2, .int (gf_i f))] []
  refine gf_iload_n C dd_Mo_change_0 1 rfl ?_
  refine gf_gi2l C dd_Mo_change_1 (by omega) ?_
  refine gf_lconst 0 C dd_Mo_change_2 (by decide +kernel) ?_
  refine gf_aload_n C dd_Mo_change_3 0 rfl ?_
  refine gf_getA (r := 71) C gf_cl7 fl_Mo_30 dd_Mo_change_4 rfl (show gf_is 81 65 0 7 26 by decide) (by decide) (by decide) ?_
  refine gf_iconst C dd_Mo_change_7 ?_
  refine gf_iald C dd_Mo_change_8 (show gf_is 81 71 1 0 392 by decide) (by omega) (fun hv8 => ?_)
  refine gf_iconst C dd_Mo_change_9 ?_
  refine gf_isub C dd_Mo_change_10 ?_
  refine gf_gi2l C dd_Mo_change_11 (by omega) ?_
  refine gf_callSi (st := []) (As := [.long (gf_l k), .long (gf_l 0), .long (gf_l ((μ 71 1) - 1))]) C wk_Mo_69 (ct_Mo_in (gf_xl X) E k 0 ((μ 71 1) - 1) μ (by omega) (by omega) (by omega)) rfl ⟨rfl, rfl, rfl, rfl⟩ (Nat.le_of_ble_eq_true rfl) rfl dd_Mo_change_12 (fun r12 m12 hR12 hp12 => ?_)
  have hr12 := hp12.1
  refine gf_pm hp12.2 ?_
  refine gf_if_eq 25 C dd_Mo_change_15 (by decide) (by omega) (fun h15 => ?_) (fun h15 => ?_)
  · skip
    refine gf_iconst C dd_Mo_change_25 ?_
    refine gf_iret C hQ dd_Mo_change_26 (by omega) ?_
    exact ⟨fun _ => ⟨rfl, rfl⟩, fun h => absurd h (by omega)⟩
  · skip
    refine gf_iload_n C dd_Mo_change_18 2 rfl ?_
    refine gf_callSi (st := []) (As := [.int (gf_i f)]) C wk_Mo_198 (ct_Mo_isFigure (gf_xl X) E f μ (by omega)) rfl ⟨rfl, rfl, rfl, rfl⟩ (Nat.le_of_ble_eq_true rfl) rfl dd_Mo_change_19 (fun r19 m19 hR19 hp19 => ?_)
    have hr19 := hp19.1
    refine gf_pm hp19.2 ?_
    refine gf_if_ne 27 C dd_Mo_change_22 (by decide) (by omega) (fun h22 => ?_) (fun h22 => ?_)
    · skip
      have hin : 0 ≤ k ∧ k < μ 71 1 ∧ 0 ≤ f ∧ f < 10 := by omega
      clear hr12 hr19 hp12 hp19
      refine gf_aload_n C dd_Mo_change_27 0 rfl ?_
      refine gf_getA (r := 71) C gf_cl7 fl_Mo_30 dd_Mo_change_28 rfl (show gf_is 81 65 0 7 26 by decide) (by decide) (by decide) ?_
      refine gf_bipush C dd_Mo_change_31 (by decide +kernel) ?_
      refine gf_iload_n C dd_Mo_change_33 1 rfl ?_
      refine gf_iadd C dd_Mo_change_34 ?_
      refine gf_iald C dd_Mo_change_35 (show gf_is 81 71 1 0 392 by decide) (by omega) (fun hv35 => ?_)
      refine gf_nm (fun x36 hx36 => ?_)
      refine gf_istore_n (lv' := [(3, .int (gf_i x36)), (0, .ref (gf_ad E 65)), (1, .int (gf_i k)), (2, .int (gf_i f))]) C dd_Mo_change_36 (by decide) rfl ?_
      refine gf_iload_n C dd_Mo_change_37 0 rfl ?_
      refine gf_iload_n C dd_Mo_change_38 3 rfl ?_
      refine gf_icmp_ne 45 C dd_Mo_change_39 (by decide) (by omega) (by omega) (fun h39 => ?_) (fun h39 => ?_)
      · skip
        refine gf_aload_n C dd_Mo_change_45 1 rfl ?_
        refine gf_getA (r := 71) C gf_cl7 fl_Mo_30 dd_Mo_change_46 rfl (show gf_is 81 65 0 7 26 by decide) (by decide) (by decide) ?_
        refine gf_iconst C dd_Mo_change_49 ?_
        refine gf_iald C dd_Mo_change_50 (show gf_is 81 71 1 0 392 by decide) (by omega) (fun hv50 => ?_)
        refine gf_bipush C dd_Mo_change_51 (by decide +kernel) ?_
        refine gf_icmp_ne 59 C dd_Mo_change_53 (by decide) (by omega) (by omega) (fun h53 => ?_) (fun h53 => ?_)
        · skip
          refine gf_aload_n C dd_Mo_change_59 1 rfl ?_
          refine gf_callVv (st := []) (As := []) C wk_Mo_201 gf_cl7 (show gf_is 81 65 0 7 26 by decide) (ct_Mo_note (gf_xl X) E μ (by omega) (by omega)) rfl ⟨rfl, rfl, rfl, rfl⟩ (Nat.le_of_ble_eq_true rfl) rfl dd_Mo_change_60 (fun m60 hp60 => ?_)
          refine gf_aload_n C dd_Mo_change_63 1 rfl ?_
          refine gf_getA (r := 71) C gf_cl7 fl_Mo_30 dd_Mo_change_64 rfl (show gf_is 81 65 0 7 26 by decide) (by decide) (by decide) ?_
          refine gf_bipush C dd_Mo_change_67 (by decide +kernel) ?_
          refine gf_iload_n C dd_Mo_change_69 2 rfl ?_
          refine gf_iadd C dd_Mo_change_70 ?_
          refine gf_iload_n C dd_Mo_change_71 3 rfl ?_
          refine gf_iast C dd_Mo_change_72 (show gf_is 81 71 1 0 392 by decide) (by omega) (by omega) ?_
          refine gf_nmM (fun m72 hm72 => ?_)
          refine gf_iload_n C dd_Mo_change_73 0 rfl ?_
          refine gf_iret C hQ dd_Mo_change_74 (by omega) ?_
          exact ⟨fun h => absurd h (by omega), fun _ => ⟨fun h => absurd h (by omega), fun _ => ⟨fun h => absurd h (by omega), fun _ => ⟨hx36, by rw [hm72, hp60]⟩⟩⟩⟩
        · skip
          refine gf_bipush C dd_Mo_change_56 (by decide +kernel) ?_
          refine gf_iret C hQ dd_Mo_change_58 (by omega) ?_
          exact ⟨fun h => absurd h (by omega), fun _ => ⟨fun h => absurd h (by omega), fun _ => ⟨fun _ => ⟨rfl, rfl⟩, fun h => absurd h (by omega)⟩⟩⟩
      · skip
        refine gf_bipush C dd_Mo_change_42 (by decide +kernel) ?_
        refine gf_iret C hQ dd_Mo_change_44 (by omega) ?_
        exact ⟨fun h => absurd h (by omega), fun _ => ⟨fun _ => ⟨rfl, rfl⟩, fun h => absurd h (by omega)⟩⟩
    · skip
      refine gf_iconst C dd_Mo_change_25 ?_
      refine gf_iret C hQ dd_Mo_change_26 (by omega) ?_
      exact ⟨fun _ => ⟨rfl, rfl⟩, fun h => absurd h (by omega)⟩

theorem dd_Mo_swap_0 : decode cc_Mo_swap 0 = .ok (.iload_n 1, 1) := by decide +kernel
theorem dd_Mo_swap_1 : decode cc_Mo_swap 1 = .ok (.i2l, 1) := by decide +kernel
theorem dd_Mo_swap_2 : decode cc_Mo_swap 2 = .ok (.lconst 0, 1) := by decide +kernel
theorem dd_Mo_swap_3 : decode cc_Mo_swap 3 = .ok (.aload_n 0, 1) := by decide +kernel
theorem dd_Mo_swap_4 : decode cc_Mo_swap 4 = .ok (.getfield 30, 3) := by decide +kernel
theorem dd_Mo_swap_7 : decode cc_Mo_swap 7 = .ok (.iconst 1, 1) := by decide +kernel
theorem dd_Mo_swap_8 : decode cc_Mo_swap 8 = .ok (.iaload, 1) := by decide +kernel
theorem dd_Mo_swap_9 : decode cc_Mo_swap 9 = .ok (.iconst 2, 1) := by decide +kernel
theorem dd_Mo_swap_10 : decode cc_Mo_swap 10 = .ok (.isub, 1) := by decide +kernel
theorem dd_Mo_swap_11 : decode cc_Mo_swap 11 = .ok (.i2l, 1) := by decide +kernel
theorem dd_Mo_swap_12 : decode cc_Mo_swap 12 = .ok (.invokestatic 69, 3) := by decide +kernel
theorem dd_Mo_swap_15 : decode cc_Mo_swap 15 = .ok (.ifCond .ne 5, 3) := by decide +kernel
theorem dd_Mo_swap_18 : decode cc_Mo_swap 18 = .ok (.iconst (-1), 1) := by decide +kernel
theorem dd_Mo_swap_19 : decode cc_Mo_swap 19 = .ok (.ireturn, 1) := by decide +kernel
theorem dd_Mo_swap_20 : decode cc_Mo_swap 20 = .ok (.aload_n 0, 1) := by decide +kernel
theorem dd_Mo_swap_21 : decode cc_Mo_swap 21 = .ok (.getfield 30, 3) := by decide +kernel
theorem dd_Mo_swap_24 : decode cc_Mo_swap 24 = .ok (.iconst 2, 1) := by decide +kernel
theorem dd_Mo_swap_25 : decode cc_Mo_swap 25 = .ok (.iaload, 1) := by decide +kernel
theorem dd_Mo_swap_26 : decode cc_Mo_swap 26 = .ok (.bipush 40, 2) := by decide +kernel
theorem dd_Mo_swap_28 : decode cc_Mo_swap 28 = .ok (.if_icmp .ne 6, 3) := by decide +kernel
theorem dd_Mo_swap_31 : decode cc_Mo_swap 31 = .ok (.bipush (-2), 2) := by decide +kernel
theorem dd_Mo_swap_33 : decode cc_Mo_swap 33 = .ok (.ireturn, 1) := by decide +kernel
theorem dd_Mo_swap_34 : decode cc_Mo_swap 34 = .ok (.aload_n 0, 1) := by decide +kernel
theorem dd_Mo_swap_35 : decode cc_Mo_swap 35 = .ok (.invokevirtual 201, 3) := by decide +kernel
theorem dd_Mo_swap_38 : decode cc_Mo_swap 38 = .ok (.aload_n 0, 1) := by decide +kernel
theorem dd_Mo_swap_39 : decode cc_Mo_swap 39 = .ok (.getfield 30, 3) := by decide +kernel
theorem dd_Mo_swap_42 : decode cc_Mo_swap 42 = .ok (.bipush 24, 2) := by decide +kernel
theorem dd_Mo_swap_44 : decode cc_Mo_swap 44 = .ok (.iload_n 1, 1) := by decide +kernel
theorem dd_Mo_swap_45 : decode cc_Mo_swap 45 = .ok (.iadd, 1) := by decide +kernel
theorem dd_Mo_swap_46 : decode cc_Mo_swap 46 = .ok (.iaload, 1) := by decide +kernel
theorem dd_Mo_swap_47 : decode cc_Mo_swap 47 = .ok (.istore_n 2, 1) := by decide +kernel
theorem dd_Mo_swap_48 : decode cc_Mo_swap 48 = .ok (.aload_n 0, 1) := by decide +kernel
theorem dd_Mo_swap_49 : decode cc_Mo_swap 49 = .ok (.getfield 30, 3) := by decide +kernel
theorem dd_Mo_swap_52 : decode cc_Mo_swap 52 = .ok (.bipush 24, 2) := by decide +kernel
theorem dd_Mo_swap_54 : decode cc_Mo_swap 54 = .ok (.iload_n 1, 1) := by decide +kernel
theorem dd_Mo_swap_55 : decode cc_Mo_swap 55 = .ok (.iadd, 1) := by decide +kernel
theorem dd_Mo_swap_56 : decode cc_Mo_swap 56 = .ok (.aload_n 0, 1) := by decide +kernel
theorem dd_Mo_swap_57 : decode cc_Mo_swap 57 = .ok (.getfield 30, 3) := by decide +kernel
theorem dd_Mo_swap_60 : decode cc_Mo_swap 60 = .ok (.bipush 24, 2) := by decide +kernel
theorem dd_Mo_swap_62 : decode cc_Mo_swap 62 = .ok (.iload_n 1, 1) := by decide +kernel
theorem dd_Mo_swap_63 : decode cc_Mo_swap 63 = .ok (.iadd, 1) := by decide +kernel
theorem dd_Mo_swap_64 : decode cc_Mo_swap 64 = .ok (.iconst 1, 1) := by decide +kernel
theorem dd_Mo_swap_65 : decode cc_Mo_swap 65 = .ok (.iadd, 1) := by decide +kernel
theorem dd_Mo_swap_66 : decode cc_Mo_swap 66 = .ok (.iaload, 1) := by decide +kernel
theorem dd_Mo_swap_67 : decode cc_Mo_swap 67 = .ok (.iastore, 1) := by decide +kernel
theorem dd_Mo_swap_68 : decode cc_Mo_swap 68 = .ok (.aload_n 0, 1) := by decide +kernel
theorem dd_Mo_swap_69 : decode cc_Mo_swap 69 = .ok (.getfield 30, 3) := by decide +kernel
theorem dd_Mo_swap_72 : decode cc_Mo_swap 72 = .ok (.bipush 24, 2) := by decide +kernel
theorem dd_Mo_swap_74 : decode cc_Mo_swap 74 = .ok (.iload_n 1, 1) := by decide +kernel
theorem dd_Mo_swap_75 : decode cc_Mo_swap 75 = .ok (.iadd, 1) := by decide +kernel
theorem dd_Mo_swap_76 : decode cc_Mo_swap 76 = .ok (.iconst 1, 1) := by decide +kernel
theorem dd_Mo_swap_77 : decode cc_Mo_swap 77 = .ok (.iadd, 1) := by decide +kernel
theorem dd_Mo_swap_78 : decode cc_Mo_swap 78 = .ok (.iload_n 2, 1) := by decide +kernel
theorem dd_Mo_swap_79 : decode cc_Mo_swap 79 = .ok (.iastore, 1) := by decide +kernel
theorem dd_Mo_swap_80 : decode cc_Mo_swap 80 = .ok (.aload_n 0, 1) := by decide +kernel
theorem dd_Mo_swap_81 : decode cc_Mo_swap 81 = .ok (.getfield 30, 3) := by decide +kernel
theorem dd_Mo_swap_84 : decode cc_Mo_swap 84 = .ok (.bipush 24, 2) := by decide +kernel
theorem dd_Mo_swap_86 : decode cc_Mo_swap 86 = .ok (.iload_n 1, 1) := by decide +kernel
theorem dd_Mo_swap_87 : decode cc_Mo_swap 87 = .ok (.iadd, 1) := by decide +kernel
theorem dd_Mo_swap_88 : decode cc_Mo_swap 88 = .ok (.iaload, 1) := by decide +kernel
theorem dd_Mo_swap_89 : decode cc_Mo_swap 89 = .ok (.ireturn, 1) := by decide +kernel
set_option maxRecDepth 100000 in
set_option maxHeartbeats 4000000 in
theorem ct_Mo_swap (l : Launch) (E : gf_E) (k : Int) (μ : gf_M) (hk : gf_R k) (hn : 0 ≤ μ 71 1 ∧ μ 71 1 ≤ 8) (hd : 0 ≤ μ 71 2 ∧ μ 71 2 ≤ 40)  : gf_Mi l E yy_Mo_swap cc_Mo_swap 3 .int (gf_rm 1 25) 81 gf_ref μ [.ref (gf_ad E 65), .int (gf_i k)] (fun q μ' => (¬ (0 ≤ k ∧ k < μ 71 1 - 1) → q = -1 ∧ μ' = μ) ∧ (0 ≤ k ∧ k < μ 71 1 - 1 → (μ 71 2 = 40 → q = -2 ∧ μ' = μ) ∧ (μ 71 2 < 40 → q = μ 71 (24 + (k + 1)) ∧ μ' = gf_up (gf_up (gm_nt μ) 71 (24 + k) (μ 71 (24 + (k + 1)))) 71 (24 + (k + 1)) (μ 71 (24 + k))))) := by
  refine gf_mi (by decide +kernel) (Nat.le_of_ble_eq_true rfl) (by decide) (fun X Q hlx C hQ => ?_)
  subst hlx
  replace C : gf_C X E cc_Mo_swap 3 "GuardFiguresModel" (gf_rm 1 25) := C
  show gf_G X E Q 3 gf_φ μ 0 [(0, .ref (gf_ad E 65)), (1, .int (gf_i k))] []
  refine gf_iload_n C dd_Mo_swap_0 1 rfl ?_
  refine gf_gi2l C dd_Mo_swap_1 (by omega) ?_
  refine gf_lconst 0 C dd_Mo_swap_2 (by decide +kernel) ?_
  refine gf_aload_n C dd_Mo_swap_3 0 rfl ?_
  refine gf_getA (r := 71) C gf_cl7 fl_Mo_30 dd_Mo_swap_4 rfl (show gf_is 81 65 0 7 26 by decide) (by decide) (by decide) ?_
  refine gf_iconst C dd_Mo_swap_7 ?_
  refine gf_iald C dd_Mo_swap_8 (show gf_is 81 71 1 0 392 by decide) (by omega) (fun hv8 => ?_)
  refine gf_iconst C dd_Mo_swap_9 ?_
  refine gf_isub C dd_Mo_swap_10 ?_
  refine gf_gi2l C dd_Mo_swap_11 (by omega) ?_
  refine gf_callSi (st := []) (As := [.long (gf_l k), .long (gf_l 0), .long (gf_l ((μ 71 1) - 2))]) C wk_Mo_69 (ct_Mo_in (gf_xl X) E k 0 ((μ 71 1) - 2) μ (by omega) (by omega) (by omega)) rfl ⟨rfl, rfl, rfl, rfl⟩ (Nat.le_of_ble_eq_true rfl) rfl dd_Mo_swap_12 (fun r12 m12 hR12 hp12 => ?_)
  have hr12 := hp12.1
  refine gf_pm hp12.2 ?_
  refine gf_if_ne 20 C dd_Mo_swap_15 (by decide) (by omega) (fun h15 => ?_) (fun h15 => ?_)
  · skip
    refine gf_aload_n C dd_Mo_swap_20 0 rfl ?_
    refine gf_getA (r := 71) C gf_cl7 fl_Mo_30 dd_Mo_swap_21 rfl (show gf_is 81 65 0 7 26 by decide) (by decide) (by decide) ?_
    refine gf_iconst C dd_Mo_swap_24 ?_
    refine gf_iald C dd_Mo_swap_25 (show gf_is 81 71 1 0 392 by decide) (by omega) (fun hv25 => ?_)
    refine gf_bipush C dd_Mo_swap_26 (by decide +kernel) ?_
    refine gf_icmp_ne 34 C dd_Mo_swap_28 (by decide) (by omega) (by omega) (fun h28 => ?_) (fun h28 => ?_)
    · skip
      refine gf_aload_n C dd_Mo_swap_34 0 rfl ?_
      refine gf_callVv (st := []) (As := []) C wk_Mo_201 gf_cl7 (show gf_is 81 65 0 7 26 by decide) (ct_Mo_note (gf_xl X) E μ (by omega) (by omega)) rfl ⟨rfl, rfl, rfl, rfl⟩ (Nat.le_of_ble_eq_true rfl) rfl dd_Mo_swap_35 (fun m35 hp35 => ?_)
      have n1 : m35 71 1 = μ 71 1 := by rw [hp35]; exact gm_nt_b (by omega) (by omega)
      have nf : ∀ j : Int, 0 ≤ j → j < 8 → m35 71 (24 + j) = μ 71 (24 + j) := fun j h0 h1 => by rw [hp35]; exact gm_nt_b (by omega) (by omega)
      refine gf_aload_n C dd_Mo_swap_38 0 rfl ?_
      refine gf_getA (r := 71) C gf_cl7 fl_Mo_30 dd_Mo_swap_39 rfl (show gf_is 81 65 0 7 26 by decide) (by decide) (by decide) ?_
      refine gf_bipush C dd_Mo_swap_42 (by decide +kernel) ?_
      refine gf_iload_n C dd_Mo_swap_44 1 rfl ?_
      refine gf_iadd C dd_Mo_swap_45 ?_
      refine gf_iald C dd_Mo_swap_46 (show gf_is 81 71 1 0 392 by decide) (by omega) (fun hv46 => ?_)
      refine gf_nm (fun x47 hx47 => ?_)
      refine gf_istore_n (lv' := [(2, .int (gf_i x47)), (0, .ref (gf_ad E 65)), (1, .int (gf_i k))]) C dd_Mo_swap_47 (by decide) rfl ?_
      refine gf_aload_n C dd_Mo_swap_48 1 rfl ?_
      refine gf_getA (r := 71) C gf_cl7 fl_Mo_30 dd_Mo_swap_49 rfl (show gf_is 81 65 0 7 26 by decide) (by decide) (by decide) ?_
      refine gf_bipush C dd_Mo_swap_52 (by decide +kernel) ?_
      refine gf_iload_n C dd_Mo_swap_54 2 rfl ?_
      refine gf_iadd C dd_Mo_swap_55 ?_
      refine gf_aload_n C dd_Mo_swap_56 1 rfl ?_
      refine gf_getA (r := 71) C gf_cl7 fl_Mo_30 dd_Mo_swap_57 rfl (show gf_is 81 65 0 7 26 by decide) (by decide) (by decide) ?_
      refine gf_bipush C dd_Mo_swap_60 (by decide +kernel) ?_
      refine gf_iload_n C dd_Mo_swap_62 2 rfl ?_
      refine gf_iadd C dd_Mo_swap_63 ?_
      refine gf_iconst C dd_Mo_swap_64 ?_
      refine gf_iadd C dd_Mo_swap_65 ?_
      refine gf_iald C dd_Mo_swap_66 (show gf_is 81 71 1 0 392 by decide) (by omega) (fun hv66 => ?_)
      refine gf_iast C dd_Mo_swap_67 (show gf_is 81 71 1 0 392 by decide) (by omega) (by omega) ?_
      refine gf_nmM (fun m67 hm67 => ?_)
      refine gf_aload_n C dd_Mo_swap_68 1 rfl ?_
      refine gf_getA (r := 71) C gf_cl7 fl_Mo_30 dd_Mo_swap_69 rfl (show gf_is 81 65 0 7 26 by decide) (by decide) (by decide) ?_
      refine gf_bipush C dd_Mo_swap_72 (by decide +kernel) ?_
      refine gf_iload_n C dd_Mo_swap_74 2 rfl ?_
      refine gf_iadd C dd_Mo_swap_75 ?_
      refine gf_iconst C dd_Mo_swap_76 ?_
      refine gf_iadd C dd_Mo_swap_77 ?_
      refine gf_iload_n C dd_Mo_swap_78 0 rfl ?_
      refine gf_iast C dd_Mo_swap_79 (show gf_is 81 71 1 0 392 by decide) (by omega) (by omega) ?_
      refine gf_nmM (fun m79 hm79 => ?_)
      refine gf_aload_n C dd_Mo_swap_80 1 rfl ?_
      refine gf_getA (r := 71) C gf_cl7 fl_Mo_30 dd_Mo_swap_81 rfl (show gf_is 81 65 0 7 26 by decide) (by decide) (by decide) ?_
      refine gf_bipush C dd_Mo_swap_84 (by decide +kernel) ?_
      refine gf_iload_n C dd_Mo_swap_86 2 rfl ?_
      refine gf_iadd C dd_Mo_swap_87 ?_
      refine gf_iald C dd_Mo_swap_88 (show gf_is 81 71 1 0 392 by decide) (by omega) (fun hv88 => ?_)
      refine gf_iret C hQ dd_Mo_swap_89 (by omega) ?_
      have e67 : m67 = gf_up (gm_nt μ) 71 (24 + k) (μ 71 (24 + (k + 1))) := by rw [hm67, show 24 + k + 1 = 24 + (k + 1) by omega, nf (k + 1) (by omega) (by omega), hp35]
      have e79 : m79 = gf_up (gf_up (gm_nt μ) 71 (24 + k) (μ 71 (24 + (k + 1)))) 71 (24 + (k + 1)) (μ 71 (24 + k)) := by rw [hm79, e67, hx47, nf k (by omega) (by omega), show 24 + k + 1 = 24 + (k + 1) by omega]
      refine ⟨fun h => absurd h (by omega), fun _ => ⟨fun h => absurd h (by omega), fun _ => ⟨?_, e79⟩⟩⟩
      rw [e79, gf_up_j (by omega), gf_up_s]
    · skip
      refine gf_bipush C dd_Mo_swap_31 (by decide +kernel) ?_
      refine gf_iret C hQ dd_Mo_swap_33 (by omega) ?_
      exact ⟨fun h => absurd h (by omega), fun _ => ⟨fun _ => ⟨rfl, rfl⟩, fun h => absurd h (by omega)⟩⟩
  · skip
    refine gf_iconst C dd_Mo_swap_18 ?_
    refine gf_iret C hQ dd_Mo_swap_19 (by omega) ?_
    exact ⟨fun _ => ⟨rfl, rfl⟩, fun h => absurd h (by omega)⟩

theorem dd_Mo_undo_0 : decode cc_Mo_undo 0 = .ok (.iload_n 1, 1) := by decide +kernel
theorem dd_Mo_undo_1 : decode cc_Mo_undo 1 = .ok (.i2l, 1) := by decide +kernel
theorem dd_Mo_undo_2 : decode cc_Mo_undo 2 = .ok (.lconst 0, 1) := by decide +kernel
theorem dd_Mo_undo_3 : decode cc_Mo_undo 3 = .ok (.aload_n 0, 1) := by decide +kernel
theorem dd_Mo_undo_4 : decode cc_Mo_undo 4 = .ok (.getfield 30, 3) := by decide +kernel
theorem dd_Mo_undo_7 : decode cc_Mo_undo 7 = .ok (.iconst 2, 1) := by decide +kernel
theorem dd_Mo_undo_8 : decode cc_Mo_undo 8 = .ok (.iaload, 1) := by decide +kernel
theorem dd_Mo_undo_9 : decode cc_Mo_undo 9 = .ok (.i2l, 1) := by decide +kernel
theorem dd_Mo_undo_10 : decode cc_Mo_undo 10 = .ok (.invokestatic 69, 3) := by decide +kernel
theorem dd_Mo_undo_13 : decode cc_Mo_undo 13 = .ok (.ifCond .ne 5, 3) := by decide +kernel
theorem dd_Mo_undo_16 : decode cc_Mo_undo 16 = .ok (.iconst (-1), 1) := by decide +kernel
theorem dd_Mo_undo_17 : decode cc_Mo_undo 17 = .ok (.ireturn, 1) := by decide +kernel
theorem dd_Mo_undo_18 : decode cc_Mo_undo 18 = .ok (.aload_n 0, 1) := by decide +kernel
theorem dd_Mo_undo_19 : decode cc_Mo_undo 19 = .ok (.getfield 30, 3) := by decide +kernel
theorem dd_Mo_undo_22 : decode cc_Mo_undo 22 = .ok (.iconst 2, 1) := by decide +kernel
theorem dd_Mo_undo_23 : decode cc_Mo_undo 23 = .ok (.iaload, 1) := by decide +kernel
theorem dd_Mo_undo_24 : decode cc_Mo_undo 24 = .ok (.iload_n 1, 1) := by decide +kernel
theorem dd_Mo_undo_25 : decode cc_Mo_undo 25 = .ok (.isub, 1) := by decide +kernel
theorem dd_Mo_undo_26 : decode cc_Mo_undo 26 = .ok (.istore_n 2, 1) := by decide +kernel
theorem dd_Mo_undo_27 : decode cc_Mo_undo 27 = .ok (.iload_n 2, 1) := by decide +kernel
theorem dd_Mo_undo_28 : decode cc_Mo_undo 28 = .ok (.ifCond .le 67, 3) := by decide +kernel
theorem dd_Mo_undo_31 : decode cc_Mo_undo 31 = .ok (.bipush 32, 2) := by decide +kernel
theorem dd_Mo_undo_33 : decode cc_Mo_undo 33 = .ok (.bipush 9, 2) := by decide +kernel
theorem dd_Mo_undo_35 : decode cc_Mo_undo 35 = .ok (.iload_n 1, 1) := by decide +kernel
theorem dd_Mo_undo_36 : decode cc_Mo_undo 36 = .ok (.imul, 1) := by decide +kernel
theorem dd_Mo_undo_37 : decode cc_Mo_undo 37 = .ok (.iadd, 1) := by decide +kernel
theorem dd_Mo_undo_38 : decode cc_Mo_undo 38 = .ok (.istore_n 3, 1) := by decide +kernel
theorem dd_Mo_undo_39 : decode cc_Mo_undo 39 = .ok (.aload_n 0, 1) := by decide +kernel
theorem dd_Mo_undo_40 : decode cc_Mo_undo 40 = .ok (.getfield 30, 3) := by decide +kernel
theorem dd_Mo_undo_43 : decode cc_Mo_undo 43 = .ok (.iconst 1, 1) := by decide +kernel
theorem dd_Mo_undo_44 : decode cc_Mo_undo 44 = .ok (.aload_n 0, 1) := by decide +kernel
theorem dd_Mo_undo_45 : decode cc_Mo_undo 45 = .ok (.getfield 30, 3) := by decide +kernel
theorem dd_Mo_undo_48 : decode cc_Mo_undo 48 = .ok (.iload_n 3, 1) := by decide +kernel
theorem dd_Mo_undo_49 : decode cc_Mo_undo 49 = .ok (.iaload, 1) := by decide +kernel
theorem dd_Mo_undo_50 : decode cc_Mo_undo 50 = .ok (.iastore, 1) := by decide +kernel
theorem dd_Mo_undo_51 : decode cc_Mo_undo 51 = .ok (.iconst 0, 1) := by decide +kernel
theorem dd_Mo_undo_52 : decode cc_Mo_undo 52 = .ok (.istore 4, 2) := by decide +kernel
theorem dd_Mo_undo_54 : decode cc_Mo_undo 54 = .ok (.iload 4, 2) := by decide +kernel
theorem dd_Mo_undo_56 : decode cc_Mo_undo 56 = .ok (.bipush 8, 2) := by decide +kernel
theorem dd_Mo_undo_58 : decode cc_Mo_undo 58 = .ok (.if_icmp .ge 30, 3) := by decide +kernel
theorem dd_Mo_undo_61 : decode cc_Mo_undo 61 = .ok (.aload_n 0, 1) := by decide +kernel
theorem dd_Mo_undo_62 : decode cc_Mo_undo 62 = .ok (.getfield 30, 3) := by decide +kernel
theorem dd_Mo_undo_65 : decode cc_Mo_undo 65 = .ok (.bipush 24, 2) := by decide +kernel
theorem dd_Mo_undo_67 : decode cc_Mo_undo 67 = .ok (.iload 4, 2) := by decide +kernel
theorem dd_Mo_undo_69 : decode cc_Mo_undo 69 = .ok (.iadd, 1) := by decide +kernel
theorem dd_Mo_undo_70 : decode cc_Mo_undo 70 = .ok (.aload_n 0, 1) := by decide +kernel
theorem dd_Mo_undo_71 : decode cc_Mo_undo 71 = .ok (.getfield 30, 3) := by decide +kernel
theorem dd_Mo_undo_74 : decode cc_Mo_undo 74 = .ok (.iload_n 3, 1) := by decide +kernel
theorem dd_Mo_undo_75 : decode cc_Mo_undo 75 = .ok (.iconst 1, 1) := by decide +kernel
theorem dd_Mo_undo_76 : decode cc_Mo_undo 76 = .ok (.iadd, 1) := by decide +kernel
theorem dd_Mo_undo_77 : decode cc_Mo_undo 77 = .ok (.iload 4, 2) := by decide +kernel
theorem dd_Mo_undo_79 : decode cc_Mo_undo 79 = .ok (.iadd, 1) := by decide +kernel
theorem dd_Mo_undo_80 : decode cc_Mo_undo 80 = .ok (.iaload, 1) := by decide +kernel
theorem dd_Mo_undo_81 : decode cc_Mo_undo 81 = .ok (.iastore, 1) := by decide +kernel
theorem dd_Mo_undo_82 : decode cc_Mo_undo 82 = .ok (.iinc 4 1, 3) := by decide +kernel
theorem dd_Mo_undo_85 : decode cc_Mo_undo 85 = .ok (.goto (-31), 3) := by decide +kernel
theorem dd_Mo_undo_88 : decode cc_Mo_undo 88 = .ok (.aload_n 0, 1) := by decide +kernel
theorem dd_Mo_undo_89 : decode cc_Mo_undo 89 = .ok (.getfield 30, 3) := by decide +kernel
theorem dd_Mo_undo_92 : decode cc_Mo_undo 92 = .ok (.iconst 2, 1) := by decide +kernel
theorem dd_Mo_undo_93 : decode cc_Mo_undo 93 = .ok (.iload_n 1, 1) := by decide +kernel
theorem dd_Mo_undo_94 : decode cc_Mo_undo 94 = .ok (.iastore, 1) := by decide +kernel
theorem dd_Mo_undo_95 : decode cc_Mo_undo 95 = .ok (.iload_n 2, 1) := by decide +kernel
theorem dd_Mo_undo_96 : decode cc_Mo_undo 96 = .ok (.ireturn, 1) := by decide +kernel
set_option maxRecDepth 100000 in
set_option maxHeartbeats 4000000 in
theorem ct_Mo_undo (l : Launch) (E : gf_E) (n : Int) (μ : gf_M) (hnR : gf_R n) (hd : 0 ≤ μ 71 2 ∧ μ 71 2 ≤ 40) : gf_Mi l E yy_Mo_undo cc_Mo_undo 5 .int (gf_rm 1 25) 81 gf_ref μ [.ref (gf_ad E 65), .int (gf_i n)] (fun q μ' => (¬ (0 ≤ n ∧ n ≤ μ 71 2) → q = -1 ∧ μ' = μ) ∧ (n = μ 71 2 → q = 0 ∧ μ' = μ) ∧ (0 ≤ n ∧ n < μ 71 2 → q = μ 71 2 - n ∧ μ' 71 1 = μ 71 (32 + 9 * n) ∧ μ' 71 2 = n ∧ (∀ j : Int, 0 ≤ j → j < 8 → μ' 71 (24 + j) = μ 71 (33 + 9 * n + j)) ∧ ∀ a b : Int, ¬ (a = 71 ∧ (b = 1 ∨ b = 2 ∨ (24 ≤ b ∧ b < 32))) → μ' a b = μ a b)) := by
  refine gf_mi (by decide +kernel) (Nat.le_of_ble_eq_true rfl) (by decide) (fun X Q hlx C hQ => ?_)
  subst hlx
  replace C : gf_C X E cc_Mo_undo 5 "GuardFiguresModel" (gf_rm 1 25) := C
  show gf_G X E Q 5 gf_φ μ 0 [(0, .ref (gf_ad E 65)), (1, .int (gf_i n))] []
  refine gf_iload_n C dd_Mo_undo_0 1 rfl ?_
  refine gf_gi2l C dd_Mo_undo_1 (by omega) ?_
  refine gf_lconst 0 C dd_Mo_undo_2 (by decide +kernel) ?_
  refine gf_aload_n C dd_Mo_undo_3 0 rfl ?_
  refine gf_getA (r := 71) C gf_cl7 fl_Mo_30 dd_Mo_undo_4 rfl (show gf_is 81 65 0 7 26 by decide) (by decide) (by decide) ?_
  refine gf_iconst C dd_Mo_undo_7 ?_
  refine gf_iald C dd_Mo_undo_8 (show gf_is 81 71 1 0 392 by decide) (by omega) (fun hv8 => ?_)
  refine gf_gi2l C dd_Mo_undo_9 (by omega) ?_
  refine gf_callSi (st := []) (As := [.long (gf_l n), .long (gf_l 0), .long (gf_l (μ 71 2))]) C wk_Mo_69 (ct_Mo_in (gf_xl X) E n 0 (μ 71 2) μ (by omega) (by omega) (by omega)) rfl ⟨rfl, rfl, rfl, rfl⟩ (Nat.le_of_ble_eq_true rfl) rfl dd_Mo_undo_10 (fun r10 m10 hR10 hp10 => ?_)
  have hr10 := hp10.1
  refine gf_pm hp10.2 ?_
  refine gf_if_ne 18 C dd_Mo_undo_13 (by decide) (by omega) (fun h13 => ?_) (fun h13 => ?_)
  · skip
    have hin : 0 ≤ n ∧ n ≤ μ 71 2 := by omega
    refine gf_aload_n C dd_Mo_undo_18 0 rfl ?_
    refine gf_getA (r := 71) C gf_cl7 fl_Mo_30 dd_Mo_undo_19 rfl (show gf_is 81 65 0 7 26 by decide) (by decide) (by decide) ?_
    refine gf_iconst C dd_Mo_undo_22 ?_
    refine gf_iald C dd_Mo_undo_23 (show gf_is 81 71 1 0 392 by decide) (by omega) (fun hv23 => ?_)
    refine gf_iload_n C dd_Mo_undo_24 1 rfl ?_
    refine gf_isub C dd_Mo_undo_25 ?_
    refine gf_nm (fun x26 hx26 => ?_)
    refine gf_istore_n (lv' := [(2, .int (gf_i x26)), (0, .ref (gf_ad E 65)), (1, .int (gf_i n))]) C dd_Mo_undo_26 (by decide) rfl ?_
    refine gf_iload_n C dd_Mo_undo_27 0 rfl ?_
    refine gf_if_le 95 C dd_Mo_undo_28 (by decide) (by omega) (fun h28 => ?_) (fun h28 => ?_)
    · skip
      refine gf_iload_n C dd_Mo_undo_95 0 rfl ?_
      refine gf_iret C hQ dd_Mo_undo_96 (by omega) ?_
      first
      | exact ⟨fun h => absurd h (by omega), fun _ => ⟨by omega, rfl⟩, fun h => absurd h (by omega)⟩
      | (refine ⟨fun h => absurd h (by omega), fun h => absurd h (by omega), fun _ => ⟨by omega, ?_, by rw [hm94]; exact gf_up_s, fun j h0 h1 => ?_, fun a b h => ?_⟩⟩
         · rw [hm94, gf_up_j (by decide), hk2, hx38]
         · rw [hm94, gf_up_j (by omega), hk3 j h0 (by omega), show x38 + 1 + j = 33 + 9 * n + j by omega]
         · rw [hm94, gf_up_o (by omega)]; exact hk4 a b (by omega))
    · skip
      refine gf_bipush C dd_Mo_undo_31 (by decide +kernel) ?_
      refine gf_bipush C dd_Mo_undo_33 (by decide +kernel) ?_
      refine gf_iload_n C dd_Mo_undo_35 2 rfl ?_
      refine gf_imul C dd_Mo_undo_36 ?_
      refine gf_iadd C dd_Mo_undo_37 ?_
      refine gf_nm (fun x38 hx38 => ?_)
      refine gf_istore_n (lv' := [(3, .int (gf_i x38)), (2, .int (gf_i x26)), (0, .ref (gf_ad E 65)), (1, .int (gf_i n))]) C dd_Mo_undo_38 (by decide) rfl ?_
      refine gf_aload_n C dd_Mo_undo_39 2 rfl ?_
      refine gf_getA (r := 71) C gf_cl7 fl_Mo_30 dd_Mo_undo_40 rfl (show gf_is 81 65 0 7 26 by decide) (by decide) (by decide) ?_
      refine gf_iconst C dd_Mo_undo_43 ?_
      refine gf_aload_n C dd_Mo_undo_44 2 rfl ?_
      refine gf_getA (r := 71) C gf_cl7 fl_Mo_30 dd_Mo_undo_45 rfl (show gf_is 81 65 0 7 26 by decide) (by decide) (by decide) ?_
      refine gf_iload_n C dd_Mo_undo_48 0 rfl ?_
      refine gf_iald C dd_Mo_undo_49 (show gf_is 81 71 1 0 392 by decide) (by omega) (fun hv49 => ?_)
      refine gf_iast C dd_Mo_undo_50 (show gf_is 81 71 1 0 392 by decide) (by omega) (by omega) ?_
      refine gf_nmM (fun m50 hm50 => ?_)
      refine gf_iconst C dd_Mo_undo_51 ?_
      refine gf_istore (lv' := [(4, .int (gf_i 0)), (3, .int (gf_i x38)), (2, .int (gf_i x26)), (0, .ref (gf_ad E 65)), (1, .int (gf_i n))]) C dd_Mo_undo_52 (by decide) rfl ?_
      have L54_1 : ∀ (N : Nat) (k : Int) (m : gf_M) , (0 ≤ k ∧ k ≤ 8 ∧ m 71 1 = μ 71 x38 ∧ (∀ j : Int, 0 ≤ j → j < k → m 71 (24 + j) = μ 71 (x38 + 1 + j)) ∧ ∀ a b : Int, ¬ (a = 71 ∧ (b = 1 ∨ (24 ≤ b ∧ b < 32))) → m a b = μ a b) → (8 - k).toNat < N → gf_G X E Q 5 gf_φ m 54 [(4, .int (gf_i k)), (3, .int (gf_i x38)), (2, .int (gf_i x26)), (0, .ref (gf_ad E 65)), (1, .int (gf_i n))] [] := by
        intro N
        induction N with
        | zero => intro k m hinv hN; exact absurd hN (Nat.not_lt_zero _)
        | succ N ih54_1 =>
          intro k m hinv hN
          have hinv0 := hinv
          obtain ⟨hk0, hk1, hk2, hk3, hk4⟩ := hinv
          refine gf_iload C dd_Mo_undo_54 0 rfl ?_
          refine gf_bipush C dd_Mo_undo_56 (by decide +kernel) ?_
          refine gf_icmp_ge 88 C dd_Mo_undo_58 (by decide) (by omega) (by omega) (fun h58 => ?_) (fun h58 => ?_)
          · skip
            refine gf_aload_n C dd_Mo_undo_88 3 rfl ?_
            refine gf_getA (r := 71) C gf_cl7 fl_Mo_30 dd_Mo_undo_89 rfl (show gf_is 81 65 0 7 26 by decide) (by decide) (by decide) ?_
            refine gf_iconst C dd_Mo_undo_92 ?_
            refine gf_iload_n C dd_Mo_undo_93 4 rfl ?_
            refine gf_iast C dd_Mo_undo_94 (show gf_is 81 71 1 0 392 by decide) (by omega) (by omega) ?_
            refine gf_nmM (fun m94 hm94 => ?_)
            refine gf_iload_n C dd_Mo_undo_95 2 rfl ?_
            refine gf_iret C hQ dd_Mo_undo_96 (by omega) ?_
            first
            | exact ⟨fun h => absurd h (by omega), fun _ => ⟨by omega, rfl⟩, fun h => absurd h (by omega)⟩
            | (refine ⟨fun h => absurd h (by omega), fun h => absurd h (by omega), fun _ => ⟨by omega, ?_, by rw [hm94]; exact gf_up_s, fun j h0 h1 => ?_, fun a b h => ?_⟩⟩
               · rw [hm94, gf_up_j (by decide), hk2, hx38]
               · rw [hm94, gf_up_j (by omega), hk3 j h0 (by omega), show x38 + 1 + j = 33 + 9 * n + j by omega]
               · rw [hm94, gf_up_o (by omega)]; exact hk4 a b (by omega))
          · skip
            refine gf_aload_n C dd_Mo_undo_61 3 rfl ?_
            refine gf_getA (r := 71) C gf_cl7 fl_Mo_30 dd_Mo_undo_62 rfl (show gf_is 81 65 0 7 26 by decide) (by decide) (by decide) ?_
            refine gf_bipush C dd_Mo_undo_65 (by decide +kernel) ?_
            refine gf_iload C dd_Mo_undo_67 0 rfl ?_
            refine gf_iadd C dd_Mo_undo_69 ?_
            refine gf_aload_n C dd_Mo_undo_70 3 rfl ?_
            refine gf_getA (r := 71) C gf_cl7 fl_Mo_30 dd_Mo_undo_71 rfl (show gf_is 81 65 0 7 26 by decide) (by decide) (by decide) ?_
            refine gf_iload_n C dd_Mo_undo_74 1 rfl ?_
            refine gf_iconst C dd_Mo_undo_75 ?_
            refine gf_iadd C dd_Mo_undo_76 ?_
            refine gf_iload C dd_Mo_undo_77 0 rfl ?_
            refine gf_iadd C dd_Mo_undo_79 ?_
            refine gf_iald C dd_Mo_undo_80 (show gf_is 81 71 1 0 392 by decide) (by omega) (fun hv80 => ?_)
            refine gf_iast C dd_Mo_undo_81 (show gf_is 81 71 1 0 392 by decide) (by omega) (by omega) ?_
            refine gf_nmM (fun m81 hm81 => ?_)
            obtain ⟨x82, hx82⟩ : ∃ y : Int, y = k + 1 := ⟨_, rfl⟩
            refine gf_iinc (q := 0) (v := x82) (lv' := [(4, .int (gf_i x82)), (3, .int (gf_i x38)), (2, .int (gf_i x26)), (0, .ref (gf_ad E 65)), (1, .int (gf_i n))]) C dd_Mo_undo_82 rfl hx82 (by decide) rfl ?_
            refine gf_goto 54 C dd_Mo_undo_85 (by decide) ?_
            refine gf_lsub [0, 1, 2, 3, 4] rfl ?_
            exact ih54_1 x82 m81 (by
                    refine ⟨by omega, by omega, by rw [hm81, gf_up_j (by omega)]; exact hk2, fun j h0 h1 => ?_, fun a b h => by rw [hm81, gf_up_o (by omega)]; exact hk4 a b h⟩
                    rw [hm81]
                    by_cases e : j = k
                    · rw [e, gf_up_s]; exact hk4 71 _ (by omega)
                    · rw [gf_up_j (by omega)]; exact hk3 j h0 (by omega)) (by omega)
      refine gf_lsub [0, 1, 2, 3, 4] rfl ?_
      exact L54_1 _ 0 m50 (⟨by omega, by omega, by rw [hm50]; exact gf_up_s, fun j h0 h1 => by omega, fun a b h => by rw [hm50]; exact gf_up_o (by omega)⟩) (Nat.lt_succ_self _)
  · skip
    refine gf_iconst C dd_Mo_undo_16 ?_
    refine gf_iret C hQ dd_Mo_undo_17 (by omega) ?_
    exact ⟨fun _ => ⟨rfl, rfl⟩, fun h => absurd h (by omega), fun h => absurd h (by omega)⟩

theorem dd_Mo_keep_0 : decode cc_Mo_keep 0 = .ok (.iload_n 1, 1) := by decide +kernel
theorem dd_Mo_keep_1 : decode cc_Mo_keep 1 = .ok (.i2l, 1) := by decide +kernel
theorem dd_Mo_keep_2 : decode cc_Mo_keep 2 = .ok (.lconst 0, 1) := by decide +kernel
theorem dd_Mo_keep_3 : decode cc_Mo_keep 3 = .ok (.ldc2_w 210, 3) := by decide +kernel
theorem dd_Mo_keep_6 : decode cc_Mo_keep 6 = .ok (.invokestatic 69, 3) := by decide +kernel
theorem dd_Mo_keep_9 : decode cc_Mo_keep 9 = .ok (.ifCond .ne 5, 3) := by decide +kernel
theorem dd_Mo_keep_12 : decode cc_Mo_keep 12 = .ok (.iconst (-1), 1) := by decide +kernel
theorem dd_Mo_keep_13 : decode cc_Mo_keep 13 = .ok (.ireturn, 1) := by decide +kernel
theorem dd_Mo_keep_14 : decode cc_Mo_keep 14 = .ok (.aload_n 0, 1) := by decide +kernel
theorem dd_Mo_keep_15 : decode cc_Mo_keep 15 = .ok (.getfield 30, 3) := by decide +kernel
theorem dd_Mo_keep_18 : decode cc_Mo_keep 18 = .ok (.iconst 0, 1) := by decide +kernel
theorem dd_Mo_keep_19 : decode cc_Mo_keep 19 = .ok (.iaload, 1) := by decide +kernel
theorem dd_Mo_keep_20 : decode cc_Mo_keep 20 = .ok (.ifCond .ne 6, 3) := by decide +kernel
theorem dd_Mo_keep_23 : decode cc_Mo_keep 23 = .ok (.bipush (-4), 2) := by decide +kernel
theorem dd_Mo_keep_25 : decode cc_Mo_keep 25 = .ok (.ireturn, 1) := by decide +kernel
theorem dd_Mo_keep_26 : decode cc_Mo_keep 26 = .ok (.iconst 0, 1) := by decide +kernel
theorem dd_Mo_keep_27 : decode cc_Mo_keep 27 = .ok (.istore_n 2, 1) := by decide +kernel
theorem dd_Mo_keep_28 : decode cc_Mo_keep 28 = .ok (.iload_n 2, 1) := by decide +kernel
theorem dd_Mo_keep_29 : decode cc_Mo_keep 29 = .ok (.sipush 392, 3) := by decide +kernel
theorem dd_Mo_keep_32 : decode cc_Mo_keep 32 = .ok (.if_icmp .ge 27, 3) := by decide +kernel
theorem dd_Mo_keep_35 : decode cc_Mo_keep 35 = .ok (.aload_n 0, 1) := by decide +kernel
theorem dd_Mo_keep_36 : decode cc_Mo_keep 36 = .ok (.getfield 42, 3) := by decide +kernel
theorem dd_Mo_keep_39 : decode cc_Mo_keep 39 = .ok (.sipush 392, 3) := by decide +kernel
theorem dd_Mo_keep_42 : decode cc_Mo_keep 42 = .ok (.iload_n 1, 1) := by decide +kernel
theorem dd_Mo_keep_43 : decode cc_Mo_keep 43 = .ok (.imul, 1) := by decide +kernel
theorem dd_Mo_keep_44 : decode cc_Mo_keep 44 = .ok (.iload_n 2, 1) := by decide +kernel
theorem dd_Mo_keep_45 : decode cc_Mo_keep 45 = .ok (.iadd, 1) := by decide +kernel
theorem dd_Mo_keep_46 : decode cc_Mo_keep 46 = .ok (.aload_n 0, 1) := by decide +kernel
theorem dd_Mo_keep_47 : decode cc_Mo_keep 47 = .ok (.getfield 30, 3) := by decide +kernel
theorem dd_Mo_keep_50 : decode cc_Mo_keep 50 = .ok (.iload_n 2, 1) := by decide +kernel
theorem dd_Mo_keep_51 : decode cc_Mo_keep 51 = .ok (.iaload, 1) := by decide +kernel
theorem dd_Mo_keep_52 : decode cc_Mo_keep 52 = .ok (.iastore, 1) := by decide +kernel
theorem dd_Mo_keep_53 : decode cc_Mo_keep 53 = .ok (.iinc 2 1, 3) := by decide +kernel
theorem dd_Mo_keep_56 : decode cc_Mo_keep 56 = .ok (.goto (-28), 3) := by decide +kernel
theorem dd_Mo_keep_59 : decode cc_Mo_keep 59 = .ok (.aload_n 0, 1) := by decide +kernel
theorem dd_Mo_keep_60 : decode cc_Mo_keep 60 = .ok (.getfield 39, 3) := by decide +kernel
theorem dd_Mo_keep_63 : decode cc_Mo_keep 63 = .ok (.iload_n 1, 1) := by decide +kernel
theorem dd_Mo_keep_64 : decode cc_Mo_keep 64 = .ok (.aload_n 0, 1) := by decide +kernel
theorem dd_Mo_keep_65 : decode cc_Mo_keep 65 = .ok (.getfield 30, 3) := by decide +kernel
theorem dd_Mo_keep_68 : decode cc_Mo_keep 68 = .ok (.iconst 2, 1) := by decide +kernel
theorem dd_Mo_keep_69 : decode cc_Mo_keep 69 = .ok (.iaload, 1) := by decide +kernel
theorem dd_Mo_keep_70 : decode cc_Mo_keep 70 = .ok (.iastore, 1) := by decide +kernel
theorem dd_Mo_keep_71 : decode cc_Mo_keep 71 = .ok (.aload_n 0, 1) := by decide +kernel
theorem dd_Mo_keep_72 : decode cc_Mo_keep 72 = .ok (.getfield 30, 3) := by decide +kernel
theorem dd_Mo_keep_75 : decode cc_Mo_keep 75 = .ok (.iconst 2, 1) := by decide +kernel
theorem dd_Mo_keep_76 : decode cc_Mo_keep 76 = .ok (.iaload, 1) := by decide +kernel
theorem dd_Mo_keep_77 : decode cc_Mo_keep 77 = .ok (.ireturn, 1) := by decide +kernel
set_option maxRecDepth 100000 in
set_option maxHeartbeats 4000000 in
theorem ct_Mo_keep (l : Launch) (E : gf_E) (k : Int) (μ : gf_M) (hk : gf_R k) (hc : 0 ≤ μ 71 0 ∧ μ 71 0 ≤ 7) : gf_Mi l E yy_Mo_keep cc_Mo_keep 3 .int (gf_rm 1 25) 81 gf_ref μ [.ref (gf_ad E 65), .int (gf_i k)] (fun q μ' => (¬ (0 ≤ k ∧ k < 3) → q = -1 ∧ μ' = μ) ∧ (0 ≤ k ∧ k < 3 → (μ 71 0 = 0 → q = -4 ∧ μ' = μ) ∧ (μ 71 0 ≠ 0 → q = μ 71 2 ∧ μ' 74 k = μ 71 2 ∧ (∀ j : Int, 0 ≤ j → j < 392 → μ' 75 (392 * k + j) = μ 71 j) ∧ ∀ a b : Int, ¬ (a = 74 ∧ b = k) → ¬ (a = 75 ∧ 392 * k ≤ b ∧ b < 392 * k + 392) → μ' a b = μ a b))) := by
  refine gf_mi (by decide +kernel) (Nat.le_of_ble_eq_true rfl) (by decide) (fun X Q hlx C hQ => ?_)
  subst hlx
  replace C : gf_C X E cc_Mo_keep 3 "GuardFiguresModel" (gf_rm 1 25) := C
  show gf_G X E Q 3 gf_φ μ 0 [(0, .ref (gf_ad E 65)), (1, .int (gf_i k))] []
  refine gf_iload_n C dd_Mo_keep_0 1 rfl ?_
  refine gf_gi2l C dd_Mo_keep_1 (by omega) ?_
  refine gf_lconst 0 C dd_Mo_keep_2 (by decide +kernel) ?_
  refine gf_ldc2 2 C dd_Mo_keep_3 ck_Mo_210 (by decide +kernel) ?_
  refine gf_callSi (st := []) (As := [.long (gf_l k), .long (gf_l 0), .long (gf_l 2)]) C wk_Mo_69 (ct_Mo_in (gf_xl X) E k 0 2 μ (by omega) (by omega) (by omega)) rfl ⟨rfl, rfl, rfl, rfl⟩ (Nat.le_of_ble_eq_true rfl) rfl dd_Mo_keep_6 (fun r6 m6 hR6 hp6 => ?_)
  have hr6 := hp6.1
  refine gf_pm hp6.2 ?_
  refine gf_if_ne 14 C dd_Mo_keep_9 (by decide) (by omega) (fun h9 => ?_) (fun h9 => ?_)
  · skip
    have hin : 0 ≤ k ∧ k < 3 := by omega
    refine gf_aload_n C dd_Mo_keep_14 0 rfl ?_
    refine gf_getA (r := 71) C gf_cl7 fl_Mo_30 dd_Mo_keep_15 rfl (show gf_is 81 65 0 7 26 by decide) (by decide) (by decide) ?_
    refine gf_iconst C dd_Mo_keep_18 ?_
    refine gf_iald C dd_Mo_keep_19 (show gf_is 81 71 1 0 392 by decide) (by omega) (fun hv19 => ?_)
    refine gf_if_ne 26 C dd_Mo_keep_20 (by decide) (by omega) (fun h20 => ?_) (fun h20 => ?_)
    · skip
      refine gf_iconst C dd_Mo_keep_26 ?_
      refine gf_istore_n (lv' := [(2, .int (gf_i 0)), (0, .ref (gf_ad E 65)), (1, .int (gf_i k))]) C dd_Mo_keep_27 (by decide) rfl ?_
      have L28_1 : ∀ (N : Nat) (i : Int) (m : gf_M) , (0 ≤ i ∧ i ≤ 392 ∧ (∀ j : Int, 0 ≤ j → j < i → m 75 (392 * k + j) = μ 71 j) ∧ ∀ a b : Int, ¬ (a = 75 ∧ 392 * k ≤ b ∧ b < 392 * k + 392) → m a b = μ a b) → (392 - i).toNat < N → gf_G X E Q 3 gf_φ m 28 [(2, .int (gf_i i)), (0, .ref (gf_ad E 65)), (1, .int (gf_i k))] [] := by
        intro N
        induction N with
        | zero => intro i m hinv hN; exact absurd hN (Nat.not_lt_zero _)
        | succ N ih28_1 =>
          intro i m hinv hN
          have hinv0 := hinv
          obtain ⟨hi0, hi1, hi2, hi3⟩ := hinv
          refine gf_iload_n C dd_Mo_keep_28 0 rfl ?_
          refine gf_sipush C dd_Mo_keep_29 (by decide +kernel) ?_
          refine gf_icmp_ge 59 C dd_Mo_keep_32 (by decide) (by omega) (by omega) (fun h32 => ?_) (fun h32 => ?_)
          · skip
            refine gf_aload_n C dd_Mo_keep_59 1 rfl ?_
            refine gf_getA (r := 74) C gf_cl7 fl_Mo_39 dd_Mo_keep_60 rfl (show gf_is 81 65 0 7 26 by decide) (by decide) (by decide) ?_
            refine gf_iload_n C dd_Mo_keep_63 2 rfl ?_
            refine gf_aload_n C dd_Mo_keep_64 1 rfl ?_
            refine gf_getA (r := 71) C gf_cl7 fl_Mo_30 dd_Mo_keep_65 rfl (show gf_is 81 65 0 7 26 by decide) (by decide) (by decide) ?_
            refine gf_iconst C dd_Mo_keep_68 ?_
            refine gf_iald C dd_Mo_keep_69 (show gf_is 81 71 1 0 392 by decide) (by omega) (fun hv69 => ?_)
            refine gf_iast C dd_Mo_keep_70 (show gf_is 81 74 1 0 3 by decide) (by omega) (by omega) ?_
            refine gf_nmM (fun m70 hm70 => ?_)
            refine gf_aload_n C dd_Mo_keep_71 1 rfl ?_
            refine gf_getA (r := 71) C gf_cl7 fl_Mo_30 dd_Mo_keep_72 rfl (show gf_is 81 65 0 7 26 by decide) (by decide) (by decide) ?_
            refine gf_iconst C dd_Mo_keep_75 ?_
            refine gf_iald C dd_Mo_keep_76 (show gf_is 81 71 1 0 392 by decide) (by omega) (fun hv76 => ?_)
            refine gf_iret C hQ dd_Mo_keep_77 (by omega) ?_
            refine ⟨fun h => absurd h (by omega), fun _ => ⟨fun h => absurd h (by omega), fun _ => ⟨?_, ?_, fun j h0 h1 => ?_, fun a b h1 h2 => ?_⟩⟩⟩
            · rw [hm70, gf_up_k (by decide)]; exact hi3 71 2 (by omega)
            · rw [hm70, gf_up_s]; exact hi3 71 2 (by omega)
            · rw [hm70, gf_up_k (by decide)]; exact hi2 j h0 (by omega)
            · rw [hm70, gf_up_o h1]; exact hi3 a b h2
          · skip
            refine gf_aload_n C dd_Mo_keep_35 1 rfl ?_
            refine gf_getA (r := 75) C gf_cl7 fl_Mo_42 dd_Mo_keep_36 rfl (show gf_is 81 65 0 7 26 by decide) (by decide) (by decide) ?_
            refine gf_sipush C dd_Mo_keep_39 (by decide +kernel) ?_
            refine gf_iload_n C dd_Mo_keep_42 2 rfl ?_
            refine gf_imul C dd_Mo_keep_43 ?_
            refine gf_iload_n C dd_Mo_keep_44 0 rfl ?_
            refine gf_iadd C dd_Mo_keep_45 ?_
            refine gf_aload_n C dd_Mo_keep_46 1 rfl ?_
            refine gf_getA (r := 71) C gf_cl7 fl_Mo_30 dd_Mo_keep_47 rfl (show gf_is 81 65 0 7 26 by decide) (by decide) (by decide) ?_
            refine gf_iload_n C dd_Mo_keep_50 0 rfl ?_
            refine gf_iald C dd_Mo_keep_51 (show gf_is 81 71 1 0 392 by decide) (by omega) (fun hv51 => ?_)
            refine gf_iast C dd_Mo_keep_52 (show gf_is 81 75 1 0 1176 by decide) (by omega) (by omega) ?_
            refine gf_nmM (fun m52 hm52 => ?_)
            obtain ⟨x53, hx53⟩ : ∃ y : Int, y = i + 1 := ⟨_, rfl⟩
            refine gf_iinc (q := 0) (v := x53) (lv' := [(2, .int (gf_i x53)), (0, .ref (gf_ad E 65)), (1, .int (gf_i k))]) C dd_Mo_keep_53 rfl hx53 (by decide) rfl ?_
            refine gf_goto 28 C dd_Mo_keep_56 (by decide) ?_
            refine gf_lsub [0, 1, 2] rfl ?_
            exact ih28_1 x53 m52 (by
                    refine ⟨by omega, by omega, fun j h0 h1 => ?_, fun a b h => by rw [hm52, gf_up_o (by omega)]; exact hi3 a b h⟩
                    rw [hm52]
                    by_cases e : j = i
                    · rw [e, gf_up_s]; exact hi3 71 _ (by omega)
                    · rw [gf_up_j (by omega)]; exact hi2 j h0 (by omega)) (by omega)
      refine gf_lsub [0, 1, 2] rfl ?_
      exact L28_1 _ 0 μ (⟨by omega, by omega, fun j h0 h1 => by omega, fun a b _ => rfl⟩) (Nat.lt_succ_self _)
    · skip
      refine gf_bipush C dd_Mo_keep_23 (by decide +kernel) ?_
      refine gf_iret C hQ dd_Mo_keep_25 (by omega) ?_
      exact ⟨fun h => absurd h (by omega), fun _ => ⟨fun _ => ⟨rfl, rfl⟩, fun h => absurd h (by omega)⟩⟩
  · skip
    refine gf_iconst C dd_Mo_keep_12 ?_
    refine gf_iret C hQ dd_Mo_keep_13 (by omega) ?_
    exact ⟨fun _ => ⟨rfl, rfl⟩, fun h => absurd h (by omega)⟩

theorem dd_Mo_on_0 : decode cc_Mo_on 0 = .ok (.iload_n 1, 1) := by decide +kernel
theorem dd_Mo_on_1 : decode cc_Mo_on 1 = .ok (.i2l, 1) := by decide +kernel
theorem dd_Mo_on_2 : decode cc_Mo_on 2 = .ok (.lconst 0, 1) := by decide +kernel
theorem dd_Mo_on_3 : decode cc_Mo_on 3 = .ok (.ldc2_w 210, 3) := by decide +kernel
theorem dd_Mo_on_6 : decode cc_Mo_on 6 = .ok (.invokestatic 69, 3) := by decide +kernel
theorem dd_Mo_on_9 : decode cc_Mo_on 9 = .ok (.ifCond .ne 5, 3) := by decide +kernel
theorem dd_Mo_on_12 : decode cc_Mo_on 12 = .ok (.iconst (-1), 1) := by decide +kernel
theorem dd_Mo_on_13 : decode cc_Mo_on 13 = .ok (.ireturn, 1) := by decide +kernel
theorem dd_Mo_on_14 : decode cc_Mo_on 14 = .ok (.aload_n 0, 1) := by decide +kernel
theorem dd_Mo_on_15 : decode cc_Mo_on 15 = .ok (.getfield 39, 3) := by decide +kernel
theorem dd_Mo_on_18 : decode cc_Mo_on 18 = .ok (.iload_n 1, 1) := by decide +kernel
theorem dd_Mo_on_19 : decode cc_Mo_on 19 = .ok (.iaload, 1) := by decide +kernel
theorem dd_Mo_on_20 : decode cc_Mo_on 20 = .ok (.ifCond .ge 9, 3) := by decide +kernel
theorem dd_Mo_on_23 : decode cc_Mo_on 23 = .ok (.aload_n 0, 1) := by decide +kernel
theorem dd_Mo_on_24 : decode cc_Mo_on 24 = .ok (.iconst 1, 1) := by decide +kernel
theorem dd_Mo_on_25 : decode cc_Mo_on 25 = .ok (.invokevirtual 77, 3) := by decide +kernel
theorem dd_Mo_on_28 : decode cc_Mo_on 28 = .ok (.ireturn, 1) := by decide +kernel
theorem dd_Mo_on_29 : decode cc_Mo_on 29 = .ok (.iconst 0, 1) := by decide +kernel
theorem dd_Mo_on_30 : decode cc_Mo_on 30 = .ok (.istore_n 2, 1) := by decide +kernel
theorem dd_Mo_on_31 : decode cc_Mo_on 31 = .ok (.iload_n 2, 1) := by decide +kernel
theorem dd_Mo_on_32 : decode cc_Mo_on 32 = .ok (.sipush 392, 3) := by decide +kernel
theorem dd_Mo_on_35 : decode cc_Mo_on 35 = .ok (.if_icmp .ge 27, 3) := by decide +kernel
theorem dd_Mo_on_38 : decode cc_Mo_on 38 = .ok (.aload_n 0, 1) := by decide +kernel
theorem dd_Mo_on_39 : decode cc_Mo_on 39 = .ok (.getfield 30, 3) := by decide +kernel
theorem dd_Mo_on_42 : decode cc_Mo_on 42 = .ok (.iload_n 2, 1) := by decide +kernel
theorem dd_Mo_on_43 : decode cc_Mo_on 43 = .ok (.aload_n 0, 1) := by decide +kernel
theorem dd_Mo_on_44 : decode cc_Mo_on 44 = .ok (.getfield 42, 3) := by decide +kernel
theorem dd_Mo_on_47 : decode cc_Mo_on 47 = .ok (.sipush 392, 3) := by decide +kernel
theorem dd_Mo_on_50 : decode cc_Mo_on 50 = .ok (.iload_n 1, 1) := by decide +kernel
theorem dd_Mo_on_51 : decode cc_Mo_on 51 = .ok (.imul, 1) := by decide +kernel
theorem dd_Mo_on_52 : decode cc_Mo_on 52 = .ok (.iload_n 2, 1) := by decide +kernel
theorem dd_Mo_on_53 : decode cc_Mo_on 53 = .ok (.iadd, 1) := by decide +kernel
theorem dd_Mo_on_54 : decode cc_Mo_on 54 = .ok (.iaload, 1) := by decide +kernel
theorem dd_Mo_on_55 : decode cc_Mo_on 55 = .ok (.iastore, 1) := by decide +kernel
theorem dd_Mo_on_56 : decode cc_Mo_on 56 = .ok (.iinc 2 1, 3) := by decide +kernel
theorem dd_Mo_on_59 : decode cc_Mo_on 59 = .ok (.goto (-28), 3) := by decide +kernel
theorem dd_Mo_on_62 : decode cc_Mo_on 62 = .ok (.aload_n 0, 1) := by decide +kernel
theorem dd_Mo_on_63 : decode cc_Mo_on 63 = .ok (.getfield 30, 3) := by decide +kernel
theorem dd_Mo_on_66 : decode cc_Mo_on 66 = .ok (.iconst 2, 1) := by decide +kernel
theorem dd_Mo_on_67 : decode cc_Mo_on 67 = .ok (.iaload, 1) := by decide +kernel
theorem dd_Mo_on_68 : decode cc_Mo_on 68 = .ok (.ireturn, 1) := by decide +kernel
set_option maxRecDepth 100000 in
set_option maxHeartbeats 4000000 in
theorem ct_Mo_on (l : Launch) (E : gf_E) (k : Int) (μ : gf_M) (hk : gf_R k) : gf_Mi l E yy_Mo_on cc_Mo_on 3 .int (gf_rm 1 25) 81 gf_ref μ [.ref (gf_ad E 65), .int (gf_i k)] (fun q μ' => (¬ (0 ≤ k ∧ k < 3) → q = -1 ∧ μ' = μ) ∧ (0 ≤ k ∧ k < 3 → (μ 74 k < 0 → q = -3 ∧ μ' = gm_fd μ 1) ∧ (0 ≤ μ 74 k → q = μ 75 (392 * k + 2) ∧ (∀ j : Int, 0 ≤ j → j < 392 → μ' 71 j = μ 75 (392 * k + j)) ∧ ∀ a b : Int, ¬ (a = 71 ∧ 0 ≤ b ∧ b < 392) → μ' a b = μ a b))) := by
  refine gf_mi (by decide +kernel) (Nat.le_of_ble_eq_true rfl) (by decide) (fun X Q hlx C hQ => ?_)
  subst hlx
  replace C : gf_C X E cc_Mo_on 3 "GuardFiguresModel" (gf_rm 1 25) := C
  show gf_G X E Q 3 gf_φ μ 0 [(0, .ref (gf_ad E 65)), (1, .int (gf_i k))] []
  refine gf_iload_n C dd_Mo_on_0 1 rfl ?_
  refine gf_gi2l C dd_Mo_on_1 (by omega) ?_
  refine gf_lconst 0 C dd_Mo_on_2 (by decide +kernel) ?_
  refine gf_ldc2 2 C dd_Mo_on_3 ck_Mo_210 (by decide +kernel) ?_
  refine gf_callSi (st := []) (As := [.long (gf_l k), .long (gf_l 0), .long (gf_l 2)]) C wk_Mo_69 (ct_Mo_in (gf_xl X) E k 0 2 μ (by omega) (by omega) (by omega)) rfl ⟨rfl, rfl, rfl, rfl⟩ (Nat.le_of_ble_eq_true rfl) rfl dd_Mo_on_6 (fun r6 m6 hR6 hp6 => ?_)
  have hr6 := hp6.1
  refine gf_pm hp6.2 ?_
  refine gf_if_ne 14 C dd_Mo_on_9 (by decide) (by omega) (fun h9 => ?_) (fun h9 => ?_)
  · skip
    have hin : 0 ≤ k ∧ k < 3 := by omega
    refine gf_aload_n C dd_Mo_on_14 0 rfl ?_
    refine gf_getA (r := 74) C gf_cl7 fl_Mo_39 dd_Mo_on_15 rfl (show gf_is 81 65 0 7 26 by decide) (by decide) (by decide) ?_
    refine gf_iload_n C dd_Mo_on_18 1 rfl ?_
    refine gf_iald C dd_Mo_on_19 (show gf_is 81 74 1 0 3 by decide) (by omega) (fun hv19 => ?_)
    refine gf_if_ge 29 C dd_Mo_on_20 (by decide) (by omega) (fun h20 => ?_) (fun h20 => ?_)
    · skip
      refine gf_iconst C dd_Mo_on_29 ?_
      refine gf_istore_n (lv' := [(2, .int (gf_i 0)), (0, .ref (gf_ad E 65)), (1, .int (gf_i k))]) C dd_Mo_on_30 (by decide) rfl ?_
      have L31_1 : ∀ (N : Nat) (i : Int) (m : gf_M) , (0 ≤ i ∧ i ≤ 392 ∧ (∀ j : Int, 0 ≤ j → j < i → m 71 j = μ 75 (392 * k + j)) ∧ ∀ a b : Int, ¬ (a = 71 ∧ 0 ≤ b ∧ b < 392) → m a b = μ a b) → (392 - i).toNat < N → gf_G X E Q 3 gf_φ m 31 [(2, .int (gf_i i)), (0, .ref (gf_ad E 65)), (1, .int (gf_i k))] [] := by
        intro N
        induction N with
        | zero => intro i m hinv hN; exact absurd hN (Nat.not_lt_zero _)
        | succ N ih31_1 =>
          intro i m hinv hN
          have hinv0 := hinv
          obtain ⟨hi0, hi1, hi2, hi3⟩ := hinv
          refine gf_iload_n C dd_Mo_on_31 0 rfl ?_
          refine gf_sipush C dd_Mo_on_32 (by decide +kernel) ?_
          refine gf_icmp_ge 62 C dd_Mo_on_35 (by decide) (by omega) (by omega) (fun h35 => ?_) (fun h35 => ?_)
          · skip
            refine gf_aload_n C dd_Mo_on_62 1 rfl ?_
            refine gf_getA (r := 71) C gf_cl7 fl_Mo_30 dd_Mo_on_63 rfl (show gf_is 81 65 0 7 26 by decide) (by decide) (by decide) ?_
            refine gf_iconst C dd_Mo_on_66 ?_
            refine gf_iald C dd_Mo_on_67 (show gf_is 81 71 1 0 392 by decide) (by omega) (fun hv67 => ?_)
            refine gf_iret C hQ dd_Mo_on_68 (by omega) ?_
            have ei : i = 392 := by omega
            rw [ei] at hi2
            exact ⟨fun h => absurd h (by omega), fun _ => ⟨fun h => absurd h (by omega), fun _ => ⟨hi2 2 (by omega) (by omega), hi2, hi3⟩⟩⟩
          · skip
            refine gf_aload_n C dd_Mo_on_38 1 rfl ?_
            refine gf_getA (r := 71) C gf_cl7 fl_Mo_30 dd_Mo_on_39 rfl (show gf_is 81 65 0 7 26 by decide) (by decide) (by decide) ?_
            refine gf_iload_n C dd_Mo_on_42 0 rfl ?_
            refine gf_aload_n C dd_Mo_on_43 1 rfl ?_
            refine gf_getA (r := 75) C gf_cl7 fl_Mo_42 dd_Mo_on_44 rfl (show gf_is 81 65 0 7 26 by decide) (by decide) (by decide) ?_
            refine gf_sipush C dd_Mo_on_47 (by decide +kernel) ?_
            refine gf_iload_n C dd_Mo_on_50 2 rfl ?_
            refine gf_imul C dd_Mo_on_51 ?_
            refine gf_iload_n C dd_Mo_on_52 0 rfl ?_
            refine gf_iadd C dd_Mo_on_53 ?_
            refine gf_iald C dd_Mo_on_54 (show gf_is 81 75 1 0 1176 by decide) (by omega) (fun hv54 => ?_)
            refine gf_iast C dd_Mo_on_55 (show gf_is 81 71 1 0 392 by decide) (by omega) (by omega) ?_
            refine gf_nmM (fun m55 hm55 => ?_)
            obtain ⟨x56, hx56⟩ : ∃ y : Int, y = i + 1 := ⟨_, rfl⟩
            refine gf_iinc (q := 0) (v := x56) (lv' := [(2, .int (gf_i x56)), (0, .ref (gf_ad E 65)), (1, .int (gf_i k))]) C dd_Mo_on_56 rfl hx56 (by decide) rfl ?_
            refine gf_goto 31 C dd_Mo_on_59 (by decide) ?_
            refine gf_lsub [0, 1, 2] rfl ?_
            exact ih31_1 x56 m55 (by
                    refine ⟨by omega, by omega, fun j h0 h1 => ?_, fun a b h => by rw [hm55, gf_up_o (by omega)]; exact hi3 a b h⟩
                    rw [hm55]
                    by_cases e : j = i
                    · rw [e, gf_up_s]; exact hi3 75 _ (by omega)
                    · rw [gf_up_j (by omega)]; exact hi2 j h0 (by omega)) (by omega)
      refine gf_lsub [0, 1, 2] rfl ?_
      exact L31_1 _ 0 μ (⟨by omega, by omega, fun j h0 h1 => by omega, fun a b _ => rfl⟩) (Nat.lt_succ_self _)
    · skip
      refine gf_aload_n C dd_Mo_on_23 0 rfl ?_
      refine gf_iconst C dd_Mo_on_24 ?_
      refine gf_callVi (st := []) (As := [.int (gf_i 1)]) C wk_Mo_77 gf_cl7 (show gf_is 81 65 0 7 26 by decide) (ct_Mo_find (gf_xl X) E 1 μ (by omega)) rfl ⟨rfl, rfl, rfl, rfl⟩ (Nat.le_of_ble_eq_true rfl) rfl dd_Mo_on_25 (fun r25 m25 hR25 hp25 => ?_)
      refine gf_iret C hQ dd_Mo_on_28 (by omega) ?_
      exact ⟨fun h => absurd h (by omega), fun _ => ⟨fun _ => hp25, fun h => absurd h (by omega)⟩⟩
  · skip
    refine gf_iconst C dd_Mo_on_12 ?_
    refine gf_iret C hQ dd_Mo_on_13 (by omega) ?_
    exact ⟨fun _ => ⟨rfl, rfl⟩, fun h => absurd h (by omega)⟩
