/-! Writing, and two static helpers -/
/-- figures behind a 1 -/
def pf_enc (f : Int → Int) : Nat → Int
  | 0 => 1
  | n + 1 => pf_enc f n * 10 + f n
theorem pf_enc_B {f : Int → Int} : ∀ (n : Nat), (∀ j : Int, 0 ≤ j → j < n → 0 ≤ f j ∧ f j ≤ 9) → 10 ^ n ≤ pf_enc f n ∧ pf_enc f n < 2 * 10 ^ n
  | 0, _ => by simp [pf_enc]
  | n + 1, h => by
    have ih := pf_enc_B n (fun j h0 h1 => h j h0 (by omega))
    have hn := h n (by omega) (by omega)
    unfold pf_enc
    rw [Int.pow_succ]
    omega
theorem pf_enc_congr {f g : Int → Int} : ∀ (n : Nat), (∀ j : Int, 0 ≤ j → j < n → f j = g j) → pf_enc f n = pf_enc g n
  | 0, _ => rfl
  | n + 1, h => by unfold pf_enc; rw [pf_enc_congr n (fun j h0 h1 => h j h0 (by omega)), h n (by omega) (by omega)]
theorem pf_enc_8 {f : Int → Int} {n : Nat} (hn : n ≤ 8) (h : ∀ j : Int, 0 ≤ j → j < n → 0 ≤ f j ∧ f j ≤ 9) : 1 ≤ pf_enc f n ∧ pf_enc f n ≤ 200000000 := by
  have h1 := pf_enc_B n h
  have : (10 : Int) ^ n ≤ 10 ^ 8 ∧ 1 ≤ (10 : Int) ^ n := by
    have : n = 0 ∨ n = 1 ∨ n = 2 ∨ n = 3 ∨ n = 4 ∨ n = 5 ∨ n = 6 ∨ n = 7 ∨ n = 8 := by omega
    rcases this with rfl | rfl | rfl | rfl | rfl | rfl | rfl | rfl | rfl <;> decide
  have e : (10 : Int) ^ 8 = 100000000 := by decide
  omega
theorem pf_enc_1 {f : Int → Int} {n : Nat} (h : ∀ j : Int, 0 ≤ j → j < ((n + 1 : Nat) : Int) → 0 ≤ f j ∧ f j ≤ 9) : 10 ≤ pf_enc f (n + 1) ∧ pf_enc f (n + 1) / 10 = pf_enc f n ∧ pf_enc f (n + 1) % 10 = f n := by
  have h1 := pf_enc_B n (fun j h0 h1 => h j h0 (by omega))
  have hn := h n (by omega) (by omega)
  have hp : (1 : Int) ≤ 10 ^ n := by
    have := Int.pow_pos (n := 10) (m := n) (by decide)
    omega
  show 10 ≤ pf_enc f n * 10 + f n ∧ (pf_enc f n * 10 + f n) / 10 = pf_enc f n ∧ (pf_enc f n * 10 + f n) % 10 = f n
  omega
/-- what one deed by lot does -/
def pf_lotW (μ : gf_M) (w lot : Int) : gf_M :=
  if lot % 4 ≤ 1 then (if μ w 1 < 8 then gf_up (gf_up μ (w + 1) (μ w 1) (lot / 8 % 10)) w 1 (μ w 1 + 1) else μ)
  else if lot % 4 = 2 then (if μ w 1 = 0 then μ else gf_up μ w 1 (μ w 1 - 1))
  else if lot / 128 % 8 < μ w 1 then gf_up μ (w + 1) (lot / 128 % 8) (lot / 8 % 10) else μ
theorem dd_Fi_isWithin_0 : decode cc_Fi_isWithin 0 = .ok (.iload_n 0, 1) := by decide +kernel
theorem dd_Fi_isWithin_1 : decode cc_Fi_isWithin 1 = .ok (.ifCond .lt 12, 3) := by decide +kernel
theorem dd_Fi_isWithin_4 : decode cc_Fi_isWithin 4 = .ok (.iload_n 0, 1) := by decide +kernel
theorem dd_Fi_isWithin_5 : decode cc_Fi_isWithin 5 = .ok (.iload_n 1, 1) := by decide +kernel
theorem dd_Fi_isWithin_6 : decode cc_Fi_isWithin 6 = .ok (.if_icmp .ge 7, 3) := by decide +kernel
theorem dd_Fi_isWithin_9 : decode cc_Fi_isWithin 9 = .ok (.iconst 1, 1) := by decide +kernel
theorem dd_Fi_isWithin_10 : decode cc_Fi_isWithin 10 = .ok (.goto 4, 3) := by decide +kernel
theorem dd_Fi_isWithin_13 : decode cc_Fi_isWithin 13 = .ok (.iconst 0, 1) := by decide +kernel
theorem dd_Fi_isWithin_14 : decode cc_Fi_isWithin 14 = .ok (.ireturn, 1) := by decide +kernel
set_option maxRecDepth 100000 in
set_option maxHeartbeats 4000000 in
theorem ct_Fi_isWithin (l : Launch) (E : gf_E) (i b : Int) (μ : gf_M) (hi : gf_R i) (hb : gf_R b) : gf_Mi l E yy_Fi_isWithin cc_Fi_isWithin 2 .boolean (gf_rm 0 0) 81 gf_ref μ [.int (gf_i i), .int (gf_i b)] (fun r μ' => ((0 ≤ i ∧ i < b → r = 1) ∧ (¬ (0 ≤ i ∧ i < b) → r = 0)) ∧ μ' = μ) := by
  refine gf_mi (by decide +kernel) (Nat.le_of_ble_eq_true rfl) (by decide) (fun X Q hlx C hQ => ?_)
  subst hlx
  replace C : gf_C X E cc_Fi_isWithin 2 "GuardFigures" (gf_rm 0 0) := C
  show gf_G X E Q 2 gf_φ μ 0 [(0, .int (gf_i i)), (1, .int (gf_i b))] []
  refine gf_iload_n C dd_Fi_isWithin_0 0 rfl ?_
  refine gf_if_lt 13 C dd_Fi_isWithin_1 (by decide) (by omega) (fun h1 => ?_) (fun h1 => ?_)
  · skip
    refine gf_iconst C dd_Fi_isWithin_13 ?_
    refine gf_zret C hQ dd_Fi_isWithin_14 (by omega) ?_
    exact ⟨⟨by omega, by omega⟩, rfl⟩
  · skip
    refine gf_iload_n C dd_Fi_isWithin_4 0 rfl ?_
    refine gf_iload_n C dd_Fi_isWithin_5 1 rfl ?_
    refine gf_icmp_ge 13 C dd_Fi_isWithin_6 (by decide) (by omega) (by omega) (fun h6 => ?_) (fun h6 => ?_)
    · skip
      refine gf_iconst C dd_Fi_isWithin_13 ?_
      refine gf_zret C hQ dd_Fi_isWithin_14 (by omega) ?_
      exact ⟨⟨by omega, by omega⟩, rfl⟩
    · skip
      refine gf_iconst C dd_Fi_isWithin_9 ?_
      refine gf_goto 14 C dd_Fi_isWithin_10 (by decide) ?_
      refine gf_zret C hQ dd_Fi_isWithin_14 (by omega) ?_
      exact ⟨⟨by omega, by omega⟩, rfl⟩

theorem dd_Fi_exchange_0 : decode cc_Fi_exchange 0 = .ok (.aload_n 0, 1) := by decide +kernel
theorem dd_Fi_exchange_1 : decode cc_Fi_exchange 1 = .ok (.iload_n 1, 1) := by decide +kernel
theorem dd_Fi_exchange_2 : decode cc_Fi_exchange 2 = .ok (.iaload, 1) := by decide +kernel
theorem dd_Fi_exchange_3 : decode cc_Fi_exchange 3 = .ok (.istore_n 3, 1) := by decide +kernel
theorem dd_Fi_exchange_4 : decode cc_Fi_exchange 4 = .ok (.aload_n 0, 1) := by decide +kernel
theorem dd_Fi_exchange_5 : decode cc_Fi_exchange 5 = .ok (.iload_n 1, 1) := by decide +kernel
theorem dd_Fi_exchange_6 : decode cc_Fi_exchange 6 = .ok (.aload_n 0, 1) := by decide +kernel
theorem dd_Fi_exchange_7 : decode cc_Fi_exchange 7 = .ok (.iload_n 2, 1) := by decide +kernel
theorem dd_Fi_exchange_8 : decode cc_Fi_exchange 8 = .ok (.iaload, 1) := by decide +kernel
theorem dd_Fi_exchange_9 : decode cc_Fi_exchange 9 = .ok (.iastore, 1) := by decide +kernel
theorem dd_Fi_exchange_10 : decode cc_Fi_exchange 10 = .ok (.aload_n 0, 1) := by decide +kernel
theorem dd_Fi_exchange_11 : decode cc_Fi_exchange 11 = .ok (.iload_n 2, 1) := by decide +kernel
theorem dd_Fi_exchange_12 : decode cc_Fi_exchange 12 = .ok (.iload_n 3, 1) := by decide +kernel
theorem dd_Fi_exchange_13 : decode cc_Fi_exchange 13 = .ok (.iastore, 1) := by decide +kernel
theorem dd_Fi_exchange_14 : decode cc_Fi_exchange 14 = .ok (.return_, 1) := by decide +kernel
set_option maxRecDepth 100000 in
set_option maxHeartbeats 4000000 in
theorem ct_Fi_exchange (l : Launch) (E : gf_E) (a j k : Int) (N : Nat) (μ : gf_M) (ha : gf_is 81 a 1 0 N) (hj : 0 ≤ j ∧ j < (N : Int)) (hk : 0 ≤ k ∧ k < (N : Int)) : gf_Mv l E yy_Fi_exchange cc_Fi_exchange 4 (gf_rm 0 0) 81 gf_ref 0 0 81 gf_ref μ [.ref (gf_ad E a), .int (gf_i j), .int (gf_i k)] (fun μ' => μ' = gf_up (gf_up μ a j (μ a k)) a k (μ a j)) := by
  refine gf_mv (by decide +kernel) (Nat.le_of_ble_eq_true rfl) (by decide) (fun X Q hlx C hname hQ => ?_)
  subst hlx
  replace C : gf_C X E cc_Fi_exchange 4 "GuardFigures" (gf_rm 0 0) := C
  show gf_G X E Q 4 gf_φ μ 0 [(0, .ref (gf_ad E a)), (1, .int (gf_i j)), (2, .int (gf_i k))] []
  refine gf_aload_n C dd_Fi_exchange_0 0 rfl ?_
  refine gf_iload_n C dd_Fi_exchange_1 1 rfl ?_
  refine gf_iald C dd_Fi_exchange_2 ha (by omega) (fun hv2 => ?_)
  refine gf_nm (fun x3 hx3 => ?_)
  refine gf_istore_n (lv' := [(3, .int (gf_i x3)), (0, .ref (gf_ad E a)), (1, .int (gf_i j)), (2, .int (gf_i k))]) C dd_Fi_exchange_3 (by decide) rfl ?_
  refine gf_aload_n C dd_Fi_exchange_4 1 rfl ?_
  refine gf_iload_n C dd_Fi_exchange_5 2 rfl ?_
  refine gf_aload_n C dd_Fi_exchange_6 1 rfl ?_
  refine gf_iload_n C dd_Fi_exchange_7 3 rfl ?_
  refine gf_iald C dd_Fi_exchange_8 ha (by omega) (fun hv8 => ?_)
  refine gf_iast C dd_Fi_exchange_9 ha (by omega) (by omega) ?_
  refine gf_nmM (fun m9 hm9 => ?_)
  refine gf_aload_n C dd_Fi_exchange_10 1 rfl ?_
  refine gf_iload_n C dd_Fi_exchange_11 3 rfl ?_
  refine gf_iload_n C dd_Fi_exchange_12 0 rfl ?_
  refine gf_iast C dd_Fi_exchange_13 ha (by omega) (by omega) ?_
  refine gf_nmM (fun m13 hm13 => ?_)
  refine gf_vret C hQ dd_Fi_exchange_14 ?_
  rw [hm13, hm9, hx3]

theorem dd_Wr_clear_0 : decode cc_Wr_clear 0 = .ok (.aload_n 0, 1) := by decide +kernel
theorem dd_Wr_clear_1 : decode cc_Wr_clear 1 = .ok (.iconst 0, 1) := by decide +kernel
theorem dd_Wr_clear_2 : decode cc_Wr_clear 2 = .ok (.putfield 18, 3) := by decide +kernel
theorem dd_Wr_clear_5 : decode cc_Wr_clear 5 = .ok (.aload_n 0, 1) := by decide +kernel
theorem dd_Wr_clear_6 : decode cc_Wr_clear 6 = .ok (.iconst 0, 1) := by decide +kernel
theorem dd_Wr_clear_7 : decode cc_Wr_clear 7 = .ok (.putfield 22, 3) := by decide +kernel
theorem dd_Wr_clear_10 : decode cc_Wr_clear 10 = .ok (.return_, 1) := by decide +kernel
set_option maxRecDepth 100000 in
set_option maxHeartbeats 4000000 in
theorem ct_Wr_clear (l : Launch) (E : gf_E) (w : Int) (μ : gf_M) (hw : gf_oWr w)  : gf_Mv l E yy_Wr_clear cc_Wr_clear 1 (gf_rm 0 0) 81 gf_ref 0 0 81 gf_ref μ [.ref (gf_ad E w)] (fun μ' => μ' = gf_up (gf_up μ w 1 0) w 2 0) := by
  refine gf_mv (by decide +kernel) (Nat.le_of_ble_eq_true rfl) (by decide) (fun X Q hlx C hname hQ => ?_)
  subst hlx
  replace C : gf_C X E cc_Wr_clear 1 "GuardFigures$Writing" (gf_rm 0 0) := C
  show gf_G X E Q 1 gf_φ μ 0 [(0, .ref (gf_ad E w))] []
  refine gf_aload_n C dd_Wr_clear_0 0 rfl ?_
  refine gf_iconst C dd_Wr_clear_1 ?_
  refine gf_putI (z := 1) C gf_cl5 fl_Wr_18 dd_Wr_clear_2 rfl rfl rfl (by decide +kernel) hw.1 (by omega) ?_
  refine gf_nmM (fun m2 hm2 => ?_)
  refine gf_aload_n C dd_Wr_clear_5 0 rfl ?_
  refine gf_iconst C dd_Wr_clear_6 ?_
  refine gf_putI (z := 2) C gf_cl5 fl_Wr_22 dd_Wr_clear_7 rfl rfl rfl (by decide +kernel) hw.1 (by omega) ?_
  refine gf_nmM (fun m7 hm7 => ?_)
  refine gf_vret C hQ dd_Wr_clear_10 ?_
  rw [hm7, hm2]

theorem dd_Wr_resemble_0 : decode cc_Wr_resemble 0 = .ok (.aload_n 0, 1) := by decide +kernel
theorem dd_Wr_resemble_1 : decode cc_Wr_resemble 1 = .ok (.aload_n 1, 1) := by decide +kernel
theorem dd_Wr_resemble_2 : decode cc_Wr_resemble 2 = .ok (.getfield 18, 3) := by decide +kernel
theorem dd_Wr_resemble_5 : decode cc_Wr_resemble 5 = .ok (.putfield 18, 3) := by decide +kernel
theorem dd_Wr_resemble_8 : decode cc_Wr_resemble 8 = .ok (.aload_n 0, 1) := by decide +kernel
theorem dd_Wr_resemble_9 : decode cc_Wr_resemble 9 = .ok (.aload_n 1, 1) := by decide +kernel
theorem dd_Wr_resemble_10 : decode cc_Wr_resemble 10 = .ok (.getfield 22, 3) := by decide +kernel
theorem dd_Wr_resemble_13 : decode cc_Wr_resemble 13 = .ok (.putfield 22, 3) := by decide +kernel
theorem dd_Wr_resemble_16 : decode cc_Wr_resemble 16 = .ok (.aload_n 1, 1) := by decide +kernel
theorem dd_Wr_resemble_17 : decode cc_Wr_resemble 17 = .ok (.getfield 9, 3) := by decide +kernel
theorem dd_Wr_resemble_20 : decode cc_Wr_resemble 20 = .ok (.iconst 0, 1) := by decide +kernel
theorem dd_Wr_resemble_21 : decode cc_Wr_resemble 21 = .ok (.aload_n 0, 1) := by decide +kernel
theorem dd_Wr_resemble_22 : decode cc_Wr_resemble 22 = .ok (.getfield 9, 3) := by decide +kernel
theorem dd_Wr_resemble_25 : decode cc_Wr_resemble 25 = .ok (.iconst 0, 1) := by decide +kernel
theorem dd_Wr_resemble_26 : decode cc_Wr_resemble 26 = .ok (.aload_n 0, 1) := by decide +kernel
theorem dd_Wr_resemble_27 : decode cc_Wr_resemble 27 = .ok (.getfield 18, 3) := by decide +kernel
theorem dd_Wr_resemble_30 : decode cc_Wr_resemble 30 = .ok (.invokestatic 25, 3) := by decide +kernel
theorem dd_Wr_resemble_33 : decode cc_Wr_resemble 33 = .ok (.aload_n 1, 1) := by decide +kernel
theorem dd_Wr_resemble_34 : decode cc_Wr_resemble 34 = .ok (.getfield 15, 3) := by decide +kernel
theorem dd_Wr_resemble_37 : decode cc_Wr_resemble 37 = .ok (.iconst 0, 1) := by decide +kernel
theorem dd_Wr_resemble_38 : decode cc_Wr_resemble 38 = .ok (.aload_n 0, 1) := by decide +kernel
theorem dd_Wr_resemble_39 : decode cc_Wr_resemble 39 = .ok (.getfield 15, 3) := by decide +kernel
theorem dd_Wr_resemble_42 : decode cc_Wr_resemble 42 = .ok (.iconst 0, 1) := by decide +kernel
theorem dd_Wr_resemble_43 : decode cc_Wr_resemble 43 = .ok (.aload_n 0, 1) := by decide +kernel
theorem dd_Wr_resemble_44 : decode cc_Wr_resemble 44 = .ok (.getfield 22, 3) := by decide +kernel
theorem dd_Wr_resemble_47 : decode cc_Wr_resemble 47 = .ok (.invokestatic 25, 3) := by decide +kernel
theorem dd_Wr_resemble_50 : decode cc_Wr_resemble 50 = .ok (.return_, 1) := by decide +kernel
set_option maxRecDepth 100000 in
set_option maxHeartbeats 4000000 in
theorem ct_Wr_resemble (l : Launch) (E : gf_E) (w : Int) (μ : gf_M) (hw : gf_oWr w) (o : Int) (ho : gf_oWr o) (hne : o ≤ w - 3 ∨ w + 3 ≤ o) (hs : 0 ≤ μ o 1 ∧ μ o 1 ≤ 8) (hd : 0 ≤ μ o 2 ∧ μ o 2 ≤ 40) : gf_Mv l E yy_Wr_resemble cc_Wr_resemble 2 (gf_rm 1 30) 81 gf_ref 0 0 81 gf_ref μ [.ref (gf_ad E w), .ref (gf_ad E o)] (fun μ' => μ' w 1 = μ o 1 ∧ μ' w 2 = μ o 2 ∧ (∀ j : Int, 0 ≤ j → j < μ o 1 → μ' (w + 1) j = μ (o + 1) j) ∧ (∀ j : Int, 0 ≤ j → j < μ o 2 → μ' (w + 2) j = μ (o + 2) j) ∧ ∀ a b : Int, ¬ (a = w ∧ (b = 1 ∨ b = 2)) → a ≠ w + 1 → a ≠ w + 2 → μ' a b = μ a b) := by
  refine gf_mv (by decide +kernel) (Nat.le_of_ble_eq_true rfl) (by decide) (fun X Q hlx C hname hQ => ?_)
  subst hlx
  replace C : gf_C X E cc_Wr_resemble 2 "GuardFigures$Writing" (gf_rm 1 30) := C
  show gf_G X E Q 2 gf_φ μ 0 [(0, .ref (gf_ad E w)), (1, .ref (gf_ad E o))] []
  refine gf_aload_n C dd_Wr_resemble_0 0 rfl ?_
  refine gf_aload_n C dd_Wr_resemble_1 1 rfl ?_
  refine gf_getI (z := 1) C gf_cl5 fl_Wr_18 dd_Wr_resemble_2 rfl rfl ho.1 (fun hv2 => ?_)
  refine gf_putI (z := 1) C gf_cl5 fl_Wr_18 dd_Wr_resemble_5 rfl rfl rfl (by decide +kernel) hw.1 (by omega) ?_
  refine gf_nmM (fun m5 hm5 => ?_)
  refine gf_aload_n C dd_Wr_resemble_8 0 rfl ?_
  refine gf_aload_n C dd_Wr_resemble_9 1 rfl ?_
  refine gf_getI (z := 2) C gf_cl5 fl_Wr_22 dd_Wr_resemble_10 rfl rfl ho.1 (fun hv10 => ?_)
  refine gf_putI (z := 2) C gf_cl5 fl_Wr_22 dd_Wr_resemble_13 rfl rfl rfl (by decide +kernel) hw.1 (by omega) ?_
  refine gf_nmM (fun m13 hm13 => ?_)
  have e5 : ∀ a b : Int, ¬ (a = w ∧ b = 1) → m5 a b = μ a b := fun a b h => by
    rw [hm5]; by_cases ha : a = w
    · exact gf_up_j (fun hb => h ⟨ha, hb⟩)
    · exact gf_up_k ha
  have e13 : ∀ a b : Int, ¬ (a = w ∧ (b = 1 ∨ b = 2)) → m13 a b = μ a b := fun a b h => by
    rw [hm13]; by_cases ha : a = w
    · rw [gf_up_j (by omega)]; exact e5 a b (by omega)
    · rw [gf_up_k ha]; exact e5 a b (by omega)
  have e131 : m13 w 1 = μ o 1 := by rw [hm13, gf_up_j (by decide), hm5]; exact gf_up_s
  have e132 : m13 w 2 = μ o 2 := by rw [hm13, gf_up_s]; exact e5 o 2 (by omega)
  refine gf_aload_n C dd_Wr_resemble_16 1 rfl ?_
  refine gf_getA (r := (o + 1)) C gf_cl5 fl_Wr_9 dd_Wr_resemble_17 rfl ho.1 ho.2.1 (ho.2.2.1).1 ?_
  refine gf_iconst C dd_Wr_resemble_20 ?_
  refine gf_aload_n C dd_Wr_resemble_21 0 rfl ?_
  refine gf_getA (r := (w + 1)) C gf_cl5 fl_Wr_9 dd_Wr_resemble_22 rfl hw.1 hw.2.1 (hw.2.2.1).1 ?_
  refine gf_iconst C dd_Wr_resemble_25 ?_
  refine gf_aload_n C dd_Wr_resemble_26 0 rfl ?_
  refine gf_getI (z := 1) C gf_cl5 fl_Wr_18 dd_Wr_resemble_27 rfl rfl hw.1 (fun hv27 => ?_)
  refine gf_copy (x := 0) (y := 0) (n := (m13 w 1)) rfl C (gf_mem 517 (by decide +kernel) (by decide +kernel)) gf_wCp.1 gf_wCp.2.1 gf_wCp.2.2 (by decide) (by decide +kernel) dd_Wr_resemble_30 ho.2.2.1 hw.2.2.1 (by omega) ?_
  refine gf_nmM (fun m30 hm30 => ?_)
  have e30 : ∀ a b : Int, a ≠ w + 1 → m30 a b = m13 a b := fun a b h => by rw [hm30]; simp [gf_cp, h]
  have e301 := e30 w 1 (by omega)
  have e302 := e30 w 2 (by omega)
  refine gf_aload_n C dd_Wr_resemble_33 1 rfl ?_
  refine gf_getA (r := (o + 2)) C gf_cl5 fl_Wr_15 dd_Wr_resemble_34 rfl ho.1 ho.2.2.2.1 (ho.2.2.2.2).1 ?_
  refine gf_iconst C dd_Wr_resemble_37 ?_
  refine gf_aload_n C dd_Wr_resemble_38 0 rfl ?_
  refine gf_getA (r := (w + 2)) C gf_cl5 fl_Wr_15 dd_Wr_resemble_39 rfl hw.1 hw.2.2.2.1 (hw.2.2.2.2).1 ?_
  refine gf_iconst C dd_Wr_resemble_42 ?_
  refine gf_aload_n C dd_Wr_resemble_43 0 rfl ?_
  refine gf_getI (z := 2) C gf_cl5 fl_Wr_22 dd_Wr_resemble_44 rfl rfl hw.1 (fun hv44 => ?_)
  refine gf_copy (x := 0) (y := 0) (n := (m30 w 2)) rfl C (gf_mem 517 (by decide +kernel) (by decide +kernel)) gf_wCp.1 gf_wCp.2.1 gf_wCp.2.2 (by decide) (by decide +kernel) dd_Wr_resemble_47 ho.2.2.2.2 hw.2.2.2.2 (by omega) ?_
  refine gf_nmM (fun m47 hm47 => ?_)
  refine gf_vret C hQ dd_Wr_resemble_50 ?_
  have e47 : ∀ a b : Int, a ≠ w + 2 → m47 a b = m30 a b := fun a b h => by rw [hm47]; simp [gf_cp, h]
  refine ⟨by rw [e47 _ _ (by omega)]; omega, by rw [e47 _ _ (by omega)]; omega, fun j h0 h1 => ?_, fun j h0 h1 => ?_, fun a b h1 h2 h3 => by rw [e47 _ _ h3, e30 _ _ h2]; exact e13 a b h1⟩
  · rw [e47 _ _ (by omega), hm30]
    unfold gf_cp
    rw [if_pos ⟨rfl, h0, by omega⟩, e13 _ _ (by omega)]
    congr 1
    omega
  · rw [hm47]
    unfold gf_cp
    rw [if_pos ⟨rfl, h0, by omega⟩, e30 _ _ (by omega), e13 _ _ (by omega)]
    congr 1
    omega

theorem dd_Wr_remember_0 : decode cc_Wr_remember 0 = .ok (.aload_n 0, 1) := by decide +kernel
theorem dd_Wr_remember_1 : decode cc_Wr_remember 1 = .ok (.getfield 22, 3) := by decide +kernel
theorem dd_Wr_remember_4 : decode cc_Wr_remember 4 = .ok (.bipush 40, 2) := by decide +kernel
theorem dd_Wr_remember_6 : decode cc_Wr_remember 6 = .ok (.if_icmp .lt 4, 3) := by decide +kernel
theorem dd_Wr_remember_9 : decode cc_Wr_remember 9 = .ok (.return_, 1) := by decide +kernel
theorem dd_Wr_remember_10 : decode cc_Wr_remember 10 = .ok (.iconst 1, 1) := by decide +kernel
theorem dd_Wr_remember_11 : decode cc_Wr_remember 11 = .ok (.istore_n 1, 1) := by decide +kernel
theorem dd_Wr_remember_12 : decode cc_Wr_remember 12 = .ok (.iconst 0, 1) := by decide +kernel
theorem dd_Wr_remember_13 : decode cc_Wr_remember 13 = .ok (.istore_n 2, 1) := by decide +kernel
theorem dd_Wr_remember_14 : decode cc_Wr_remember 14 = .ok (.iload_n 2, 1) := by decide +kernel
theorem dd_Wr_remember_15 : decode cc_Wr_remember 15 = .ok (.aload_n 0, 1) := by decide +kernel
theorem dd_Wr_remember_16 : decode cc_Wr_remember 16 = .ok (.getfield 18, 3) := by decide +kernel
theorem dd_Wr_remember_19 : decode cc_Wr_remember 19 = .ok (.if_icmp .ge 21, 3) := by decide +kernel
theorem dd_Wr_remember_22 : decode cc_Wr_remember 22 = .ok (.iload_n 1, 1) := by decide +kernel
theorem dd_Wr_remember_23 : decode cc_Wr_remember 23 = .ok (.bipush 10, 2) := by decide +kernel
theorem dd_Wr_remember_25 : decode cc_Wr_remember 25 = .ok (.imul, 1) := by decide +kernel
theorem dd_Wr_remember_26 : decode cc_Wr_remember 26 = .ok (.aload_n 0, 1) := by decide +kernel
theorem dd_Wr_remember_27 : decode cc_Wr_remember 27 = .ok (.getfield 9, 3) := by decide +kernel
theorem dd_Wr_remember_30 : decode cc_Wr_remember 30 = .ok (.iload_n 2, 1) := by decide +kernel
theorem dd_Wr_remember_31 : decode cc_Wr_remember 31 = .ok (.iaload, 1) := by decide +kernel
theorem dd_Wr_remember_32 : decode cc_Wr_remember 32 = .ok (.iadd, 1) := by decide +kernel
theorem dd_Wr_remember_33 : decode cc_Wr_remember 33 = .ok (.istore_n 1, 1) := by decide +kernel
theorem dd_Wr_remember_34 : decode cc_Wr_remember 34 = .ok (.iinc 2 1, 3) := by decide +kernel
theorem dd_Wr_remember_37 : decode cc_Wr_remember 37 = .ok (.goto (-23), 3) := by decide +kernel
theorem dd_Wr_remember_40 : decode cc_Wr_remember 40 = .ok (.aload_n 0, 1) := by decide +kernel
theorem dd_Wr_remember_41 : decode cc_Wr_remember 41 = .ok (.getfield 15, 3) := by decide +kernel
theorem dd_Wr_remember_44 : decode cc_Wr_remember 44 = .ok (.aload_n 0, 1) := by decide +kernel
theorem dd_Wr_remember_45 : decode cc_Wr_remember 45 = .ok (.getfield 22, 3) := by decide +kernel
theorem dd_Wr_remember_48 : decode cc_Wr_remember 48 = .ok (.iload_n 1, 1) := by decide +kernel
theorem dd_Wr_remember_49 : decode cc_Wr_remember 49 = .ok (.iastore, 1) := by decide +kernel
theorem dd_Wr_remember_50 : decode cc_Wr_remember 50 = .ok (.aload_n 0, 1) := by decide +kernel
theorem dd_Wr_remember_51 : decode cc_Wr_remember 51 = .ok (.dup, 1) := by decide +kernel
theorem dd_Wr_remember_52 : decode cc_Wr_remember 52 = .ok (.getfield 22, 3) := by decide +kernel
theorem dd_Wr_remember_55 : decode cc_Wr_remember 55 = .ok (.iconst 1, 1) := by decide +kernel
theorem dd_Wr_remember_56 : decode cc_Wr_remember 56 = .ok (.iadd, 1) := by decide +kernel
theorem dd_Wr_remember_57 : decode cc_Wr_remember 57 = .ok (.putfield 22, 3) := by decide +kernel
theorem dd_Wr_remember_60 : decode cc_Wr_remember 60 = .ok (.return_, 1) := by decide +kernel
set_option maxRecDepth 100000 in
set_option maxHeartbeats 4000000 in
theorem ct_Wr_remember (l : Launch) (E : gf_E) (w : Int) (μ : gf_M) (hw : gf_oWr w) (hs : 0 ≤ μ w 1 ∧ μ w 1 ≤ 8) (hd : 0 ≤ μ w 2 ∧ μ w 2 < 40) (hF : gf_okF μ (w + 1) (μ w 1)) : gf_Mv l E yy_Wr_remember cc_Wr_remember 3 (gf_rm 0 0) 81 gf_ref 0 0 81 gf_ref μ [.ref (gf_ad E w)] (fun μ' => μ' = gf_up (gf_up μ (w + 2) (μ w 2) (pf_enc (μ (w + 1)) (μ w 1).toNat)) w 2 (μ w 2 + 1)) := by
  refine gf_mv (by decide +kernel) (Nat.le_of_ble_eq_true rfl) (by decide) (fun X Q hlx C hname hQ => ?_)
  subst hlx
  replace C : gf_C X E cc_Wr_remember 3 "GuardFigures$Writing" (gf_rm 0 0) := C
  show gf_G X E Q 3 gf_φ μ 0 [(0, .ref (gf_ad E w))] []
  refine gf_aload_n C dd_Wr_remember_0 0 rfl ?_
  refine gf_getI (z := 2) C gf_cl5 fl_Wr_22 dd_Wr_remember_1 rfl rfl hw.1 (fun hv1 => ?_)
  refine gf_bipush C dd_Wr_remember_4 (by decide +kernel) ?_
  refine gf_icmp_lt 10 C dd_Wr_remember_6 (by decide) (by omega) (by omega) (fun h6 => ?_) (fun h6 => ?_)
  · skip
    refine gf_iconst C dd_Wr_remember_10 ?_
    refine gf_istore_n (lv' := [(1, .int (gf_i 1)), (0, .ref (gf_ad E w))]) C dd_Wr_remember_11 (by decide) rfl ?_
    refine gf_iconst C dd_Wr_remember_12 ?_
    refine gf_istore_n (lv' := [(2, .int (gf_i 0)), (1, .int (gf_i 1)), (0, .ref (gf_ad E w))]) C dd_Wr_remember_13 (by decide) rfl ?_
    have L14_1 : ∀ (N : Nat) (s i : Int) , (0 ≤ i ∧ i ≤ μ w 1 ∧ s = pf_enc (μ (w + 1)) i.toNat) → (8 - i).toNat < N → gf_G X E Q 3 gf_φ μ 14 [(1, .int (gf_i s)), (2, .int (gf_i i)), (0, .ref (gf_ad E w))] [] := by
      intro N
      induction N with
      | zero => intro s i hinv hN; exact absurd hN (Nat.not_lt_zero _)
      | succ N ih14_1 =>
        intro s i hinv hN
        have hinv0 := hinv
        obtain ⟨hi0, hi1, hi2⟩ := hinv
        have hB := pf_enc_8 (f := μ (w + 1)) (n := i.toNat) (by omega) (fun j h0 h1 => hF j h0 (by omega))
        rw [← hi2] at hB
        refine gf_iload_n C dd_Wr_remember_14 1 rfl ?_
        refine gf_aload_n C dd_Wr_remember_15 2 rfl ?_
        refine gf_getI (z := 1) C gf_cl5 fl_Wr_18 dd_Wr_remember_16 rfl rfl hw.1 (fun hv16 => ?_)
        refine gf_icmp_ge 40 C dd_Wr_remember_19 (by decide) (by omega) (by omega) (fun h19 => ?_) (fun h19 => ?_)
        · skip
          refine gf_aload_n C dd_Wr_remember_40 2 rfl ?_
          refine gf_getA (r := (w + 2)) C gf_cl5 fl_Wr_15 dd_Wr_remember_41 rfl hw.1 hw.2.2.2.1 (hw.2.2.2.2).1 ?_
          refine gf_aload_n C dd_Wr_remember_44 2 rfl ?_
          refine gf_getI (z := 2) C gf_cl5 fl_Wr_22 dd_Wr_remember_45 rfl rfl hw.1 (fun hv45 => ?_)
          refine gf_iload_n C dd_Wr_remember_48 0 rfl ?_
          refine gf_iast C dd_Wr_remember_49 hw.2.2.2.2 (by omega) (by omega) ?_
          refine gf_nmM (fun m49 hm49 => ?_)
          have e49 : m49 w 2 = μ w 2 := by rw [hm49]; exact gf_up_k (by omega)
          refine gf_aload_n C dd_Wr_remember_50 2 rfl ?_
          refine gf_dup C dd_Wr_remember_51 rfl ?_
          refine gf_getI (z := 2) C gf_cl5 fl_Wr_22 dd_Wr_remember_52 rfl rfl hw.1 (fun hv52 => ?_)
          refine gf_iconst C dd_Wr_remember_55 ?_
          refine gf_iadd C dd_Wr_remember_56 ?_
          refine gf_putI (z := 2) C gf_cl5 fl_Wr_22 dd_Wr_remember_57 rfl rfl rfl (by decide +kernel) hw.1 (by omega) ?_
          refine gf_nmM (fun m57 hm57 => ?_)
          refine gf_vret C hQ dd_Wr_remember_60 ?_
          rw [hm57, e49, hm49, hi2, show i = μ w 1 by omega]
        · skip
          refine gf_iload_n C dd_Wr_remember_22 0 rfl ?_
          refine gf_bipush C dd_Wr_remember_23 (by decide +kernel) ?_
          refine gf_imul C dd_Wr_remember_25 ?_
          refine gf_aload_n C dd_Wr_remember_26 2 rfl ?_
          refine gf_getA (r := (w + 1)) C gf_cl5 fl_Wr_9 dd_Wr_remember_27 rfl hw.1 hw.2.1 (hw.2.2.1).1 ?_
          refine gf_iload_n C dd_Wr_remember_30 1 rfl ?_
          have hfi := hF i (by omega) (by omega)
          refine gf_iald C dd_Wr_remember_31 hw.2.2.1 (by omega) (fun hv31 => ?_)
          refine gf_iadd C dd_Wr_remember_32 ?_
          refine gf_nm (fun x33 hx33 => ?_)
          refine gf_istore_n (lv' := [(1, .int (gf_i x33)), (2, .int (gf_i i)), (0, .ref (gf_ad E w))]) C dd_Wr_remember_33 (by decide) rfl ?_
          obtain ⟨x34, hx34⟩ : ∃ y : Int, y = i + 1 := ⟨_, rfl⟩
          refine gf_iinc (q := 1) (v := x34) (lv' := [(2, .int (gf_i x34)), (1, .int (gf_i x33)), (0, .ref (gf_ad E w))]) C dd_Wr_remember_34 rfl hx34 (by decide) rfl ?_
          refine gf_goto 14 C dd_Wr_remember_37 (by decide) ?_
          refine gf_lsub [1, 0, 2] rfl ?_
          exact ih14_1 x33 x34 (by
                  refine ⟨by omega, by omega, ?_⟩
                  rw [hx33, hx34, hi2, show (i + 1).toNat = i.toNat + 1 by omega]
                  show _ = _ * 10 + μ (w + 1) ((i.toNat : Nat) : Int)
                  rw [show ((i.toNat : Nat) : Int) = i by omega]) (by omega)
    refine gf_lsub [1, 0, 2] rfl ?_
    exact L14_1 _ 1 0 (⟨by omega, by omega, rfl⟩) (Nat.lt_succ_self _)
  · skip
    refine gf_vret C hQ dd_Wr_remember_9 ?_
    omega

theorem dd_Wr_append_0 : decode cc_Wr_append 0 = .ok (.aload_n 0, 1) := by decide +kernel
theorem dd_Wr_append_1 : decode cc_Wr_append 1 = .ok (.getfield 18, 3) := by decide +kernel
theorem dd_Wr_append_4 : decode cc_Wr_append 4 = .ok (.bipush 8, 2) := by decide +kernel
theorem dd_Wr_append_6 : decode cc_Wr_append 6 = .ok (.if_icmp .ge 23, 3) := by decide +kernel
theorem dd_Wr_append_9 : decode cc_Wr_append 9 = .ok (.aload_n 0, 1) := by decide +kernel
theorem dd_Wr_append_10 : decode cc_Wr_append 10 = .ok (.getfield 9, 3) := by decide +kernel
theorem dd_Wr_append_13 : decode cc_Wr_append 13 = .ok (.aload_n 0, 1) := by decide +kernel
theorem dd_Wr_append_14 : decode cc_Wr_append 14 = .ok (.getfield 18, 3) := by decide +kernel
theorem dd_Wr_append_17 : decode cc_Wr_append 17 = .ok (.iload_n 1, 1) := by decide +kernel
theorem dd_Wr_append_18 : decode cc_Wr_append 18 = .ok (.iastore, 1) := by decide +kernel
theorem dd_Wr_append_19 : decode cc_Wr_append 19 = .ok (.aload_n 0, 1) := by decide +kernel
theorem dd_Wr_append_20 : decode cc_Wr_append 20 = .ok (.dup, 1) := by decide +kernel
theorem dd_Wr_append_21 : decode cc_Wr_append 21 = .ok (.getfield 18, 3) := by decide +kernel
theorem dd_Wr_append_24 : decode cc_Wr_append 24 = .ok (.iconst 1, 1) := by decide +kernel
theorem dd_Wr_append_25 : decode cc_Wr_append 25 = .ok (.iadd, 1) := by decide +kernel
theorem dd_Wr_append_26 : decode cc_Wr_append 26 = .ok (.putfield 18, 3) := by decide +kernel
theorem dd_Wr_append_29 : decode cc_Wr_append 29 = .ok (.return_, 1) := by decide +kernel
set_option maxRecDepth 100000 in
set_option maxHeartbeats 4000000 in
theorem ct_Wr_append (l : Launch) (E : gf_E) (w : Int) (μ : gf_M) (hw : gf_oWr w) (f : Int) (hs : 0 ≤ μ w 1 ∧ μ w 1 ≤ 8) (hf : gf_R f) : gf_Mv l E yy_Wr_append cc_Wr_append 2 (gf_rm 0 0) 81 gf_ref 0 0 81 gf_ref μ [.ref (gf_ad E w), .int (gf_i f)] (fun μ' => μ' = if μ w 1 < 8 then gf_up (gf_up μ (w + 1) (μ w 1) f) w 1 (μ w 1 + 1) else μ) := by
  refine gf_mv (by decide +kernel) (Nat.le_of_ble_eq_true rfl) (by decide) (fun X Q hlx C hname hQ => ?_)
  subst hlx
  replace C : gf_C X E cc_Wr_append 2 "GuardFigures$Writing" (gf_rm 0 0) := C
  show gf_G X E Q 2 gf_φ μ 0 [(0, .ref (gf_ad E w)), (1, .int (gf_i f))] []
  refine gf_aload_n C dd_Wr_append_0 0 rfl ?_
  refine gf_getI (z := 1) C gf_cl5 fl_Wr_18 dd_Wr_append_1 rfl rfl hw.1 (fun hv1 => ?_)
  refine gf_bipush C dd_Wr_append_4 (by decide +kernel) ?_
  refine gf_icmp_ge 29 C dd_Wr_append_6 (by decide) (by omega) (by omega) (fun h6 => ?_) (fun h6 => ?_)
  · skip
    refine gf_vret C hQ dd_Wr_append_29 ?_
    first | (rw [if_pos (by omega), hm26, e18, hm18]; done) | (rw [if_neg (by omega)]; done)
  · skip
    refine gf_aload_n C dd_Wr_append_9 0 rfl ?_
    refine gf_getA (r := (w + 1)) C gf_cl5 fl_Wr_9 dd_Wr_append_10 rfl hw.1 hw.2.1 (hw.2.2.1).1 ?_
    refine gf_aload_n C dd_Wr_append_13 0 rfl ?_
    refine gf_getI (z := 1) C gf_cl5 fl_Wr_18 dd_Wr_append_14 rfl rfl hw.1 (fun hv14 => ?_)
    refine gf_iload_n C dd_Wr_append_17 1 rfl ?_
    refine gf_iast C dd_Wr_append_18 hw.2.2.1 (by omega) (by omega) ?_
    refine gf_nmM (fun m18 hm18 => ?_)
    have e18 : m18 w 1 = μ w 1 := by rw [hm18]; exact gf_up_k (by omega)
    refine gf_aload_n C dd_Wr_append_19 0 rfl ?_
    refine gf_dup C dd_Wr_append_20 rfl ?_
    refine gf_getI (z := 1) C gf_cl5 fl_Wr_18 dd_Wr_append_21 rfl rfl hw.1 (fun hv21 => ?_)
    refine gf_iconst C dd_Wr_append_24 ?_
    refine gf_iadd C dd_Wr_append_25 ?_
    refine gf_putI (z := 1) C gf_cl5 fl_Wr_18 dd_Wr_append_26 rfl rfl rfl (by decide +kernel) hw.1 (by omega) ?_
    refine gf_nmM (fun m26 hm26 => ?_)
    refine gf_vret C hQ dd_Wr_append_29 ?_
    first | (rw [if_pos (by omega), hm26, e18, hm18]; done) | (rw [if_neg (by omega)]; done)

theorem dd_Wr_removeLast_0 : decode cc_Wr_removeLast 0 = .ok (.aload_n 0, 1) := by decide +kernel
theorem dd_Wr_removeLast_1 : decode cc_Wr_removeLast 1 = .ok (.getfield 18, 3) := by decide +kernel
theorem dd_Wr_removeLast_4 : decode cc_Wr_removeLast 4 = .ok (.ifCond .ne 6, 3) := by decide +kernel
theorem dd_Wr_removeLast_7 : decode cc_Wr_removeLast 7 = .ok (.bipush (-9), 2) := by decide +kernel
theorem dd_Wr_removeLast_9 : decode cc_Wr_removeLast 9 = .ok (.ireturn, 1) := by decide +kernel
theorem dd_Wr_removeLast_10 : decode cc_Wr_removeLast 10 = .ok (.aload_n 0, 1) := by decide +kernel
theorem dd_Wr_removeLast_11 : decode cc_Wr_removeLast 11 = .ok (.dup, 1) := by decide +kernel
theorem dd_Wr_removeLast_12 : decode cc_Wr_removeLast 12 = .ok (.getfield 18, 3) := by decide +kernel
theorem dd_Wr_removeLast_15 : decode cc_Wr_removeLast 15 = .ok (.iconst 1, 1) := by decide +kernel
theorem dd_Wr_removeLast_16 : decode cc_Wr_removeLast 16 = .ok (.isub, 1) := by decide +kernel
theorem dd_Wr_removeLast_17 : decode cc_Wr_removeLast 17 = .ok (.putfield 18, 3) := by decide +kernel
theorem dd_Wr_removeLast_20 : decode cc_Wr_removeLast 20 = .ok (.aload_n 0, 1) := by decide +kernel
theorem dd_Wr_removeLast_21 : decode cc_Wr_removeLast 21 = .ok (.getfield 9, 3) := by decide +kernel
theorem dd_Wr_removeLast_24 : decode cc_Wr_removeLast 24 = .ok (.aload_n 0, 1) := by decide +kernel
theorem dd_Wr_removeLast_25 : decode cc_Wr_removeLast 25 = .ok (.getfield 18, 3) := by decide +kernel
theorem dd_Wr_removeLast_28 : decode cc_Wr_removeLast 28 = .ok (.iaload, 1) := by decide +kernel
theorem dd_Wr_removeLast_29 : decode cc_Wr_removeLast 29 = .ok (.ireturn, 1) := by decide +kernel
set_option maxRecDepth 100000 in
set_option maxHeartbeats 4000000 in
theorem ct_Wr_removeLast (l : Launch) (E : gf_E) (w : Int) (μ : gf_M) (hw : gf_oWr w) (hs : 0 ≤ μ w 1 ∧ μ w 1 ≤ 8) : gf_Mi l E yy_Wr_removeLast cc_Wr_removeLast 1 .int (gf_rm 0 0) 81 gf_ref μ [.ref (gf_ad E w)] (fun r μ' => (μ w 1 = 0 → r = -9 ∧ μ' = μ) ∧ (μ w 1 ≠ 0 → r = μ (w + 1) (μ w 1 - 1) ∧ μ' = gf_up μ w 1 (μ w 1 - 1))) := by
  refine gf_mi (by decide +kernel) (Nat.le_of_ble_eq_true rfl) (by decide) (fun X Q hlx C hQ => ?_)
  subst hlx
  replace C : gf_C X E cc_Wr_removeLast 1 "GuardFigures$Writing" (gf_rm 0 0) := C
  show gf_G X E Q 1 gf_φ μ 0 [(0, .ref (gf_ad E w))] []
  refine gf_aload_n C dd_Wr_removeLast_0 0 rfl ?_
  refine gf_getI (z := 1) C gf_cl5 fl_Wr_18 dd_Wr_removeLast_1 rfl rfl hw.1 (fun hv1 => ?_)
  refine gf_if_ne 10 C dd_Wr_removeLast_4 (by decide) (by omega) (fun h4 => ?_) (fun h4 => ?_)
  · skip
    refine gf_aload_n C dd_Wr_removeLast_10 0 rfl ?_
    refine gf_dup C dd_Wr_removeLast_11 rfl ?_
    refine gf_getI (z := 1) C gf_cl5 fl_Wr_18 dd_Wr_removeLast_12 rfl rfl hw.1 (fun hv12 => ?_)
    refine gf_iconst C dd_Wr_removeLast_15 ?_
    refine gf_isub C dd_Wr_removeLast_16 ?_
    refine gf_putI (z := 1) C gf_cl5 fl_Wr_18 dd_Wr_removeLast_17 rfl rfl rfl (by decide +kernel) hw.1 (by omega) ?_
    refine gf_nmM (fun m17 hm17 => ?_)
    have e17 : m17 w 1 = μ w 1 - 1 := by rw [hm17]; exact gf_up_s
    refine gf_aload_n C dd_Wr_removeLast_20 0 rfl ?_
    refine gf_getA (r := (w + 1)) C gf_cl5 fl_Wr_9 dd_Wr_removeLast_21 rfl hw.1 hw.2.1 (hw.2.2.1).1 ?_
    refine gf_aload_n C dd_Wr_removeLast_24 0 rfl ?_
    refine gf_getI (z := 1) C gf_cl5 fl_Wr_18 dd_Wr_removeLast_25 rfl rfl hw.1 (fun hv25 => ?_)
    refine gf_iald C dd_Wr_removeLast_28 hw.2.2.1 (by omega) (fun hv28 => ?_)
    refine gf_iret C hQ dd_Wr_removeLast_29 (by omega) ?_
    refine ⟨fun h => absurd h h4, fun _ => ⟨?_, hm17⟩⟩
    rw [e17, hm17]
    exact gf_up_k (by omega)
  · skip
    refine gf_bipush C dd_Wr_removeLast_7 (by decide +kernel) ?_
    refine gf_iret C hQ dd_Wr_removeLast_9 (by omega) ?_
    exact ⟨fun _ => ⟨rfl, rfl⟩, fun h => absurd h4 h⟩

theorem dd_Wr_doByLot_0 : decode cc_Wr_doByLot 0 = .ok (.iload_n 1, 1) := by decide +kernel
theorem dd_Wr_doByLot_1 : decode cc_Wr_doByLot 1 = .ok (.bipush 8, 2) := by decide +kernel
theorem dd_Wr_doByLot_3 : decode cc_Wr_doByLot 3 = .ok (.idiv, 1) := by decide +kernel
theorem dd_Wr_doByLot_4 : decode cc_Wr_doByLot 4 = .ok (.bipush 10, 2) := by decide +kernel
theorem dd_Wr_doByLot_6 : decode cc_Wr_doByLot 6 = .ok (.irem, 1) := by decide +kernel
theorem dd_Wr_doByLot_7 : decode cc_Wr_doByLot 7 = .ok (.istore_n 2, 1) := by decide +kernel
theorem dd_Wr_doByLot_8 : decode cc_Wr_doByLot 8 = .ok (.iload_n 1, 1) := by decide +kernel
theorem dd_Wr_doByLot_9 : decode cc_Wr_doByLot 9 = .ok (.sipush 128, 3) := by decide +kernel
theorem dd_Wr_doByLot_12 : decode cc_Wr_doByLot 12 = .ok (.idiv, 1) := by decide +kernel
theorem dd_Wr_doByLot_13 : decode cc_Wr_doByLot 13 = .ok (.bipush 8, 2) := by decide +kernel
theorem dd_Wr_doByLot_15 : decode cc_Wr_doByLot 15 = .ok (.irem, 1) := by decide +kernel
theorem dd_Wr_doByLot_16 : decode cc_Wr_doByLot 16 = .ok (.istore_n 3, 1) := by decide +kernel
theorem dd_Wr_doByLot_17 : decode cc_Wr_doByLot 17 = .ok (.iload_n 1, 1) := by decide +kernel
theorem dd_Wr_doByLot_18 : decode cc_Wr_doByLot 18 = .ok (.iconst 4, 1) := by decide +kernel
theorem dd_Wr_doByLot_19 : decode cc_Wr_doByLot 19 = .ok (.irem, 1) := by decide +kernel
theorem dd_Wr_doByLot_20 : decode cc_Wr_doByLot 20 = .ok (.istore 4, 2) := by decide +kernel
theorem dd_Wr_doByLot_22 : decode cc_Wr_doByLot 22 = .ok (.iload 4, 2) := by decide +kernel
theorem dd_Wr_doByLot_24 : decode cc_Wr_doByLot 24 = .ok (.iconst 1, 1) := by decide +kernel
theorem dd_Wr_doByLot_25 : decode cc_Wr_doByLot 25 = .ok (.if_icmp .gt 11, 3) := by decide +kernel
theorem dd_Wr_doByLot_28 : decode cc_Wr_doByLot 28 = .ok (.aload_n 0, 1) := by decide +kernel
theorem dd_Wr_doByLot_29 : decode cc_Wr_doByLot 29 = .ok (.iload_n 2, 1) := by decide +kernel
theorem dd_Wr_doByLot_30 : decode cc_Wr_doByLot 30 = .ok (.invokevirtual 31, 3) := by decide +kernel
theorem dd_Wr_doByLot_33 : decode cc_Wr_doByLot 33 = .ok (.goto 35, 3) := by decide +kernel
theorem dd_Wr_doByLot_36 : decode cc_Wr_doByLot 36 = .ok (.iload 4, 2) := by decide +kernel
theorem dd_Wr_doByLot_38 : decode cc_Wr_doByLot 38 = .ok (.iconst 2, 1) := by decide +kernel
theorem dd_Wr_doByLot_39 : decode cc_Wr_doByLot 39 = .ok (.if_icmp .ne 11, 3) := by decide +kernel
theorem dd_Wr_doByLot_42 : decode cc_Wr_doByLot 42 = .ok (.aload_n 0, 1) := by decide +kernel
theorem dd_Wr_doByLot_43 : decode cc_Wr_doByLot 43 = .ok (.invokevirtual 35, 3) := by decide +kernel
theorem dd_Wr_doByLot_46 : decode cc_Wr_doByLot 46 = .ok (.pop, 1) := by decide +kernel
theorem dd_Wr_doByLot_47 : decode cc_Wr_doByLot 47 = .ok (.goto 21, 3) := by decide +kernel
theorem dd_Wr_doByLot_50 : decode cc_Wr_doByLot 50 = .ok (.iload_n 3, 1) := by decide +kernel
theorem dd_Wr_doByLot_51 : decode cc_Wr_doByLot 51 = .ok (.aload_n 0, 1) := by decide +kernel
theorem dd_Wr_doByLot_52 : decode cc_Wr_doByLot 52 = .ok (.getfield 18, 3) := by decide +kernel
theorem dd_Wr_doByLot_55 : decode cc_Wr_doByLot 55 = .ok (.invokestatic 39, 3) := by decide +kernel
theorem dd_Wr_doByLot_58 : decode cc_Wr_doByLot 58 = .ok (.ifCond .eq 10, 3) := by decide +kernel
theorem dd_Wr_doByLot_61 : decode cc_Wr_doByLot 61 = .ok (.aload_n 0, 1) := by decide +kernel
theorem dd_Wr_doByLot_62 : decode cc_Wr_doByLot 62 = .ok (.getfield 9, 3) := by decide +kernel
theorem dd_Wr_doByLot_65 : decode cc_Wr_doByLot 65 = .ok (.iload_n 3, 1) := by decide +kernel
theorem dd_Wr_doByLot_66 : decode cc_Wr_doByLot 66 = .ok (.iload_n 2, 1) := by decide +kernel
theorem dd_Wr_doByLot_67 : decode cc_Wr_doByLot 67 = .ok (.iastore, 1) := by decide +kernel
theorem dd_Wr_doByLot_68 : decode cc_Wr_doByLot 68 = .ok (.return_, 1) := by decide +kernel
set_option maxRecDepth 100000 in
set_option maxHeartbeats 4000000 in
theorem ct_Wr_doByLot (l : Launch) (E : gf_E) (w : Int) (μ : gf_M) (hw : gf_oWr w) (lot : Int) (hs : 0 ≤ μ w 1 ∧ μ w 1 ≤ 8) (hl : 0 ≤ lot ∧ lot ≤ 2147483647) : gf_Mv l E yy_Wr_doByLot cc_Wr_doByLot 5 (gf_rm 1 21) 81 gf_ref 0 0 81 gf_ref μ [.ref (gf_ad E w), .int (gf_i lot)] (fun μ' => μ' = pf_lotW μ w lot) := by
  refine gf_mv (by decide +kernel) (Nat.le_of_ble_eq_true rfl) (by decide) (fun X Q hlx C hname hQ => ?_)
  subst hlx
  replace C : gf_C X E cc_Wr_doByLot 5 "GuardFigures$Writing" (gf_rm 1 21) := C
  show gf_G X E Q 5 gf_φ μ 0 [(0, .ref (gf_ad E w)), (1, .int (gf_i lot))] []
  refine gf_iload_n C dd_Wr_doByLot_0 1 rfl ?_
  refine gf_bipush C dd_Wr_doByLot_1 (by decide +kernel) ?_
  refine gf_idiv C dd_Wr_doByLot_3 (by omega) ?_
  refine gf_bipush C dd_Wr_doByLot_4 (by decide +kernel) ?_
  refine gf_irem C dd_Wr_doByLot_6 (by omega) ?_
  refine gf_nm (fun x7 hx7 => ?_)
  refine gf_istore_n (lv' := [(2, .int (gf_i x7)), (0, .ref (gf_ad E w)), (1, .int (gf_i lot))]) C dd_Wr_doByLot_7 (by decide) rfl ?_
  refine gf_iload_n C dd_Wr_doByLot_8 2 rfl ?_
  refine gf_sipush C dd_Wr_doByLot_9 (by decide +kernel) ?_
  refine gf_idiv C dd_Wr_doByLot_12 (by omega) ?_
  refine gf_bipush C dd_Wr_doByLot_13 (by decide +kernel) ?_
  refine gf_irem C dd_Wr_doByLot_15 (by omega) ?_
  refine gf_nm (fun x16 hx16 => ?_)
  refine gf_istore_n (lv' := [(3, .int (gf_i x16)), (2, .int (gf_i x7)), (0, .ref (gf_ad E w)), (1, .int (gf_i lot))]) C dd_Wr_doByLot_16 (by decide) rfl ?_
  refine gf_iload_n C dd_Wr_doByLot_17 3 rfl ?_
  refine gf_iconst C dd_Wr_doByLot_18 ?_
  refine gf_irem C dd_Wr_doByLot_19 (by omega) ?_
  refine gf_nm (fun x20 hx20 => ?_)
  refine gf_istore (lv' := [(4, .int (gf_i x20)), (3, .int (gf_i x16)), (2, .int (gf_i x7)), (0, .ref (gf_ad E w)), (1, .int (gf_i lot))]) C dd_Wr_doByLot_20 (by decide) rfl ?_
  refine gf_iload C dd_Wr_doByLot_22 0 rfl ?_
  refine gf_iconst C dd_Wr_doByLot_24 ?_
  refine gf_icmp_gt 36 C dd_Wr_doByLot_25 (by decide) (by omega) (by omega) (fun h25 => ?_) (fun h25 => ?_)
  · skip
    refine gf_iload C dd_Wr_doByLot_36 0 rfl ?_
    refine gf_iconst C dd_Wr_doByLot_38 ?_
    refine gf_icmp_ne 50 C dd_Wr_doByLot_39 (by decide) (by omega) (by omega) (fun h39 => ?_) (fun h39 => ?_)
    · skip
      refine gf_iload_n C dd_Wr_doByLot_50 1 rfl ?_
      refine gf_aload_n C dd_Wr_doByLot_51 3 rfl ?_
      refine gf_getI (z := 1) C gf_cl5 fl_Wr_18 dd_Wr_doByLot_52 rfl rfl hw.1 (fun hv52 => ?_)
      refine gf_callNi (st := []) (As := [.int (gf_i x16), .int (gf_i (μ w 1))]) C im_Fi_isWithin C.2.2.2.2.2.2.1.2.2.2.2.2.2.2.2.2.2.2 (ct_Fi_isWithin (gf_xl X) E x16 (μ w 1) μ (by omega) (by omega)) rfl ⟨rfl, rfl, rfl, rfl⟩ (Nat.le_of_ble_eq_true rfl) rfl dd_Wr_doByLot_55 (fun r55 m55 hR55 hp55 => ?_)
      have hr55 := hp55.1
      refine gf_pm hp55.2 ?_
      refine gf_if_eq 68 C dd_Wr_doByLot_58 (by decide) (by omega) (fun h58 => ?_) (fun h58 => ?_)
      · skip
        refine gf_vret C hQ dd_Wr_doByLot_68 ?_
        unfold pf_lotW
        rw [← hx20, ← hx7, ← hx16]
        first
          | (rw [if_pos (by omega)]; exact hp30)
          | (rw [if_neg (by omega), if_pos (by omega)]; by_cases hz : μ w 1 = 0; (rw [if_pos hz]; exact (hp43.1 hz).2); (rw [if_neg hz]; exact (hp43.2 hz).2))
          | (rw [if_neg (by omega), if_neg (by omega), if_pos (by have := hr55.2; omega)]; exact hm67)
          | (rw [if_neg (by omega), if_neg (by omega), if_neg (by have := hr55.1; omega)])
      · skip
        refine gf_aload_n C dd_Wr_doByLot_61 3 rfl ?_
        refine gf_getA (r := (w + 1)) C gf_cl5 fl_Wr_9 dd_Wr_doByLot_62 rfl hw.1 hw.2.1 (hw.2.2.1).1 ?_
        refine gf_iload_n C dd_Wr_doByLot_65 1 rfl ?_
        refine gf_iload_n C dd_Wr_doByLot_66 2 rfl ?_
        refine gf_iast C dd_Wr_doByLot_67 hw.2.2.1 (by omega) (by omega) ?_
        refine gf_nmM (fun m67 hm67 => ?_)
        refine gf_vret C hQ dd_Wr_doByLot_68 ?_
        unfold pf_lotW
        rw [← hx20, ← hx7, ← hx16]
        first
          | (rw [if_pos (by omega)]; exact hp30)
          | (rw [if_neg (by omega), if_pos (by omega)]; by_cases hz : μ w 1 = 0; (rw [if_pos hz]; exact (hp43.1 hz).2); (rw [if_neg hz]; exact (hp43.2 hz).2))
          | (rw [if_neg (by omega), if_neg (by omega), if_pos (by have := hr55.2; omega)]; exact hm67)
          | (rw [if_neg (by omega), if_neg (by omega), if_neg (by have := hr55.1; omega)])
    · skip
      refine gf_aload_n C dd_Wr_doByLot_42 3 rfl ?_
      refine gf_callVi (st := []) (As := []) C wk_Wr_35 gf_cl5 hw.1 (ct_Wr_removeLast (gf_xl X) E w μ hw (by omega)) rfl ⟨rfl, rfl, rfl, rfl⟩ (Nat.le_of_ble_eq_true rfl) rfl dd_Wr_doByLot_43 (fun r43 m43 hR43 hp43 => ?_)
      refine gf_pop C dd_Wr_doByLot_46 rfl ?_
      refine gf_goto 68 C dd_Wr_doByLot_47 (by decide) ?_
      refine gf_vret C hQ dd_Wr_doByLot_68 ?_
      unfold pf_lotW
      rw [← hx20, ← hx7, ← hx16]
      first
        | (rw [if_pos (by omega)]; exact hp30)
        | (rw [if_neg (by omega), if_pos (by omega)]; by_cases hz : μ w 1 = 0; (rw [if_pos hz]; exact (hp43.1 hz).2); (rw [if_neg hz]; exact (hp43.2 hz).2))
        | (rw [if_neg (by omega), if_neg (by omega), if_pos (by have := hr55.2; omega)]; exact hm67)
        | (rw [if_neg (by omega), if_neg (by omega), if_neg (by have := hr55.1; omega)])
  · skip
    refine gf_aload_n C dd_Wr_doByLot_28 3 rfl ?_
    refine gf_iload_n C dd_Wr_doByLot_29 2 rfl ?_
    refine gf_callVv (st := []) (As := [.int (gf_i x7)]) C wk_Wr_31 gf_cl5 hw.1 (ct_Wr_append (gf_xl X) E w μ hw x7 (by omega) (by omega)) rfl ⟨rfl, rfl, rfl, rfl⟩ (Nat.le_of_ble_eq_true rfl) rfl dd_Wr_doByLot_30 (fun m30 hp30 => ?_)
    refine gf_goto 68 C dd_Wr_doByLot_33 (by decide) ?_
    refine gf_vret C hQ dd_Wr_doByLot_68 ?_
    unfold pf_lotW
    rw [← hx20, ← hx7, ← hx16]
    first
      | (rw [if_pos (by omega)]; exact hp30)
      | (rw [if_neg (by omega), if_pos (by omega)]; by_cases hz : μ w 1 = 0; (rw [if_pos hz]; exact (hp43.1 hz).2); (rw [if_neg hz]; exact (hp43.2 hz).2))
      | (rw [if_neg (by omega), if_neg (by omega), if_pos (by have := hr55.2; omega)]; exact hm67)
      | (rw [if_neg (by omega), if_neg (by omega), if_neg (by have := hr55.1; omega)])

theorem dd_Wr_goBackTo_0 : decode cc_Wr_goBackTo 0 = .ok (.iload_n 1, 1) := by decide +kernel
theorem dd_Wr_goBackTo_1 : decode cc_Wr_goBackTo 1 = .ok (.ifCond .lt 11, 3) := by decide +kernel
theorem dd_Wr_goBackTo_4 : decode cc_Wr_goBackTo 4 = .ok (.iload_n 1, 1) := by decide +kernel
theorem dd_Wr_goBackTo_5 : decode cc_Wr_goBackTo 5 = .ok (.aload_n 0, 1) := by decide +kernel
theorem dd_Wr_goBackTo_6 : decode cc_Wr_goBackTo 6 = .ok (.getfield 22, 3) := by decide +kernel
theorem dd_Wr_goBackTo_9 : decode cc_Wr_goBackTo 9 = .ok (.if_icmp .lt 4, 3) := by decide +kernel
theorem dd_Wr_goBackTo_12 : decode cc_Wr_goBackTo 12 = .ok (.return_, 1) := by decide +kernel
theorem dd_Wr_goBackTo_13 : decode cc_Wr_goBackTo 13 = .ok (.aload_n 0, 1) := by decide +kernel
theorem dd_Wr_goBackTo_14 : decode cc_Wr_goBackTo 14 = .ok (.iload_n 1, 1) := by decide +kernel
theorem dd_Wr_goBackTo_15 : decode cc_Wr_goBackTo 15 = .ok (.putfield 22, 3) := by decide +kernel
theorem dd_Wr_goBackTo_18 : decode cc_Wr_goBackTo 18 = .ok (.aload_n 0, 1) := by decide +kernel
theorem dd_Wr_goBackTo_19 : decode cc_Wr_goBackTo 19 = .ok (.iconst 0, 1) := by decide +kernel
theorem dd_Wr_goBackTo_20 : decode cc_Wr_goBackTo 20 = .ok (.putfield 18, 3) := by decide +kernel
theorem dd_Wr_goBackTo_23 : decode cc_Wr_goBackTo 23 = .ok (.aload_n 0, 1) := by decide +kernel
theorem dd_Wr_goBackTo_24 : decode cc_Wr_goBackTo 24 = .ok (.getfield 15, 3) := by decide +kernel
theorem dd_Wr_goBackTo_27 : decode cc_Wr_goBackTo 27 = .ok (.iload_n 1, 1) := by decide +kernel
theorem dd_Wr_goBackTo_28 : decode cc_Wr_goBackTo 28 = .ok (.iaload, 1) := by decide +kernel
theorem dd_Wr_goBackTo_29 : decode cc_Wr_goBackTo 29 = .ok (.istore_n 2, 1) := by decide +kernel
theorem dd_Wr_goBackTo_30 : decode cc_Wr_goBackTo 30 = .ok (.iload_n 2, 1) := by decide +kernel
theorem dd_Wr_goBackTo_31 : decode cc_Wr_goBackTo 31 = .ok (.bipush 10, 2) := by decide +kernel
theorem dd_Wr_goBackTo_33 : decode cc_Wr_goBackTo 33 = .ok (.if_icmp .lt 30, 3) := by decide +kernel
theorem dd_Wr_goBackTo_36 : decode cc_Wr_goBackTo 36 = .ok (.aload_n 0, 1) := by decide +kernel
theorem dd_Wr_goBackTo_37 : decode cc_Wr_goBackTo 37 = .ok (.getfield 18, 3) := by decide +kernel
theorem dd_Wr_goBackTo_40 : decode cc_Wr_goBackTo 40 = .ok (.bipush 8, 2) := by decide +kernel
theorem dd_Wr_goBackTo_42 : decode cc_Wr_goBackTo 42 = .ok (.if_icmp .ge 21, 3) := by decide +kernel
theorem dd_Wr_goBackTo_45 : decode cc_Wr_goBackTo 45 = .ok (.aload_n 0, 1) := by decide +kernel
theorem dd_Wr_goBackTo_46 : decode cc_Wr_goBackTo 46 = .ok (.dup, 1) := by decide +kernel
theorem dd_Wr_goBackTo_47 : decode cc_Wr_goBackTo 47 = .ok (.getfield 18, 3) := by decide +kernel
theorem dd_Wr_goBackTo_50 : decode cc_Wr_goBackTo 50 = .ok (.iconst 1, 1) := by decide +kernel
theorem dd_Wr_goBackTo_51 : decode cc_Wr_goBackTo 51 = .ok (.iadd, 1) := by decide +kernel
theorem dd_Wr_goBackTo_52 : decode cc_Wr_goBackTo 52 = .ok (.putfield 18, 3) := by decide +kernel
theorem dd_Wr_goBackTo_55 : decode cc_Wr_goBackTo 55 = .ok (.iload_n 2, 1) := by decide +kernel
theorem dd_Wr_goBackTo_56 : decode cc_Wr_goBackTo 56 = .ok (.bipush 10, 2) := by decide +kernel
theorem dd_Wr_goBackTo_58 : decode cc_Wr_goBackTo 58 = .ok (.idiv, 1) := by decide +kernel
theorem dd_Wr_goBackTo_59 : decode cc_Wr_goBackTo 59 = .ok (.istore_n 2, 1) := by decide +kernel
theorem dd_Wr_goBackTo_60 : decode cc_Wr_goBackTo 60 = .ok (.goto (-30), 3) := by decide +kernel
theorem dd_Wr_goBackTo_63 : decode cc_Wr_goBackTo 63 = .ok (.aload_n 0, 1) := by decide +kernel
theorem dd_Wr_goBackTo_64 : decode cc_Wr_goBackTo 64 = .ok (.getfield 15, 3) := by decide +kernel
theorem dd_Wr_goBackTo_67 : decode cc_Wr_goBackTo 67 = .ok (.iload_n 1, 1) := by decide +kernel
theorem dd_Wr_goBackTo_68 : decode cc_Wr_goBackTo 68 = .ok (.iaload, 1) := by decide +kernel
theorem dd_Wr_goBackTo_69 : decode cc_Wr_goBackTo 69 = .ok (.istore_n 2, 1) := by decide +kernel
theorem dd_Wr_goBackTo_70 : decode cc_Wr_goBackTo 70 = .ok (.aload_n 0, 1) := by decide +kernel
theorem dd_Wr_goBackTo_71 : decode cc_Wr_goBackTo 71 = .ok (.getfield 18, 3) := by decide +kernel
theorem dd_Wr_goBackTo_74 : decode cc_Wr_goBackTo 74 = .ok (.iconst 1, 1) := by decide +kernel
theorem dd_Wr_goBackTo_75 : decode cc_Wr_goBackTo 75 = .ok (.isub, 1) := by decide +kernel
theorem dd_Wr_goBackTo_76 : decode cc_Wr_goBackTo 76 = .ok (.istore_n 3, 1) := by decide +kernel
theorem dd_Wr_goBackTo_77 : decode cc_Wr_goBackTo 77 = .ok (.iload_n 3, 1) := by decide +kernel
theorem dd_Wr_goBackTo_78 : decode cc_Wr_goBackTo 78 = .ok (.ifCond .lt 24, 3) := by decide +kernel
theorem dd_Wr_goBackTo_81 : decode cc_Wr_goBackTo 81 = .ok (.aload_n 0, 1) := by decide +kernel
theorem dd_Wr_goBackTo_82 : decode cc_Wr_goBackTo 82 = .ok (.getfield 9, 3) := by decide +kernel
theorem dd_Wr_goBackTo_85 : decode cc_Wr_goBackTo 85 = .ok (.iload_n 3, 1) := by decide +kernel
theorem dd_Wr_goBackTo_86 : decode cc_Wr_goBackTo 86 = .ok (.iload_n 2, 1) := by decide +kernel
theorem dd_Wr_goBackTo_87 : decode cc_Wr_goBackTo 87 = .ok (.bipush 10, 2) := by decide +kernel
theorem dd_Wr_goBackTo_89 : decode cc_Wr_goBackTo 89 = .ok (.irem, 1) := by decide +kernel
theorem dd_Wr_goBackTo_90 : decode cc_Wr_goBackTo 90 = .ok (.iastore, 1) := by decide +kernel
theorem dd_Wr_goBackTo_91 : decode cc_Wr_goBackTo 91 = .ok (.iload_n 2, 1) := by decide +kernel
theorem dd_Wr_goBackTo_92 : decode cc_Wr_goBackTo 92 = .ok (.bipush 10, 2) := by decide +kernel
theorem dd_Wr_goBackTo_94 : decode cc_Wr_goBackTo 94 = .ok (.idiv, 1) := by decide +kernel
theorem dd_Wr_goBackTo_95 : decode cc_Wr_goBackTo 95 = .ok (.istore_n 2, 1) := by decide +kernel
theorem dd_Wr_goBackTo_96 : decode cc_Wr_goBackTo 96 = .ok (.iinc 3 (-1), 3) := by decide +kernel
theorem dd_Wr_goBackTo_99 : decode cc_Wr_goBackTo 99 = .ok (.goto (-22), 3) := by decide +kernel
theorem dd_Wr_goBackTo_102 : decode cc_Wr_goBackTo 102 = .ok (.return_, 1) := by decide +kernel
set_option maxRecDepth 100000 in
set_option maxHeartbeats 4000000 in
theorem ct_Wr_goBackTo (l : Launch) (E : gf_E) (w : Int) (μ : gf_M) (hw : gf_oWr w) (n : Int) (f : Int → Int) (L : Nat) (hn : 0 ≤ n ∧ n ≤ μ w 2) (hd : μ w 2 ≤ 40) (hL : L ≤ 8) (hf : ∀ j : Int, 0 ≤ j → j < L → 0 ≤ f j ∧ f j ≤ 9) (he : n < μ w 2 → μ (w + 2) n = pf_enc f L) : gf_Mv l E yy_Wr_goBackTo cc_Wr_goBackTo 4 (gf_rm 0 0) 81 gf_ref 0 0 81 gf_ref μ [.ref (gf_ad E w), .int (gf_i n)] (fun μ' => (n = μ w 2 → μ' = μ) ∧ (n < μ w 2 → μ' w 1 = L ∧ μ' w 2 = n ∧ (∀ j : Int, 0 ≤ j → j < L → μ' (w + 1) j = f j) ∧ ∀ a b : Int, ¬ (a = w ∧ (b = 1 ∨ b = 2)) → a ≠ w + 1 → μ' a b = μ a b)) := by
  refine gf_mv (by decide +kernel) (Nat.le_of_ble_eq_true rfl) (by decide) (fun X Q hlx C hname hQ => ?_)
  subst hlx
  replace C : gf_C X E cc_Wr_goBackTo 4 "GuardFigures$Writing" (gf_rm 0 0) := C
  show gf_G X E Q 4 gf_φ μ 0 [(0, .ref (gf_ad E w)), (1, .int (gf_i n))] []
  have hEL := pf_enc_8 hL hf
  refine gf_iload_n C dd_Wr_goBackTo_0 1 rfl ?_
  refine gf_if_lt 12 C dd_Wr_goBackTo_1 (by decide) (by omega) (fun h1 => ?_) (fun h1 => ?_)
  · skip
    refine gf_vret C hQ dd_Wr_goBackTo_12 ?_
    exact ⟨fun _ => rfl, fun h => by omega⟩
  · skip
    refine gf_iload_n C dd_Wr_goBackTo_4 1 rfl ?_
    refine gf_aload_n C dd_Wr_goBackTo_5 0 rfl ?_
    refine gf_getI (z := 2) C gf_cl5 fl_Wr_22 dd_Wr_goBackTo_6 rfl rfl hw.1 (fun hv6 => ?_)
    refine gf_icmp_lt 13 C dd_Wr_goBackTo_9 (by decide) (by omega) (by omega) (fun h9 => ?_) (fun h9 => ?_)
    · skip
      replace he := he h9
      refine gf_aload_n C dd_Wr_goBackTo_13 0 rfl ?_
      refine gf_iload_n C dd_Wr_goBackTo_14 1 rfl ?_
      refine gf_putI (z := 2) C gf_cl5 fl_Wr_22 dd_Wr_goBackTo_15 rfl rfl rfl (by decide +kernel) hw.1 (by omega) ?_
      refine gf_nmM (fun m15 hm15 => ?_)
      refine gf_aload_n C dd_Wr_goBackTo_18 0 rfl ?_
      refine gf_iconst C dd_Wr_goBackTo_19 ?_
      refine gf_putI (z := 1) C gf_cl5 fl_Wr_18 dd_Wr_goBackTo_20 rfl rfl rfl (by decide +kernel) hw.1 (by omega) ?_
      refine gf_nmM (fun m20 hm20 => ?_)
      have e20 : ∀ a b : Int, ¬ (a = w ∧ (b = 1 ∨ b = 2)) → m20 a b = μ a b := fun a b h => by
        rw [hm20, hm15]; by_cases ha : a = w
        · rw [gf_up_j (by omega), gf_up_j (by omega)]
        · rw [gf_up_k ha, gf_up_k ha]
      have e201 : m20 w 1 = 0 := by rw [hm20]; exact gf_up_s
      have e202 : m20 w 2 = n := by rw [hm20, gf_up_j (by decide), hm15]; exact gf_up_s
      refine gf_aload_n C dd_Wr_goBackTo_23 0 rfl ?_
      refine gf_getA (r := (w + 2)) C gf_cl5 fl_Wr_15 dd_Wr_goBackTo_24 rfl hw.1 hw.2.2.2.1 (hw.2.2.2.2).1 ?_
      refine gf_iload_n C dd_Wr_goBackTo_27 1 rfl ?_
      refine gf_iald C dd_Wr_goBackTo_28 hw.2.2.2.2 (by omega) (fun hv28 => ?_)
      have e28 : m20 (w + 2) n = pf_enc f L := by rw [e20 _ _ (by omega)]; exact he
      refine gf_nm (fun x29 hx29 => ?_)
      refine gf_istore_n (lv' := [(2, .int (gf_i x29)), (0, .ref (gf_ad E w)), (1, .int (gf_i n))]) C dd_Wr_goBackTo_29 (by decide) rfl ?_
      have L30_1 : ∀ (N : Nat) (q : Int) (m : gf_M) , (∃ c : Nat, c ≤ L ∧ q = pf_enc f (L - c) ∧ m w 1 = c ∧ m w 2 = n ∧ ∀ a b : Int, ¬ (a = w ∧ (b = 1 ∨ b = 2)) → m a b = μ a b) → (200000000 - m w 1 * 20).toNat < N → gf_G X E Q 4 gf_φ m 30 [(2, .int (gf_i q)), (0, .ref (gf_ad E w)), (1, .int (gf_i n))] [] := by
        intro N
        induction N with
        | zero => intro q m hinv hN; exact absurd hN (Nat.not_lt_zero _)
        | succ N ih30_1 =>
          intro q m hinv hN
          have hinv0 := hinv
          obtain ⟨c, hc, hq, h1m, h2m, hfm⟩ := hinv
          have hqB := pf_enc_8 (f := f) (n := L - c) (by omega) (fun j h0 h1 => hf j h0 (by omega))
          refine gf_iload_n C dd_Wr_goBackTo_30 0 rfl ?_
          refine gf_bipush C dd_Wr_goBackTo_31 (by decide +kernel) ?_
          refine gf_icmp_lt 63 C dd_Wr_goBackTo_33 (by decide) (by omega) (by omega) (fun h33 => ?_) (fun h33 => ?_)
          · skip
            have hcL : c = L := by
              by_cases hz : L - c = 0
              · omega
              · exfalso
                have hE := pf_enc_1 (f := f) (n := L - c - 1) (fun j h0 h1 => hf j h0 (by omega))
                rw [show L - c - 1 + 1 = L - c by omega] at hE
                omega
            refine gf_aload_n C dd_Wr_goBackTo_63 1 rfl ?_
            refine gf_getA (r := (w + 2)) C gf_cl5 fl_Wr_15 dd_Wr_goBackTo_64 rfl hw.1 hw.2.2.2.1 (hw.2.2.2.2).1 ?_
            refine gf_iload_n C dd_Wr_goBackTo_67 2 rfl ?_
            refine gf_iald C dd_Wr_goBackTo_68 hw.2.2.2.2 (by omega) (fun hv68 => ?_)
            refine gf_nm (fun x69 hx69 => ?_)
            refine gf_istore_n (lv' := [(2, .int (gf_i x69)), (0, .ref (gf_ad E w)), (1, .int (gf_i n))]) C dd_Wr_goBackTo_69 (by decide) rfl ?_
            refine gf_aload_n C dd_Wr_goBackTo_70 1 rfl ?_
            refine gf_getI (z := 1) C gf_cl5 fl_Wr_18 dd_Wr_goBackTo_71 rfl rfl hw.1 (fun hv71 => ?_)
            refine gf_iconst C dd_Wr_goBackTo_74 ?_
            refine gf_isub C dd_Wr_goBackTo_75 ?_
            refine gf_nm (fun x76 hx76 => ?_)
            refine gf_istore_n (lv' := [(3, .int (gf_i x76)), (2, .int (gf_i x69)), (0, .ref (gf_ad E w)), (1, .int (gf_i n))]) C dd_Wr_goBackTo_76 (by decide) rfl ?_
            have L77_2 : ∀ (N : Nat) (q k : Int) (m : gf_M) , (∃ c : Nat, c ≤ L ∧ k = (c : Int) - 1 ∧ q = pf_enc f c ∧ m w 1 = L ∧ m w 2 = n ∧ (∀ j : Int, (c : Int) ≤ j → j < L → m (w + 1) j = f j) ∧ ∀ a b : Int, ¬ (a = w ∧ (b = 1 ∨ b = 2)) → a ≠ w + 1 → m a b = μ a b) → (k + 1).toNat < N → gf_G X E Q 4 gf_φ m 77 [(2, .int (gf_i q)), (3, .int (gf_i k)), (0, .ref (gf_ad E w)), (1, .int (gf_i n))] [] := by
              intro N
              induction N with
              | zero => intro q k m hinv hN; exact absurd hN (Nat.not_lt_zero _)
              | succ N ih77_2 =>
                intro q k m hinv hN
                have hinv0 := hinv
                obtain ⟨c2, hc2, hk2, hq2, h12, h22, hj2, hf2⟩ := hinv
                have hqB2 := pf_enc_8 (f := f) (n := c2) (by omega) (fun j h0 h1 => hf j h0 (by omega))
                refine gf_iload_n C dd_Wr_goBackTo_77 1 rfl ?_
                refine gf_if_lt 102 C dd_Wr_goBackTo_78 (by decide) (by omega) (fun h78 => ?_) (fun h78 => ?_)
                · skip
                  refine gf_vret C hQ dd_Wr_goBackTo_102 ?_
                  exact ⟨fun h => by omega, fun _ => ⟨h12, h22, fun j h0 h1 => hj2 j (by omega) h1, hf2⟩⟩
                · skip
                  refine gf_aload_n C dd_Wr_goBackTo_81 2 rfl ?_
                  refine gf_getA (r := (w + 1)) C gf_cl5 fl_Wr_9 dd_Wr_goBackTo_82 rfl hw.1 hw.2.1 (hw.2.2.1).1 ?_
                  refine gf_iload_n C dd_Wr_goBackTo_85 1 rfl ?_
                  refine gf_iload_n C dd_Wr_goBackTo_86 0 rfl ?_
                  refine gf_bipush C dd_Wr_goBackTo_87 (by decide +kernel) ?_
                  refine gf_irem C dd_Wr_goBackTo_89 (by omega) ?_
                  refine gf_iast C dd_Wr_goBackTo_90 hw.2.2.1 (by omega) (by omega) ?_
                  refine gf_nmM (fun m90 hm90 => ?_)
                  refine gf_iload_n C dd_Wr_goBackTo_91 0 rfl ?_
                  refine gf_bipush C dd_Wr_goBackTo_92 (by decide +kernel) ?_
                  refine gf_idiv C dd_Wr_goBackTo_94 (by omega) ?_
                  refine gf_nm (fun x95 hx95 => ?_)
                  refine gf_istore_n (lv' := [(2, .int (gf_i x95)), (3, .int (gf_i k)), (0, .ref (gf_ad E w)), (1, .int (gf_i n))]) C dd_Wr_goBackTo_95 (by decide) rfl ?_
                  obtain ⟨x96, hx96⟩ : ∃ y : Int, y = k + (-1) := ⟨_, rfl⟩
                  refine gf_iinc (q := 1) (v := x96) (lv' := [(3, .int (gf_i x96)), (2, .int (gf_i x95)), (0, .ref (gf_ad E w)), (1, .int (gf_i n))]) C dd_Wr_goBackTo_96 rfl hx96 (by decide) rfl ?_
                  refine gf_goto 77 C dd_Wr_goBackTo_99 (by decide) ?_
                  refine gf_lsub [1, 0, 2, 3] rfl ?_
                  exact ih77_2 x95 x96 m90 (by
                          obtain ⟨c3, rfl⟩ : ∃ c3, c2 = c3 + 1 := ⟨c2 - 1, by omega⟩
                          have hE := pf_enc_1 (f := f) (n := c3) (fun j h0 h1 => hf j h0 (by omega))
                          refine ⟨c3, by omega, by omega, by rw [hx95, hq2]; exact hE.2.1, by rw [hm90, gf_up_k (by omega)]; exact h12, by rw [hm90, gf_up_k (by omega)]; exact h22, fun j h0 h1 => ?_, fun a b h h' => by rw [hm90, gf_up_k h']; exact hf2 a b h h'⟩
                          rw [hm90]
                          by_cases hj : j = k
                          · rw [hj, gf_up_s, hq2, hE.2.2]
                            congr 1
                            omega
                          · rw [gf_up_j hj]
                            exact hj2 j (by omega) h1) (by omega)
            refine gf_lsub [1, 0, 2, 3] rfl ?_
            exact L77_2 _ x69 x76 m (⟨L, by omega, by omega, by rw [hx69]; exact (hfm _ _ (by omega)).trans he, by omega, h2m, fun j h0 h1 => by omega, fun a b h _ => hfm a b h⟩) (Nat.lt_succ_self _)
          · skip
            refine gf_aload_n C dd_Wr_goBackTo_36 1 rfl ?_
            refine gf_getI (z := 1) C gf_cl5 fl_Wr_18 dd_Wr_goBackTo_37 rfl rfl hw.1 (fun hv37 => ?_)
            refine gf_bipush C dd_Wr_goBackTo_40 (by decide +kernel) ?_
            refine gf_icmp_ge 63 C dd_Wr_goBackTo_42 (by decide) (by omega) (by omega) (fun h42 => ?_) (fun h42 => ?_)
            · skip
              have hcL : c = L := by
                by_cases hz : L - c = 0
                · omega
                · exfalso
                  have hE := pf_enc_1 (f := f) (n := L - c - 1) (fun j h0 h1 => hf j h0 (by omega))
                  rw [show L - c - 1 + 1 = L - c by omega] at hE
                  omega
              refine gf_aload_n C dd_Wr_goBackTo_63 1 rfl ?_
              refine gf_getA (r := (w + 2)) C gf_cl5 fl_Wr_15 dd_Wr_goBackTo_64 rfl hw.1 hw.2.2.2.1 (hw.2.2.2.2).1 ?_
              refine gf_iload_n C dd_Wr_goBackTo_67 2 rfl ?_
              refine gf_iald C dd_Wr_goBackTo_68 hw.2.2.2.2 (by omega) (fun hv68 => ?_)
              refine gf_nm (fun x69 hx69 => ?_)
              refine gf_istore_n (lv' := [(2, .int (gf_i x69)), (0, .ref (gf_ad E w)), (1, .int (gf_i n))]) C dd_Wr_goBackTo_69 (by decide) rfl ?_
              refine gf_aload_n C dd_Wr_goBackTo_70 1 rfl ?_
              refine gf_getI (z := 1) C gf_cl5 fl_Wr_18 dd_Wr_goBackTo_71 rfl rfl hw.1 (fun hv71 => ?_)
              refine gf_iconst C dd_Wr_goBackTo_74 ?_
              refine gf_isub C dd_Wr_goBackTo_75 ?_
              refine gf_nm (fun x76 hx76 => ?_)
              refine gf_istore_n (lv' := [(3, .int (gf_i x76)), (2, .int (gf_i x69)), (0, .ref (gf_ad E w)), (1, .int (gf_i n))]) C dd_Wr_goBackTo_76 (by decide) rfl ?_
              have L77_3 : ∀ (N : Nat) (q k : Int) (m : gf_M) , (∃ c : Nat, c ≤ L ∧ k = (c : Int) - 1 ∧ q = pf_enc f c ∧ m w 1 = L ∧ m w 2 = n ∧ (∀ j : Int, (c : Int) ≤ j → j < L → m (w + 1) j = f j) ∧ ∀ a b : Int, ¬ (a = w ∧ (b = 1 ∨ b = 2)) → a ≠ w + 1 → m a b = μ a b) → (k + 1).toNat < N → gf_G X E Q 4 gf_φ m 77 [(2, .int (gf_i q)), (3, .int (gf_i k)), (0, .ref (gf_ad E w)), (1, .int (gf_i n))] [] := by
                intro N
                induction N with
                | zero => intro q k m hinv hN; exact absurd hN (Nat.not_lt_zero _)
                | succ N ih77_3 =>
                  intro q k m hinv hN
                  have hinv0 := hinv
                  obtain ⟨c2, hc2, hk2, hq2, h12, h22, hj2, hf2⟩ := hinv
                  have hqB2 := pf_enc_8 (f := f) (n := c2) (by omega) (fun j h0 h1 => hf j h0 (by omega))
                  refine gf_iload_n C dd_Wr_goBackTo_77 1 rfl ?_
                  refine gf_if_lt 102 C dd_Wr_goBackTo_78 (by decide) (by omega) (fun h78 => ?_) (fun h78 => ?_)
                  · skip
                    refine gf_vret C hQ dd_Wr_goBackTo_102 ?_
                    exact ⟨fun h => by omega, fun _ => ⟨h12, h22, fun j h0 h1 => hj2 j (by omega) h1, hf2⟩⟩
                  · skip
                    refine gf_aload_n C dd_Wr_goBackTo_81 2 rfl ?_
                    refine gf_getA (r := (w + 1)) C gf_cl5 fl_Wr_9 dd_Wr_goBackTo_82 rfl hw.1 hw.2.1 (hw.2.2.1).1 ?_
                    refine gf_iload_n C dd_Wr_goBackTo_85 1 rfl ?_
                    refine gf_iload_n C dd_Wr_goBackTo_86 0 rfl ?_
                    refine gf_bipush C dd_Wr_goBackTo_87 (by decide +kernel) ?_
                    refine gf_irem C dd_Wr_goBackTo_89 (by omega) ?_
                    refine gf_iast C dd_Wr_goBackTo_90 hw.2.2.1 (by omega) (by omega) ?_
                    refine gf_nmM (fun m90 hm90 => ?_)
                    refine gf_iload_n C dd_Wr_goBackTo_91 0 rfl ?_
                    refine gf_bipush C dd_Wr_goBackTo_92 (by decide +kernel) ?_
                    refine gf_idiv C dd_Wr_goBackTo_94 (by omega) ?_
                    refine gf_nm (fun x95 hx95 => ?_)
                    refine gf_istore_n (lv' := [(2, .int (gf_i x95)), (3, .int (gf_i k)), (0, .ref (gf_ad E w)), (1, .int (gf_i n))]) C dd_Wr_goBackTo_95 (by decide) rfl ?_
                    obtain ⟨x96, hx96⟩ : ∃ y : Int, y = k + (-1) := ⟨_, rfl⟩
                    refine gf_iinc (q := 1) (v := x96) (lv' := [(3, .int (gf_i x96)), (2, .int (gf_i x95)), (0, .ref (gf_ad E w)), (1, .int (gf_i n))]) C dd_Wr_goBackTo_96 rfl hx96 (by decide) rfl ?_
                    refine gf_goto 77 C dd_Wr_goBackTo_99 (by decide) ?_
                    refine gf_lsub [1, 0, 2, 3] rfl ?_
                    exact ih77_3 x95 x96 m90 (by
                            obtain ⟨c3, rfl⟩ : ∃ c3, c2 = c3 + 1 := ⟨c2 - 1, by omega⟩
                            have hE := pf_enc_1 (f := f) (n := c3) (fun j h0 h1 => hf j h0 (by omega))
                            refine ⟨c3, by omega, by omega, by rw [hx95, hq2]; exact hE.2.1, by rw [hm90, gf_up_k (by omega)]; exact h12, by rw [hm90, gf_up_k (by omega)]; exact h22, fun j h0 h1 => ?_, fun a b h h' => by rw [hm90, gf_up_k h']; exact hf2 a b h h'⟩
                            rw [hm90]
                            by_cases hj : j = k
                            · rw [hj, gf_up_s, hq2, hE.2.2]
                              congr 1
                              omega
                            · rw [gf_up_j hj]
                              exact hj2 j (by omega) h1) (by omega)
              refine gf_lsub [1, 0, 2, 3] rfl ?_
              exact L77_3 _ x69 x76 m (⟨L, by omega, by omega, by rw [hx69]; exact (hfm _ _ (by omega)).trans he, by omega, h2m, fun j h0 h1 => by omega, fun a b h _ => hfm a b h⟩) (Nat.lt_succ_self _)
            · skip
              refine gf_aload_n C dd_Wr_goBackTo_45 1 rfl ?_
              refine gf_dup C dd_Wr_goBackTo_46 rfl ?_
              refine gf_getI (z := 1) C gf_cl5 fl_Wr_18 dd_Wr_goBackTo_47 rfl rfl hw.1 (fun hv47 => ?_)
              refine gf_iconst C dd_Wr_goBackTo_50 ?_
              refine gf_iadd C dd_Wr_goBackTo_51 ?_
              refine gf_putI (z := 1) C gf_cl5 fl_Wr_18 dd_Wr_goBackTo_52 rfl rfl rfl (by decide +kernel) hw.1 (by omega) ?_
              refine gf_nmM (fun m52 hm52 => ?_)
              refine gf_iload_n C dd_Wr_goBackTo_55 0 rfl ?_
              refine gf_bipush C dd_Wr_goBackTo_56 (by decide +kernel) ?_
              refine gf_idiv C dd_Wr_goBackTo_58 (by omega) ?_
              refine gf_nm (fun x59 hx59 => ?_)
              refine gf_istore_n (lv' := [(2, .int (gf_i x59)), (0, .ref (gf_ad E w)), (1, .int (gf_i n))]) C dd_Wr_goBackTo_59 (by decide) rfl ?_
              refine gf_goto 30 C dd_Wr_goBackTo_60 (by decide) ?_
              refine gf_lsub [0, 1, 2] rfl ?_
              exact ih30_1 x59 m52 (by
                      have hcL : c < L := by
                        rcases Nat.lt_or_ge c L with z | z
                        · exact z
                        · have e0 : q = 1 := by rw [hq, show L - c = 0 by omega]; rfl
                          omega
                      refine ⟨c + 1, by omega, ?_, by rw [hm52, gf_up_s]; omega, by rw [hm52, gf_up_j (by decide)]; exact h2m, fun a b h => ?_⟩
                      · rw [hx59, hq, show L - c = (L - (c + 1)) + 1 by omega]
                        exact (pf_enc_1 (fun j h0 h1 => hf j h0 (by omega))).2.1
                      · rw [hm52, ← hfm a b h]
                        by_cases ha : a = w
                        · exact gf_up_j (by omega)
                        · exact gf_up_k ha) (by rw [hm52, gf_up_s]; omega)
      refine gf_lsub [0, 1, 2] rfl ?_
      exact L30_1 _ x29 m20 (⟨0, by omega, by rw [hx29, e28]; rfl, e201, e202, e20⟩) (Nat.lt_succ_self _)
    · skip
      refine gf_vret C hQ dd_Wr_goBackTo_12 ?_
      exact ⟨fun _ => rfl, fun h => by omega⟩
