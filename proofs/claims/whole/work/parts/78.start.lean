/-! the start: both objects are made, and they are tied -/
abbrev la_μ : gf_M := gf_ups (fun _ _ => 0) [(74, 2, (-1)), (74, 1, (-1)), (74, 0, (-1)), (68, 3, (-1)), (68, 2, (-1)), (68, 1, (-1)), (68, 0, (-1)), (66, 5, (-1)), (66, 4, (-1)), (66, 3, (-1)), (66, 2, (-1)), (66, 1, (-1)), (66, 0, (-1)), (65, 6, 1), (0, 14, 1), (21, 1, (-1)), (19, 1, (-1)), (17, 1, (-1)), (15, 1, (-1)), (12, 1, (-1)), (10, 1, (-1)), (8, 1, (-1)), (6, 1, (-1)), (4, 1, (-1)), (2, 1, (-1))]
abbrev la_ρ : gf_M := gf_ups (fun _ _ => -1) [(65, 25, 80), (65, 24, 79), (65, 23, 78), (65, 22, 77), (65, 20, 76), (65, 19, 75), (65, 18, 74), (65, 14, 73), (65, 13, 72), (65, 9, 71), (65, 8, 70), (65, 3, 69), (65, 2, 68), (65, 1, 67), (65, 0, 66), (0, 16, 64), (0, 11, 63), (0, 10, 62), (0, 9, 61), (0, 8, 59), (59, 0, 60), (0, 7, 53), (53, 5, 58), (53, 4, 57), (53, 3, 56), (53, 1, 55), (53, 0, 54), (0, 6, 44), (45, 6, 52), (45, 5, 51), (45, 4, 50), (45, 3, 49), (45, 2, 48), (45, 1, 47), (45, 0, 46), (44, 0, 45), (0, 4, 41), (41, 3, 43), (41, 0, 42), (31, 2, 38), (38, 3, 40), (38, 0, 39), (31, 1, 35), (35, 3, 37), (35, 0, 36), (31, 0, 32), (32, 3, 34), (32, 0, 33), (0, 5, 31), (23, 6, 30), (23, 5, 29), (23, 4, 28), (23, 3, 27), (23, 2, 26), (23, 1, 25), (23, 0, 24), (0, 2, 23), (14, 3, 21), (21, 0, 22), (14, 2, 19), (19, 0, 20), (14, 1, 17), (17, 0, 18), (14, 0, 15), (15, 0, 16), (0, 1, 14), (1, 5, 12), (12, 0, 13), (1, 4, 10), (10, 0, 11), (1, 3, 8), (8, 0, 9), (1, 2, 6), (6, 0, 7), (1, 1, 4), (4, 0, 5), (1, 0, 2), (2, 0, 3), (0, 0, 1)]
theorem gf_ups_j {f : gf_M} {n j : Int} : ∀ {L : List (Int × Int × Int)}, (∀ e ∈ L, e.2.1 < 27) → 27 ≤ j → gf_ups f L n j = f n j
  | [], _, _ => rfl
  | e :: L, h, hj => by
    show gf_up (gf_ups f L) e.1 e.2.1 e.2.2 n j = f n j
    rw [gf_up_j (by have := h e List.mem_cons_self; omega)]
    exact gf_ups_j (fun x hx => h x (List.mem_cons_of_mem _ hx)) hj
set_option maxRecDepth 100000 in
theorem la_ρ_lo : ∀ k : Nat, k < 81 → ∀ j : Nat, j < 27 → la_ρ (k : Int) (j : Int) = gf_ref (k : Int) (j : Int) := by decide +kernel
theorem la_rfL : ∀ l ∈ gf_rfL, l.length ≤ 27 := by decide +kernel
theorem la_ρ_ref : ∀ k : Nat, k < 81 → ∀ j : Nat, la_ρ (k : Int) (j : Int) = gf_ref (k : Int) (j : Int) := by
  intro k hk j
  by_cases hj : j < 27
  · exact la_ρ_lo k hk j hj
  · have e1 : la_ρ (k : Int) (j : Int) = -1 := gf_ups_j (by decide +kernel) (by omega)
    rw [e1]
    unfold gf_ref
    have hl : (gf_rfL.getD (k : Int).toNat []).length ≤ 27 := by
      rw [List.getD_eq_getElem?_getD]
      cases hq : gf_rfL[(k : Int).toNat]? with
      | none => exact Nat.zero_le _
      | some l => exact la_rfL l (List.mem_of_getElem? hq)
    rw [List.getD_eq_getElem?_getD (l := gf_rfL.getD (k : Int).toNat []), List.getElem?_eq_none (by omega)]
    rfl
set_option maxRecDepth 100000 in
theorem la_I : gf_I la_μ := by
  refine ⟨fun r r0 r1 => ?_, ⟨fun t t0 t1 => ?_, fun j => ?_⟩, ⟨by decide +kernel, fun i i0 i1 => ?_⟩, ?_, fun k k0 k1 => ?_, ⟨by decide +kernel, fun f f0 f1 => ?_⟩⟩
  · have h : ∀ x : Nat, x < 6 → (la_μ 66 x = la_μ (2 + 2 * x) 1 ∧ -1 ≤ la_μ 66 x ∧ la_μ 66 x ≤ 40) ∧ la_μ 66 x = -1 := by decide +kernel
    have hx := h r.toNat (by omega)
    rw [show ((r.toNat : Nat) : Int) = r by omega] at hx
    exact ⟨hx.1, fun j j0 j1 => by rw [hx.2] at j1; omega⟩
  · have h : ∀ x : Nat, x < 4 → (la_μ 68 x = la_μ (15 + 2 * x) 1 ∧ -1 ≤ la_μ 68 x ∧ la_μ 68 x ≤ 60) ∧ la_μ 68 x = -1 := by decide +kernel
    have hx := h t.toNat (by omega)
    rw [show ((t.toNat : Nat) : Int) = t by omega] at hx
    exact ⟨hx.1, fun j j0 j1 => by rw [hx.2] at j1; omega⟩
  · have e : la_μ 69 j = 0 := gf_ups_new (by decide +kernel)
    rw [e]; omega
  · have e : la_μ 0 3 = 0 := by decide +kernel
    rw [e] at i1; omega
  · have e1 : la_μ 41 1 = 0 := by decide +kernel
    have e2 : la_μ 41 2 = 0 := by decide +kernel
    have e3 : la_μ 71 1 = 0 := by decide +kernel
    have e4 : la_μ 71 2 = 0 := by decide +kernel
    unfold gI_num
    rw [e1, e2]
    exact ⟨⟨e3, by omega, by omega⟩, ⟨e4, by omega, by omega⟩, fun j j0 j1 => by omega, fun e e0 e1 => by omega⟩
  · have h : ∀ x : Nat, x < 3 → la_μ (32 + 3 * x) 4 = 0 ∧ la_μ 74 x = -1 := by decide +kernel
    have hx := h k.toNat (by omega)
    rw [show ((k.toNat : Nat) : Int) = k by omega] at hx
    exact Or.inl hx
  · have e1 : la_μ 70 f = 0 := gf_ups_new (by decide +kernel)
    have e2 : la_μ 64 f = 0 := gf_ups_new (by decide +kernel)
    rw [e1, e2]
set_option maxRecDepth 100000 in
set_option maxHeartbeats 4000000 in
theorem la_start {X : gf_X} {E : gf_E} {Q : State → Prop} {b L : Nat} {xs : Nat → Int32} (C : gf_C X E code 4 "GuardFiguresLaw" room_1) (S : la_S X E b L xs) (hO : gf_O (gf_xs X)) (hend : ∀ (μ : gf_M) (lv : List (Nat × Value)), gf_G X E Q 4 la_φ μ 1362 lv [.int (gf_i 1)]) : gf_G X E Q 4 (0, 0, 0, gf_ups (fun _ _ => -1) []) (gf_ups (fun _ _ => 0) []) 0 [(0, .ref b)] [] := by
  have hμ : ∀ k j : Int, 0 ≤ k → ((fun _ _ => 0) : gf_M) k j = 0 := fun _ _ _ => rfl
  have hρ : ∀ k j : Int, 0 ≤ k → ((fun _ _ => -1) : gf_M) k j = -1 := fun _ _ _ => rfl
  refine gf_newO (k := 0) rfl C gf_cl6 gf_ty6 (by decide +kernel) ⟨gf_mem 83 (by decide +kernel) (by decide +kernel), gf_mem 84 (by decide +kernel) (by decide +kernel), gf_mem 72 (by decide +kernel) (by decide +kernel)⟩ dd_La_0 (by decide) (Nat.le_of_ble_eq_true rfl) (fun j => (gf_ups_new rfl).trans rfl) (fun j => (gf_ups_new rfl).trans rfl) ⟨Nat.le_of_ble_eq_true rfl, Nat.le_of_ble_eq_true rfl⟩ ?_
  refine gf_ph (φ' := (1, 17, 1, gf_ups (fun _ _ => -1) [])) rfl ?_
  refine gf_dup C dd_La_3 rfl ?_
  refine gf_callI (st := [.ref (gf_ad E 0)]) (As := []) C hO wk_La_9 (ct_Fi_init_0 (gf_xl X) E (gf_ups (fun _ _ => -1) []) (gf_ups (fun _ _ => 0) []) (gf_z_ups hμ rfl) (gf_n_ups hρ rfl)) rfl ⟨rfl, rfl⟩ ⟨Nat.le_of_ble_eq_true rfl, Nat.le_of_ble_eq_true rfl⟩ (Nat.le_of_ble_eq_true rfl) rfl dd_La_4 (fun m4 hp4 => ?_)
  refine gf_phU (a' := 65) (b' := 1129) (L' := [(0, 16, 64), (0, 11, 63), (0, 10, 62), (0, 9, 61), (0, 8, 59), (59, 0, 60), (0, 7, 53), (53, 5, 58), (53, 4, 57), (53, 3, 56), (53, 1, 55), (53, 0, 54), (0, 6, 44), (45, 6, 52), (45, 5, 51), (45, 4, 50), (45, 3, 49), (45, 2, 48), (45, 1, 47), (45, 0, 46), (44, 0, 45), (0, 4, 41), (41, 3, 43), (41, 0, 42), (31, 2, 38), (38, 3, 40), (38, 0, 39), (31, 1, 35), (35, 3, 37), (35, 0, 36), (31, 0, 32), (32, 3, 34), (32, 0, 33), (0, 5, 31), (23, 6, 30), (23, 5, 29), (23, 4, 28), (23, 3, 27), (23, 2, 26), (23, 1, 25), (23, 0, 24), (0, 2, 23), (14, 3, 21), (21, 0, 22), (14, 2, 19), (19, 0, 20), (14, 1, 17), (17, 0, 18), (14, 0, 15), (15, 0, 16), (0, 1, 14), (1, 5, 12), (12, 0, 13), (1, 4, 10), (10, 0, 11), (1, 3, 8), (8, 0, 9), (1, 2, 6), (6, 0, 7), (1, 1, 4), (4, 0, 5), (1, 0, 2), (2, 0, 3), (0, 0, 1)]) rfl rfl rfl ?_
  refine gf_pm (μ := gf_ups (fun _ _ => 0) [(0, 14, 1), (21, 1, (-1)), (19, 1, (-1)), (17, 1, (-1)), (15, 1, (-1)), (12, 1, (-1)), (10, 1, (-1)), (8, 1, (-1)), (6, 1, (-1)), (4, 1, (-1)), (2, 1, (-1))]) (hp4.trans (gf_ups_ups _ _ _)) ?_
  refine gf_astore_n (lv' := [(1, .ref (gf_ad E 0)), (0, .ref b)]) C dd_La_7 (by decide) rfl ?_
  refine gf_newO (k := 65) rfl C gf_cl7 gf_ty7 (by decide +kernel) ⟨gf_mem 778 (by decide +kernel) (by decide +kernel), gf_mem 779 (by decide +kernel) (by decide +kernel), gf_mem 79 (by decide +kernel) (by decide +kernel)⟩ dd_La_8 (by decide) (Nat.le_of_ble_eq_true rfl) (fun j => (gf_ups_new rfl).trans rfl) (fun j => (gf_ups_new rfl).trans rfl) ⟨Nat.le_of_ble_eq_true rfl, Nat.le_of_ble_eq_true rfl⟩ ?_
  refine gf_ph (φ' := (66, 1155, 66, gf_ups (fun _ _ => -1) [(0, 16, 64), (0, 11, 63), (0, 10, 62), (0, 9, 61), (0, 8, 59), (59, 0, 60), (0, 7, 53), (53, 5, 58), (53, 4, 57), (53, 3, 56), (53, 1, 55), (53, 0, 54), (0, 6, 44), (45, 6, 52), (45, 5, 51), (45, 4, 50), (45, 3, 49), (45, 2, 48), (45, 1, 47), (45, 0, 46), (44, 0, 45), (0, 4, 41), (41, 3, 43), (41, 0, 42), (31, 2, 38), (38, 3, 40), (38, 0, 39), (31, 1, 35), (35, 3, 37), (35, 0, 36), (31, 0, 32), (32, 3, 34), (32, 0, 33), (0, 5, 31), (23, 6, 30), (23, 5, 29), (23, 4, 28), (23, 3, 27), (23, 2, 26), (23, 1, 25), (23, 0, 24), (0, 2, 23), (14, 3, 21), (21, 0, 22), (14, 2, 19), (19, 0, 20), (14, 1, 17), (17, 0, 18), (14, 0, 15), (15, 0, 16), (0, 1, 14), (1, 5, 12), (12, 0, 13), (1, 4, 10), (10, 0, 11), (1, 3, 8), (8, 0, 9), (1, 2, 6), (6, 0, 7), (1, 1, 4), (4, 0, 5), (1, 0, 2), (2, 0, 3), (0, 0, 1)])) rfl ?_
  refine gf_dup C dd_La_11 rfl ?_
  refine gf_callI (st := [.ref (gf_ad E 65)]) (As := []) C hO wk_La_12 (ct_Mo_init_65 (gf_xl X) E (gf_ups (fun _ _ => -1) [(0, 16, 64), (0, 11, 63), (0, 10, 62), (0, 9, 61), (0, 8, 59), (59, 0, 60), (0, 7, 53), (53, 5, 58), (53, 4, 57), (53, 3, 56), (53, 1, 55), (53, 0, 54), (0, 6, 44), (45, 6, 52), (45, 5, 51), (45, 4, 50), (45, 3, 49), (45, 2, 48), (45, 1, 47), (45, 0, 46), (44, 0, 45), (0, 4, 41), (41, 3, 43), (41, 0, 42), (31, 2, 38), (38, 3, 40), (38, 0, 39), (31, 1, 35), (35, 3, 37), (35, 0, 36), (31, 0, 32), (32, 3, 34), (32, 0, 33), (0, 5, 31), (23, 6, 30), (23, 5, 29), (23, 4, 28), (23, 3, 27), (23, 2, 26), (23, 1, 25), (23, 0, 24), (0, 2, 23), (14, 3, 21), (21, 0, 22), (14, 2, 19), (19, 0, 20), (14, 1, 17), (17, 0, 18), (14, 0, 15), (15, 0, 16), (0, 1, 14), (1, 5, 12), (12, 0, 13), (1, 4, 10), (10, 0, 11), (1, 3, 8), (8, 0, 9), (1, 2, 6), (6, 0, 7), (1, 1, 4), (4, 0, 5), (1, 0, 2), (2, 0, 3), (0, 0, 1)]) (gf_ups (fun _ _ => 0) [(0, 14, 1), (21, 1, (-1)), (19, 1, (-1)), (17, 1, (-1)), (15, 1, (-1)), (12, 1, (-1)), (10, 1, (-1)), (8, 1, (-1)), (6, 1, (-1)), (4, 1, (-1)), (2, 1, (-1))]) (gf_z_ups hμ rfl) (gf_n_ups hρ rfl)) rfl ⟨rfl, rfl⟩ ⟨Nat.le_of_ble_eq_true rfl, Nat.le_of_ble_eq_true rfl⟩ (Nat.le_of_ble_eq_true rfl) rfl dd_La_12 (fun m12 hp12 => ?_)
  refine gf_phU (a' := 81) (b' := 13358) (L' := [(65, 25, 80), (65, 24, 79), (65, 23, 78), (65, 22, 77), (65, 20, 76), (65, 19, 75), (65, 18, 74), (65, 14, 73), (65, 13, 72), (65, 9, 71), (65, 8, 70), (65, 3, 69), (65, 2, 68), (65, 1, 67), (65, 0, 66), (0, 16, 64), (0, 11, 63), (0, 10, 62), (0, 9, 61), (0, 8, 59), (59, 0, 60), (0, 7, 53), (53, 5, 58), (53, 4, 57), (53, 3, 56), (53, 1, 55), (53, 0, 54), (0, 6, 44), (45, 6, 52), (45, 5, 51), (45, 4, 50), (45, 3, 49), (45, 2, 48), (45, 1, 47), (45, 0, 46), (44, 0, 45), (0, 4, 41), (41, 3, 43), (41, 0, 42), (31, 2, 38), (38, 3, 40), (38, 0, 39), (31, 1, 35), (35, 3, 37), (35, 0, 36), (31, 0, 32), (32, 3, 34), (32, 0, 33), (0, 5, 31), (23, 6, 30), (23, 5, 29), (23, 4, 28), (23, 3, 27), (23, 2, 26), (23, 1, 25), (23, 0, 24), (0, 2, 23), (14, 3, 21), (21, 0, 22), (14, 2, 19), (19, 0, 20), (14, 1, 17), (17, 0, 18), (14, 0, 15), (15, 0, 16), (0, 1, 14), (1, 5, 12), (12, 0, 13), (1, 4, 10), (10, 0, 11), (1, 3, 8), (8, 0, 9), (1, 2, 6), (6, 0, 7), (1, 1, 4), (4, 0, 5), (1, 0, 2), (2, 0, 3), (0, 0, 1)]) rfl rfl rfl ?_
  refine gf_pm (μ := la_μ) (hp12.trans (gf_ups_ups _ _ _)) ?_
  refine gf_rho la_ρ_ref ?_
  refine gf_astore_n (lv' := [(2, .ref (gf_ad E 65)), (1, .ref (gf_ad E 0)), (0, .ref b)]) C dd_La_15 (by decide) rfl ?_
  refine gf_iconst C dd_La_16 ?_
  refine gf_istore_n (lv' := [(3, .int (gf_i 0)), (2, .ref (gf_ad E 65)), (1, .ref (gf_ad E 0)), (0, .ref b)]) C dd_La_17 (by decide) rfl ?_
  exact la_loop C S hend _ 0 la_μ la_I (by decide) (by omega) (Nat.lt_succ_self _)
