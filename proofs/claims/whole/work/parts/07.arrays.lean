/-! rows of arrays, static tables, copies, small library calls, switches -/
section GF3
variable {X : gf_X} {E : gf_E} {Q : State → Prop} {nL : Nat} {φ : gf_F} {μ : gf_M} {pc : Nat} {lv : List (Nat × Value)} {st : List Value} {cc : ByteArray} {own : String} {rm : Room}
variable {c N : Nat} {k x : Int}
theorem gf_in31 {N : Nat} (hN : N ≤ 2147483647) {x : Int} (h0 : 0 ≤ x) (h1 : x < (N : Int)) : gf_R x := by omega
theorem gf_shN : ∀ t ∈ gf_shL, t.2.2 ≤ 10000 := by decide +kernel
theorem gf_lenN {n : Nat} {k : Int} {a b c : Nat} (h : gf_is n k a b c) (ha : a < 9) : c ≤ 10000 := by
  have h3 := h.2.2
  unfold gf_sh at h3
  rw [List.getD_eq_getElem?_getD] at h3
  cases hq : gf_shL[k.toNat]? with
  | none => rw [hq] at h3; simp at h3; omega
  | some t =>
    rw [hq] at h3
    simp at h3
    have := gf_shN t (List.mem_of_getElem? hq)
    rw [h3] at this
    exact this
theorem gf_iald (C : gf_C X E cc nL own rm) (d : decode cc pc = .ok (.iaload, 1)) (hk : gf_is φ.2.2.1 k 1 c N) (hx : 0 ≤ x ∧ x < (N : Int)) (kk : gf_R (μ k x) → gf_G X E Q nL φ μ (pc + 1) lv (.int (gf_i (μ k x)) :: st)) : gf_G X E Q nL φ μ pc lv (.int (gf_i x) :: .ref (gf_ad E k) :: st) := by
  intro H locs ls hl hW hS
  have hN := gf_lenN hk (by decide)
  have hR : gf_R x := by omega
  have he := gf_ws_get (E := E) (ρ := φ.2.2.2) (μ := μ) hk.1 hk.2.1
  rw [hk.2.2] at he
  have hr : gf_R (μ k x) := by
    have := hW.2.2 k x
    simpa [gf_rg, gf_lg, hk.2.2] using this
  refine va_iald C.1 C.2.1 (gf_K C) hW.2.1 k.toNat 0 he rfl (gf_vin hx.1 hx.2 hR) d ?_
  rw [gf_i_nat hx.1 hR, show ((x.toNat : Nat) : Int) = x by omega]
  exact kk hr H locs ls hl hW hS
theorem gf_bald (C : gf_C X E cc nL own rm) (d : decode cc pc = .ok (.baload, 1)) (hk : gf_is φ.2.2.1 k 3 c N) (hx : 0 ≤ x ∧ x < (N : Int)) (kk : gf_R (μ k x) → gf_G X E Q nL φ μ (pc + 1) lv (.int (gf_i (μ k x)) :: st)) : gf_G X E Q nL φ μ pc lv (.int (gf_i x) :: .ref (gf_ad E k) :: st) := by
  intro H locs ls hl hW hS
  have hN := gf_lenN hk (by decide)
  have hR : gf_R x := by omega
  have he := gf_ws_get (E := E) (ρ := φ.2.2.2) (μ := μ) hk.1 hk.2.1
  rw [hk.2.2] at he
  have hr : gf_R (μ k x) := by
    have := hW.2.2 k x
    simpa [gf_rg, gf_lg, hk.2.2] using this
  refine va_bald C.1 C.2.1 (gf_K C) hW.2.1 k.toNat 2 he rfl (gf_vin hx.1 hx.2 hR) d ?_
  rw [gf_i_nat hx.1 hR, show ((x.toNat : Nat) : Int) = x by omega]
  exact kk hr H locs ls hl hW hS
theorem gf_lald (C : gf_C X E cc nL own rm) (d : decode cc pc = .ok (.laload, 1)) (hk : gf_is φ.2.2.1 k 2 c N) (hx : 0 ≤ x ∧ x < (N : Int)) (kk : gf_RL (μ k x) → gf_G X E Q nL φ μ (pc + 1) lv (.long (gf_l (μ k x)) :: st)) : gf_G X E Q nL φ μ pc lv (.int (gf_i x) :: .ref (gf_ad E k) :: st) := by
  intro H locs ls hl hW hS
  have hN := gf_lenN hk (by decide)
  have hR : gf_R x := by omega
  have he := gf_ws_get (E := E) (ρ := φ.2.2.2) (μ := μ) hk.1 hk.2.1
  rw [hk.2.2] at he
  have hr : gf_RL (μ k x) := by
    have := hW.2.2 k x
    simpa [gf_rg, gf_lg, hk.2.2] using this
  refine va_lald C.1 C.2.1 (gf_K C) hW.2.1 k.toNat 1 he rfl (gf_vin hx.1 hx.2 hR) d ?_
  rw [gf_i_nat hx.1 hR, show ((x.toNat : Nat) : Int) = x by omega]
  exact kk hr H locs ls hl hW hS
theorem gf_aald {r : Int} (C : gf_C X E cc nL own rm) (d : decode cc pc = .ok (.aaload, 1)) (hk : gf_is φ.2.2.1 k 4 c N) (hc : c = 3 ∨ c = 4 ∨ c = 5) (hx : 0 ≤ x ∧ x < (N : Int)) (hr : φ.2.2.2 k x = r) (h0 : 0 ≤ r) (kk : gf_G X E Q nL φ μ (pc + 1) lv (.ref (gf_ad E r) :: st)) : gf_G X E Q nL φ μ pc lv (.int (gf_i x) :: .ref (gf_ad E k) :: st) := by
  intro H locs ls hl hW hS
  have hN := gf_lenN hk (by decide)
  have hR : gf_R x := by omega
  have he := gf_ws_get (E := E) (ρ := φ.2.2.2) (μ := μ) hk.1 hk.2.1
  rw [hk.2.2] at he
  have hty : ∃ C0, (gf_tys E)[c]? = some (E.2.2.1 c, .object C0) := by
    rcases hc with rfl | rfl | rfl <;> exact ⟨_, rfl⟩
  obtain ⟨C0, hty⟩ := hty
  refine va_aldq C.1 C.2.1 (gf_K C) hW.2.1 k.toNat c he hty (gf_vin hx.1 hx.2 hR) d ?_
  rw [gf_i_nat hx.1 hR, show ((x.toNat : Nat) : Int) = x by omega, hr]
  have e : va_rf (gf_rf E r) = .ref (gf_ad E r) := by simp [gf_rf, va_rf, show ¬ r < 0 by omega]
  rw [e]
  exact kk H locs ls hl hW hS
theorem gf_alen (ty : Nat) (C : gf_C X E cc nL own rm) (d : decode cc pc = .ok (.arraylength, 1)) (hk : gf_is φ.2.2.1 k ty c N) (hty : (ty = 1) ∨ (ty = 2) ∨ (ty = 4 ∧ (c = 3 ∨ c = 4 ∨ c = 5))) (kk : gf_G X E Q nL φ μ (pc + 1) lv (.int (gf_i N) :: st)) : gf_G X E Q nL φ μ pc lv (.ref (gf_ad E k) :: st) := by
  intro H locs ls hl hW hS
  have he := gf_ws_get (E := E) (ρ := φ.2.2.2) (μ := μ) hk.1 hk.2.1
  rw [hk.2.2] at he
  have e : Int32.ofNat N = gf_i N := (Int32.ofInt_eq_ofNat).symm
  rcases hty with rfl | rfl | ⟨rfl, hc⟩
  · exact va_alen C.1 C.2.1 (gf_K C) hW.2.1 k.toNat 0 he (ty := .int) rfl e d (kk H locs ls hl hW hS)
  · exact va_alen C.1 C.2.1 (gf_K C) hW.2.1 k.toNat 1 he (ty := .long) rfl e d (kk H locs ls hl hW hS)
  · have hty : ∃ C0, (gf_tys E)[c]? = some (E.2.2.1 c, .object C0) := by
      rcases hc with rfl | rfl | rfl <;> exact ⟨_, rfl⟩
    obtain ⟨C0, hty⟩ := hty
    exact va_alen C.1 C.2.1 (gf_K C) hW.2.1 k.toNat c he hty e d (kk H locs ls hl hW hS)
theorem gf_upf {μ : gf_M} {k x v : Int} (h0 : 0 ≤ x) : upd (fun j : Nat => gf_i (μ k j)) x.toNat (gf_i v) = fun j : Nat => gf_i (gf_up μ k x v k j) := by
  funext j
  by_cases hj : j = x.toNat
  · subst hj
    simp [upd, gf_up, show max x 0 = x by omega]
  · have : (j : Int) ≠ x := by omega
    simp [upd, gf_up, this, hj]
theorem gf_iast {v : Int} (C : gf_C X E cc nL own rm) (d : decode cc pc = .ok (.iastore, 1)) (hk : gf_is φ.2.2.1 k 1 c N) (hx : 0 ≤ x ∧ x < (N : Int)) (hv : gf_R v) (kk : gf_G X E Q nL φ (gf_up μ k x v) (pc + 1) lv st) : gf_G X E Q nL φ μ pc lv (.int (gf_i v) :: .int (gf_i x) :: .ref (gf_ad E k) :: st) := by
  intro H locs ls hl hW hS
  have hN := gf_lenN hk (by decide)
  have hR : gf_R x := by omega
  have he := gf_ws_get (E := E) (ρ := φ.2.2.2) (μ := μ) hk.1 hk.2.1
  rw [hk.2.2] at he
  have hin := gf_vin hx.1 hx.2 hR
  refine W.iast C.1 C.2.1 (hW.2.1 k.toNat _ he) (((gf_K C).2 0 _ rfl).1 N (fun j => .int (gf_i (μ k j)))) (fun q => by cases q) (by show ¬ (gf_i x < 0 ∨ (arrV _ _ _).slots.size ≤ _); rw [arrV_size]; exact hin) rfl rfl d fun H1 e z oq => ?_
  have hP1 := hW.2.1.set (e := .inl (E.2.2.1 0, N, .inl (fun j : Nat => gf_i (gf_up μ k x v k j)))) gf_D he (by
    show H1[gf_ad E k]? = some (arrV (E.2.2.1 0) N (fun j : Nat => .int (gf_i (gf_up μ k x v k j))))
    rw [e]
    show some ((arrV (E.2.2.1 0) N (fun j : Nat => .int (gf_i (μ k j)))).setSlot _ _) = _
    rw [arrV_store, gf_i_nat hx.1 hR]
    congr 2
    funext q
    have e2 := congrFun (gf_upf (μ := μ) (k := k) (v := v) hx.1) q
    rw [← e2]
    by_cases hq : q = x.toNat
    · subst hq; simp [updV, upd]
    · simp [updV, upd, hq]) oq
  rw [gf_ws_set (ρ' := φ.2.2.2) (μ' := gf_up μ k x v) hk.1 hk.2.1 (by rw [hk.2.2]; rfl) (fun a ha => gf_up_row ha) (fun _ _ => rfl)] at hP1
  exact kk H1 _ ls hl ⟨fun h => by rw [z]; exact hW.1 h, hP1, gf_rg_up hW.2.2 (gf_rg_R hv)⟩ (hS.put z oq (gf_D.2 k.toNat _ he))
theorem gf_vb (v : Int) : vp_nar .byte (gf_i v) = gf_i (gf_b v) := by rw [vp_nar_byte, gf_b_i]
theorem gf_bast {v : Int} (hn : φ.2.2.1 = 81) (C : gf_C X E cc nL own rm) (d : decode cc pc = .ok (.bastore, 1)) (hk : gf_is φ.2.2.1 k 3 c N) (hx : 0 ≤ x ∧ x < (N : Int)) (kk : gf_G X E Q nL φ (gf_up μ k x (gf_b v)) (pc + 1) lv st) : gf_G X E Q nL φ μ pc lv (.int (gf_i v) :: .int (gf_i x) :: .ref (gf_ad E k) :: st) := by
  intro H locs ls hl hW hS
  have hN := gf_lenN hk (by decide)
  have hR : gf_R x := by omega
  have he := gf_ws_get (E := E) (ρ := φ.2.2.2) (μ := μ) hk.1 hk.2.1
  rw [hk.2.2] at he
  refine va_bast C.1 C.2.1 (gf_K C) hW.2.1 gf_D hS k.toNat 2 he rfl (gf_vin hx.1 hx.2 hR) d fun H1 locs1 hP1 _ hS1 => ?_
  rw [gf_vb, gf_i_nat hx.1 hR, gf_upf hx.1] at hP1
  rw [gf_ws_set (ρ' := φ.2.2.2) (μ' := gf_up μ k x (gf_b v)) hk.1 hk.2.1 (by rw [hk.2.2]; rfl) (fun a ha => gf_up_row ha) (fun _ _ => rfl)] at hP1
  have := gf_b_R v
  exact kk H1 _ ls hl ⟨fun h => by omega, hP1, gf_rg_up hW.2.2 (gf_rg_R (by omega))⟩ hS1
theorem gf_upfl {μ : gf_M} {k x v : Int} (h0 : 0 ≤ x) : vp_updL (fun j : Nat => gf_l (μ k j)) x.toNat (gf_l v) = fun j : Nat => gf_l (gf_up μ k x v k j) := by
  funext j
  by_cases hj : j = x.toNat
  · subst hj
    simp [vp_updL, gf_up, show max x 0 = x by omega]
  · have : (j : Int) ≠ x := by omega
    simp [vp_updL, gf_up, this, hj]
theorem gf_last {v : Int} (hn : φ.2.2.1 = 81) (C : gf_C X E cc nL own rm) (d : decode cc pc = .ok (.lastore, 1)) (hk : gf_is φ.2.2.1 k 2 c N) (hx : 0 ≤ x ∧ x < (N : Int)) (hv : gf_RL v) (kk : gf_G X E Q nL φ (gf_up μ k x v) (pc + 1) lv st) : gf_G X E Q nL φ μ pc lv (.long (gf_l v) :: .int (gf_i x) :: .ref (gf_ad E k) :: st) := by
  intro H locs ls hl hW hS
  have hN := gf_lenN hk (by decide)
  have hR : gf_R x := by omega
  have he := gf_ws_get (E := E) (ρ := φ.2.2.2) (μ := μ) hk.1 hk.2.1
  rw [hk.2.2] at he
  refine va_last C.1 C.2.1 (gf_K C) hW.2.1 gf_D hS k.toNat 1 he rfl (gf_vin hx.1 hx.2 hR) d fun H1 locs1 hP1 _ hS1 => ?_
  rw [gf_i_nat hx.1 hR, gf_upfl hx.1] at hP1
  rw [gf_ws_set (ρ' := φ.2.2.2) (μ' := gf_up μ k x v) hk.1 hk.2.1 (by rw [hk.2.2]; rfl) (fun a ha => gf_up_row ha) (fun _ _ => rfl)] at hP1
  exact kk H1 _ ls hl ⟨fun h => by omega, hP1, gf_rg_up hW.2.2 (by unfold gf_rg gf_lg; simp [hk.2.2]; omega)⟩ hS1
theorem gf_getsL (C : gf_C X E cc nL "GuardFigures$Reader" rm) (d : decode cc pc = .ok (.getstatic 52, 3)) (kk : gf_G X E Q nL φ μ (pc + 3) lv (.ref E.2.2.2.1 :: st)) : gf_G X E Q nL φ μ pc lv st :=
  fun H locs ls hl hW hS => va_getsN C.1 C.2.1 C.2.2.2.2.2.2.1.1 hS C.2.2.2.1 (va_Nw.use rfl C.2.2.2.2.2.2.1.2.2.2.2.1) (fun _ h => h) d (kk H locs ls hl hW hS)
theorem gf_getsA (C : gf_C X E cc nL "GuardFigures$Guard" rm) (d : decode cc pc = .ok (.getstatic 21, 3)) (kk : gf_G X E Q nL φ μ (pc + 3) lv (.ref E.2.2.2.2 :: st)) : gf_G X E Q nL φ μ pc lv st :=
  fun H locs ls hl hW hS => va_getsN C.1 C.2.1 C.2.2.2.2.2.2.1.2.2.1 hS C.2.2.2.1 (va_Nw.use rfl C.2.2.2.2.2.2.1.2.2.2.2.2.1) (fun _ h => h) d (kk H locs ls hl hW hS)
theorem gf_getsF {index : Nat} (C : gf_C X E cc nL "GuardFigures" rm) (hw : Cond.fieldLink "GuardFigures" index "GuardFigures" "ABOVE" "[I" ∈ gf_tbl) (d : decode cc pc = .ok (.getstatic index, 3)) (kk : gf_G X E Q nL φ μ (pc + 3) lv (.ref E.2.2.2.2 :: st)) : gf_G X E Q nL φ μ pc lv st :=
  fun H locs ls hl hW hS => va_gets C.1 C.2.1 C.2.2.2.2.2.2.1.2.2.1 hS C.2.2.2.1 (C.2.2.2.2.1 _ hw) (fun _ h => h) d (kk H locs ls hl hW hS)
theorem gf_tldL (C : gf_C X E cc nL own rm) (d : decode cc pc = .ok (.iaload, 1)) (hx : 0 ≤ x ∧ x < 6) (kk : gf_G X E Q nL φ μ (pc + 1) lv (.int (gf_i (([103, 101, 99, 104, 98, 100] : List Int).getD x.toNat 0)) :: st)) : gf_G X E Q nL φ μ pc lv (.int (gf_i x) :: .ref E.2.2.2.1 :: st) := by
  intro H locs ls hl hW hS
  have hR : gf_R x := by omega
  exact va_ti C.1 C.2.1 C.2.2.2.2.2.2.1.2.1 hS (gf_vin hx.1 hx.2 hR) (by rw [gf_i_nat hx.1 hR]; rfl) d (kk H locs ls hl hW hS)
theorem gf_tldA (C : gf_C X E cc nL own rm) (d : decode cc pc = .ok (.iaload, 1)) (hx : 0 ≤ x ∧ x < 6) (kk : gf_G X E Q nL φ μ (pc + 1) lv (.int (gf_i (([-1, 0, 0, 0, 1, 2] : List Int).getD x.toNat 0)) :: st)) : gf_G X E Q nL φ μ pc lv (.int (gf_i x) :: .ref E.2.2.2.2 :: st) := by
  intro H locs ls hl hW hS
  have hR : gf_R x := by omega
  exact va_ti C.1 C.2.1 C.2.2.2.2.2.2.1.2.2.2.1 hS (gf_vin hx.1 hx.2 hR) (by rw [gf_i_nat hx.1 hR]; rfl) d (kk H locs ls hl hW hS)
/-- row k from x on, n places, come to row k2 from y on -/
def gf_cp (μ : gf_M) (k x k2 y n : Int) : gf_M := fun a b => if a = k2 ∧ y ≤ b ∧ b < y + n then μ k (x + (b - y)) else μ a b
theorem gf_copy {index c2 N2 : Nat} {k2 y n : Int} (hn81 : φ.2.2.1 = 81) (C : gf_C X E cc nL own rm) (hw1 : Cond.methodLink own index arraycopyName ∈ gf_tbl) (hw2 : Cond.native arraycopyName ∈ gf_tbl) (hw3 : Cond.static arraycopyName ∈ gf_tbl) (hw4 : Cond.initialized "java/lang/System" ∈ gf_tbl) (hfr : 1 ≤ rm.frames) (hlo : (st.map fun v => v.category).sum + (nativeFrameWords "java/lang/System" "arraycopy" 5 + 11) ≤ rm.locals) (d : decode cc pc = .ok (.invokestatic index, 3)) (hk : gf_is φ.2.2.1 k 1 c N) (hk2 : gf_is φ.2.2.1 k2 1 c2 N2) (hx : 0 ≤ x ∧ 0 ≤ y ∧ 0 ≤ n ∧ x + n ≤ (N : Int) ∧ y + n ≤ (N2 : Int)) (kk : gf_G X E Q nL φ (gf_cp μ k x k2 y n) (pc + 3) lv st) : gf_G X E Q nL φ μ pc lv (.int (gf_i n) :: .int (gf_i y) :: .ref (gf_ad E k2) :: .int (gf_i x) :: .ref (gf_ad E k) :: st) := by
  intro H locs ls hl hW hS
  have hN := gf_lenN hk (by decide)
  have hN2 := gf_lenN hk2 (by decide)
  have hRx : gf_R x := by omega
  have hRy : gf_R y := by omega
  have hRn : gf_R n := by omega
  have he := gf_ws_get (E := E) (ρ := φ.2.2.2) (μ := μ) hk.1 hk.2.1
  rw [hk.2.2] at he
  have he2 := gf_ws_get (E := E) (ρ := φ.2.2.2) (μ := μ) hk2.1 hk2.2.1
  rw [hk2.2.2] at he2
  have hts := C.2.2.2.2.1
  refine va_copyi C.1 C.2.1 (by rw [C.2.2.1]; exact hl.1.symm) C.2.2.2.1 (hts _ hw1) (hts _ hw2) (hts _ hw3) (hts _ hw4) (gf_K C) hW.2.1 gf_D hS k.toNat k2.toNat 0 0 he he2 rfl rfl rfl (fun h => by have := (gf_i_neg hRx).mp h; omega) (fun h => by have := (gf_i_neg hRy).mp h; omega) (fun h => by have := (gf_i_neg hRn).mp h; omega) (by rw [gf_i_nat hx.1 hRx, gf_i_nat hx.2.2.1 hRn]; omega) (by rw [gf_i_nat hx.2.1 hRy, gf_i_nat hx.2.2.1 hRn]; omega) (fun _ _ => rfl) (by rw [C.2.2.2.2.2.2.2.1]; exact hfr) (by rw [C.2.2.2.2.2.2.2.1]; exact hlo) d fun H1 locs1 hP1 _ hS1 => ?_
  have ef : va_cpy (fun j : Nat => gf_i (μ k j)) (fun j : Nat => gf_i (μ k2 j)) (gf_i x).toNatClampNeg (gf_i y).toNatClampNeg (gf_i n).toNatClampNeg = fun j : Nat => gf_i (gf_cp μ k x k2 y n k2 j) := by
    rw [gf_i_nat hx.1 hRx, gf_i_nat hx.2.1 hRy, gf_i_nat hx.2.2.1 hRn]
    funext j
    unfold va_cpy gf_cp
    by_cases hj : y.toNat ≤ j ∧ j < y.toNat + n.toNat
    · rw [if_pos hj, if_pos ⟨rfl, by omega, by omega⟩]
      have e1 : ((x.toNat + (j - y.toNat) : Nat) : Int) = x + ((j : Int) - y) := by omega
      show gf_i (μ k ((x.toNat + (j - y.toNat) : Nat) : Int)) = _
      rw [e1]
    · rw [if_neg hj, if_neg (fun h => hj (by omega))]
  rw [ef] at hP1
  rw [gf_ws_set (ρ' := φ.2.2.2) (μ' := gf_cp μ k x k2 y n) hk2.1 hk2.2.1 (by rw [hk2.2.2]; rfl) (fun a ha => by funext b; simp [gf_cp, ha]) (fun _ _ => rfl)] at hP1
  refine kk H1 _ ls hl ⟨fun h => by omega, hP1, fun a b => ?_⟩ hS1
  unfold gf_cp
  by_cases hab : a = k2 ∧ y ≤ b ∧ b < y + n
  · rw [if_pos hab]
    have := hW.2.2 k (x + (b - y))
    have h1 : gf_R (μ k (x + (b - y))) := by simpa [gf_rg, gf_lg, hk.2.2] using this
    exact gf_rg_R h1
  · rw [if_neg hab]
    exact hW.2.2 a b
theorem gf_tblO {dflt lo hi : Int} {offs : Array Int} {len : Nat} (tgt : Nat) (C : gf_C X E cc nL own rm) (d : decode cc pc = .ok (.tableswitch dflt lo hi offs, len)) (hR : gf_R x) (h : x < lo ∨ hi < x) (ht : (pc : Int) + dflt = (tgt : Int)) (kk : gf_G X E Q nL φ μ tgt lv st) : gf_G X E Q nL φ μ pc lv (.int (gf_i x) :: st) :=
  fun H locs ls hl hW hS => lv_tableOut C.1 C.2.1 d (by rw [gf_i_toInt hR]; exact h) ht (kk H locs ls hl hW hS)
theorem gf_tblI {dflt lo hi off : Int} {offs : Array Int} {len : Nat} (tgt : Nat) (C : gf_C X E cc nL own rm) (d : decode cc pc = .ok (.tableswitch dflt lo hi offs, len)) (hR : gf_R x) (h1 : lo ≤ x) (h2 : x ≤ hi) (ho : offs[(x - lo).toNat]? = some off) (ht : (pc : Int) + off = (tgt : Int)) (kk : gf_G X E Q nL φ μ tgt lv st) : gf_G X E Q nL φ μ pc lv (.int (gf_i x) :: st) :=
  fun H locs ls hl hW hS => lv_tableIn C.1 C.2.1 d (by rw [gf_i_toInt hR]; omega) (by rw [gf_i_toInt hR]; omega) (by rw [gf_i_toInt hR]; exact ho) ht (kk H locs ls hl hW hS)
end GF3
