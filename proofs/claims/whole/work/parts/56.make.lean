/-! cells are made: new objects, arrays; constructors -/
def gf_O (U : State) : Prop := va_AO "GuardFigures$Row" U ∧ va_AO "GuardFigures$Guard" U ∧ va_AO "GuardFigures$Writing" U
theorem gf_O.moved {u U : State} (hvm : u.vm.Alike U.vm) (h : gf_O u) : gf_O U := ⟨h.1.moved hvm, h.2.1.moved hvm, h.2.2.moved hvm⟩
theorem gf_ws_succ {E : gf_E} {n : Nat} {ρ μ : gf_M} : gf_ws E (n + 1) ρ μ = gf_ws E n ρ μ ++ [(E.1 + n, gf_cell E (gf_sh n) (ρ n) (μ n))] := by
  unfold gf_ws
  rw [List.range_succ, List.map_append]
  rfl
/-- one more cell -/
theorem gf_W_new {E : gf_E} {n : Nat} {ρ μ : gf_M} {H H1 : Heap} (hn : n < 81) (hW : gf_W E n ρ μ H) (z1 : H1.size = E.1 + n + 1) (o1 : ∀ q : Nat, q < E.1 + n → H1[q]? = H[q]?) (ha : va_at E.2.1 gf_cls (E.1 + n, gf_cell E (gf_sh n) (ρ n) (μ n)) H1) : gf_W E (n + 1) ρ μ H1 := by
  have hs := hW.1 hn
  refine ⟨fun _ => by omega, ?_, hW.2.2⟩
  rw [gf_ws_succ]
  refine (hW.2.1.kept (fun k x hx => o1 x.1 (by rw [← hs]; exact (hW.2.1 k x hx).lt))).app (fun k x hx => ?_)
  have hz : k < 1 := (List.getElem?_eq_some_iff.mp hx).1
  rw [show k = 0 by omega] at hx
  cases hx
  exact ha
theorem gf_S_new {E : gf_E} {n : Nat} {H0 H H1 : Heap} {locs : List Loc} (hs : H.size = E.1 + n) (hS : va_S (gf_A E) H0 H locs) (z1 : H1.size = E.1 + n + 1) (o1 : ∀ q : Nat, q < E.1 + n → H1[q]? = H[q]?) : va_S (gf_A E) H0 H1 locs :=
  ⟨Nat.le_trans hS.1 (by omega), fun x h1 h2 => (o1 x (by have := hS.1; omega)).trans (hS.2.1 x h1 h2), hS.2.2⟩
def gf_dv (t : Nat) : Value := match t with
  | 0 => .int 0
  | 1 => .long 0
  | _ => .null
theorem gf_fv_dv (E : gf_E) (t : Nat) : gf_fv E t (-1) 0 = gf_dv t := by
  match t with
  | 0 => rfl
  | 1 => rfl
  | t + 2 => simp [gf_fv, gf_dv, gf_rf, va_rf]
section GF7
variable {X : gf_X} {E : gf_E} {Q : State → Prop} {nL : Nat} {φ : gf_F} {μ : gf_M} {pc : Nat} {lv : List (Nat × Value)} {st : List Value} {cc : ByteArray} {own : String} {rm : Room}
theorem gf_new {ci N index : Nat} {T : u_T} {Cn : String} {ty : Nat → FieldType} (C : gf_C X E cc nL own rm) (q : gf_cl ci Cn T N) (hty : ∀ k, k < N → parseFieldDescriptor (T k).2.2.1 = some (ty k)) (hdef : ∀ j, j < N → defaultValue (ty j) = gf_dv (gf_ft ci j)) (hw : Cond.classLink own index Cn ∈ gf_tbl ∧ Cond.instantiable Cn N ∈ gf_tbl ∧ Cond.initialized Cn ∈ gf_tbl) (d : decode cc pc = .ok (.new index, 3)) (hsh : gf_sh (φ.2.2.1 : Int) = (0, ci, N)) (hn : φ.2.2.1 < 81) (hμ : ∀ j : Int, μ (φ.2.2.1 : Int) j = 0) (hρ : ∀ j : Int, φ.2.2.2 (φ.2.2.1 : Int) j = -1) (hc : φ.1 + 1 ≤ rm.cells ∧ φ.2.1 + N ≤ rm.slots) (kk : gf_G X E Q nL (φ.1 + 1, φ.2.1 + N, φ.2.2.1 + 1, φ.2.2.2) μ (pc + 3) lv (.ref (gf_ad E (φ.2.2.1 : Int)) :: st)) : gf_G X E Q nL φ μ pc lv st := by
  intro H locs ls hl hW hS
  have hs := hW.1 hn
  have hKn := (gf_K C).1 ci _ q.1
  have had : gf_ad E (φ.2.2.1 : Int) = E.1 + φ.2.2.1 := by unfold gf_ad; simp
  refine W.newcK C.1 C.2.1 C.2.2.2.1 (C.2.2.2.2.1 _ hw.1) (C.2.2.2.2.1 _ hw.2.1) (C.2.2.2.2.1 _ hw.2.2) rfl d (by rw [C.2.2.2.2.2.2.2.1]; exact hc.1) (by rw [C.2.2.2.2.2.2.2.1]; exact hc.2) hKn.2.1 hs fun H1 kC hkC e1 z1 o1 => ?_
  have hb := u_born ty C.2.2.2.2.1 q.2.1 hKn hkC e1 hty
  have hat : va_at E.2.1 gf_cls (E.1 + φ.2.2.1, gf_cell E (gf_sh (φ.2.2.1 : Int)) (φ.2.2.2 (φ.2.2.1 : Int)) (μ (φ.2.2.1 : Int))) H1 := by
    rw [hsh]
    refine ⟨_, q.1, hb.to fun j hj => ?_⟩
    rw [hdef j hj, ← gf_fv_dv E]
    show _ = (((List.range N).map fun j => gf_fv E (gf_ft ci j) (φ.2.2.2 (φ.2.2.1 : Int) j) (μ (φ.2.2.1 : Int) j))[j]?).getD .null
    rw [gf_fs_at hj, hρ, hμ]
    rfl
  rw [had] at kk
  exact kk H1 locs ls hl (gf_W_new hn hW z1 o1 hat) (gf_S_new hs hS z1 o1)
theorem gf_newI {N : Nat} {x : Int} {cA0 : Nat} (C : gf_C X E cc nL own rm) (hw : Cond.arrayClass .int ∈ gf_tbl) (d : decode cc pc = .ok (.newarray .int, 2)) (hx : x = (N : Int)) (hN : N ≤ 10000) (hsh : gf_sh (φ.2.2.1 : Int) = (1, cA0, N)) (hn : φ.2.2.1 < 81) (hμ : ∀ j : Int, μ (φ.2.2.1 : Int) j = 0) (hc : φ.1 + 1 ≤ rm.cells ∧ φ.2.1 + N ≤ rm.slots) (kk : gf_G X E Q nL (φ.1 + 1, φ.2.1 + N, φ.2.2.1 + 1, φ.2.2.2) μ (pc + 2) lv (.ref (gf_ad E (φ.2.2.1 : Int)) :: st)) : gf_G X E Q nL φ μ pc lv (.int (gf_i x) :: st) := by
  intro H locs ls hl hW hS
  have hs := hW.1 hn
  have had : gf_ad E (φ.2.2.1 : Int) = E.1 + φ.2.2.1 := by unfold gf_ad; simp
  have hnn : (gf_i x).toNatClampNeg = N := by rw [gf_i_nat (by omega) (by omega)]; omega
  refine va_newaK (atype := .int) C.1 C.2.1 (C.2.2.2.2.1 _ hw) rfl d rfl (fun z => by have := (gf_i_neg (show gf_R x by omega)).mp z; omega) hnn (by show N * 4 ≤ _; omega) (by rw [C.2.2.2.2.2.2.2.1]; exact hc.1) (by rw [C.2.2.2.2.2.2.2.1]; exact hc.2) hs fun H1 cA e1 z1 o1 hAr hNm => ?_
  have hcA : cA = E.2.2.1 0 := Option.some.inj (hNm.symm.trans ((gf_K C).2 0 _ rfl).2)
  subst hcA
  have hat : va_at E.2.1 gf_cls (E.1 + φ.2.2.1, gf_cell E (gf_sh (φ.2.2.1 : Int)) (φ.2.2.2 (φ.2.2.1 : Int)) (μ (φ.2.2.1 : Int))) H1 := by
    rw [hsh]
    show H1[E.1 + φ.2.2.1]? = some (vp_cell (E.2.2.1 0) (N, .inl fun j : Nat => gf_i (μ (φ.2.2.1 : Int) j)))
    rw [show (fun j : Nat => gf_i (μ (φ.2.2.1 : Int) j)) = (fun _ : Nat => (0 : Int32)) from funext fun j => by rw [hμ]; rfl, vp_cell_i]
    exact e1
  rw [had] at kk
  exact kk H1 locs ls hl (gf_W_new hn hW z1 o1 hat) (gf_S_new hs hS z1 o1)
theorem gf_newL {N : Nat} {x : Int} {cA0 : Nat} (C : gf_C X E cc nL own rm) (hw : Cond.arrayClass .long ∈ gf_tbl) (d : decode cc pc = .ok (.newarray .long, 2)) (hx : x = (N : Int)) (hN : N ≤ 10000) (hsh : gf_sh (φ.2.2.1 : Int) = (2, cA0, N)) (hn : φ.2.2.1 < 81) (hμ : ∀ j : Int, μ (φ.2.2.1 : Int) j = 0) (hc : φ.1 + 1 ≤ rm.cells ∧ φ.2.1 + N ≤ rm.slots) (kk : gf_G X E Q nL (φ.1 + 1, φ.2.1 + N, φ.2.2.1 + 1, φ.2.2.2) μ (pc + 2) lv (.ref (gf_ad E (φ.2.2.1 : Int)) :: st)) : gf_G X E Q nL φ μ pc lv (.int (gf_i x) :: st) := by
  intro H locs ls hl hW hS
  have hs := hW.1 hn
  have had : gf_ad E (φ.2.2.1 : Int) = E.1 + φ.2.2.1 := by unfold gf_ad; simp
  have hnn : (gf_i x).toNatClampNeg = N := by rw [gf_i_nat (by omega) (by omega)]; omega
  refine va_newaK (atype := .long) C.1 C.2.1 (C.2.2.2.2.1 _ hw) rfl d rfl (fun z => by have := (gf_i_neg (show gf_R x by omega)).mp z; omega) hnn (by show N * 8 ≤ _; omega) (by rw [C.2.2.2.2.2.2.2.1]; exact hc.1) (by rw [C.2.2.2.2.2.2.2.1]; exact hc.2) hs fun H1 cA e1 z1 o1 hAr hNm => ?_
  have hcA : cA = E.2.2.1 1 := Option.some.inj (hNm.symm.trans ((gf_K C).2 1 _ rfl).2)
  subst hcA
  have hat : va_at E.2.1 gf_cls (E.1 + φ.2.2.1, gf_cell E (gf_sh (φ.2.2.1 : Int)) (φ.2.2.2 (φ.2.2.1 : Int)) (μ (φ.2.2.1 : Int))) H1 := by
    rw [hsh]
    show H1[E.1 + φ.2.2.1]? = some (vp_cell (E.2.2.1 1) (N, .inr (.inl fun j : Nat => gf_l (μ (φ.2.2.1 : Int) j))))
    rw [show (fun j : Nat => gf_l (μ (φ.2.2.1 : Int) j)) = (fun _ : Nat => (0 : Int64)) from funext fun j => by rw [hμ]; rfl, vp_cell_l]
    exact e1
  rw [had] at kk
  exact kk H1 locs ls hl (gf_W_new hn hW z1 o1 hat) (gf_S_new hs hS z1 o1)
theorem gf_newB {N : Nat} {x : Int} {cA0 : Nat} (C : gf_C X E cc nL own rm) (hw : Cond.arrayClass .byte ∈ gf_tbl) (d : decode cc pc = .ok (.newarray .byte, 2)) (hx : x = (N : Int)) (hN : N ≤ 10000) (hsh : gf_sh (φ.2.2.1 : Int) = (3, cA0, N)) (hn : φ.2.2.1 < 81) (hμ : ∀ j : Int, μ (φ.2.2.1 : Int) j = 0) (hc : φ.1 + 1 ≤ rm.cells ∧ φ.2.1 + N ≤ rm.slots) (kk : gf_G X E Q nL (φ.1 + 1, φ.2.1 + N, φ.2.2.1 + 1, φ.2.2.2) μ (pc + 2) lv (.ref (gf_ad E (φ.2.2.1 : Int)) :: st)) : gf_G X E Q nL φ μ pc lv (.int (gf_i x) :: st) := by
  intro H locs ls hl hW hS
  have hs := hW.1 hn
  have had : gf_ad E (φ.2.2.1 : Int) = E.1 + φ.2.2.1 := by unfold gf_ad; simp
  have hnn : (gf_i x).toNatClampNeg = N := by rw [gf_i_nat (by omega) (by omega)]; omega
  refine va_newaK (atype := .byte) C.1 C.2.1 (C.2.2.2.2.1 _ hw) rfl d rfl (fun z => by have := (gf_i_neg (show gf_R x by omega)).mp z; omega) hnn (by show N * 1 ≤ _; omega) (by rw [C.2.2.2.2.2.2.2.1]; exact hc.1) (by rw [C.2.2.2.2.2.2.2.1]; exact hc.2) hs fun H1 cA e1 z1 o1 hAr hNm => ?_
  have hcA : cA = E.2.2.1 2 := Option.some.inj (hNm.symm.trans ((gf_K C).2 2 _ rfl).2)
  subst hcA
  have hat : va_at E.2.1 gf_cls (E.1 + φ.2.2.1, gf_cell E (gf_sh (φ.2.2.1 : Int)) (φ.2.2.2 (φ.2.2.1 : Int)) (μ (φ.2.2.1 : Int))) H1 := by
    rw [hsh]
    show H1[E.1 + φ.2.2.1]? = some (vp_cell (E.2.2.1 2) (N, .inl fun j : Nat => gf_i (μ (φ.2.2.1 : Int) j)))
    rw [show (fun j : Nat => gf_i (μ (φ.2.2.1 : Int) j)) = (fun _ : Nat => (0 : Int32)) from funext fun j => by rw [hμ]; rfl, vp_cell_i]
    exact e1
  rw [had] at kk
  exact kk H1 locs ls hl (gf_W_new hn hW z1 o1 hat) (gf_S_new hs hS z1 o1)
theorem gf_newQ {N c index : Nat} {x : Int} {C0 : String} (C : gf_C X E cc nL own rm) (hO : va_AO C0 (gf_xs X)) (hw : Cond.classLink own index C0 ∈ gf_tbl) (hty : (gf_tys E)[c]? = some (E.2.2.1 c, .object C0)) (hc3 : c = 3 ∨ c = 4 ∨ c = 5) (d : decode cc pc = .ok (.anewarray index, 3)) (hx : x = (N : Int)) (hN : N ≤ 10000) (hsh : gf_sh (φ.2.2.1 : Int) = (4, c, N)) (hn : φ.2.2.1 < 81) (hρ : ∀ j : Int, φ.2.2.2 (φ.2.2.1 : Int) j = -1) (hc : φ.1 + 1 ≤ rm.cells ∧ φ.2.1 + N ≤ rm.slots) (kk : gf_G X E Q nL (φ.1 + 1, φ.2.1 + N, φ.2.2.1 + 1, φ.2.2.2) μ (pc + 3) lv (.ref (gf_ad E (φ.2.2.1 : Int)) :: st)) : gf_G X E Q nL φ μ pc lv (.int (gf_i x) :: st) := by
  intro H locs ls hl hW hS
  have hs := hW.1 hn
  have had : gf_ad E (φ.2.2.1 : Int) = E.1 + φ.2.2.1 := by unfold gf_ad; simp
  have hnn : (gf_i x).toNatClampNeg = N := by rw [gf_i_nat (by omega) (by omega)]; omega
  subst hnn
  refine W.anew C.1 C.2.1 C.2.2.2.1 (C.2.2.2.2.1 _ hw) (va_AO.use hO) rfl d rfl (fun z => by have := (gf_i_neg (show gf_R x by omega)).mp z; omega) (by omega) (by rw [C.2.2.2.2.2.2.2.1]; exact hc.1) (by rw [C.2.2.2.2.2.2.2.1]; exact hc.2) fun cA kA comp f1 f2 f3 f4 => ?_
  generalize hH1 : H.push ({ cls := cA, slots := Array.replicate (gf_i x).toNatClampNeg .null, vm := .none } : Cell) = H1
  have z1 : H1.size = E.1 + φ.2.2.1 + 1 := by rw [← hH1, Array.size_push, hs]
  have e1 : H1[E.1 + φ.2.2.1]? = some (arrV cA (gf_i x).toNatClampNeg (fun _ => .null)) := by rw [← hs, ← hH1, Array.getElem?_push_size, ← arrV_new]
  have o1 : ∀ q : Nat, q < E.1 + φ.2.2.1 → H1[q]? = H[q]? := fun q hq => by rw [← hH1, Array.getElem?_push, if_neg (by omega)]
  obtain ⟨_, _, _, _, _, g4⟩ := ((gf_K C).2 c _ hty).2
  have hcA : cA = E.2.2.1 c := Option.some.inj (f1.symm.trans g4)
  subst hcA
  have hat : va_at E.2.1 gf_cls (E.1 + φ.2.2.1, gf_cell E (gf_sh (φ.2.2.1 : Int)) (φ.2.2.2 (φ.2.2.1 : Int)) (μ (φ.2.2.1 : Int))) H1 := by
    rw [hsh]
    show H1[E.1 + φ.2.2.1]? = some (vp_cell (E.2.2.1 c) ((gf_i x).toNatClampNeg, .inr (.inr (.inr (.inr fun j : Nat => gf_rf E (φ.2.2.2 (φ.2.2.1 : Int) j))))))
    rw [show (fun j : Nat => gf_rf E (φ.2.2.2 (φ.2.2.1 : Int) j)) = (fun _ : Nat => none) from funext fun j => by rw [hρ]; rfl, vp_cell_q]
    exact e1
  have hgo := kk H1 locs ls hl (gf_W_new hn hW z1 o1 hat) (gf_S_new hs hS z1 o1)
  rw [had, ← hs] at hgo
  exact hgo
/-- a reference is laid into an array -/
theorem gf_aast {c N ci M : Nat} {k x r : Int} {C0 : String} {T : u_T} (C : gf_C X E cc nL own rm) (hty : (gf_tys E)[c]? = some (E.2.2.1 c, .object C0)) (q : gf_cl ci C0 T M) (d : decode cc pc = .ok (.aastore, 1)) (hk : gf_is φ.2.2.1 k 4 c N) (hr : gf_is φ.2.2.1 r 0 ci M) (hx : 0 ≤ x ∧ x < (N : Int)) (kk : gf_G X E Q nL (φ.1, φ.2.1, φ.2.2.1, gf_up φ.2.2.2 k x r) μ (pc + 1) lv st) : gf_G X E Q nL φ μ pc lv (.ref (gf_ad E r) :: .int (gf_i x) :: .ref (gf_ad E k) :: st) := by
  intro H locs ls hl hW hS
  have hN := gf_lenN hk (by decide)
  have hR : gf_R x := by omega
  have he := gf_ws_get (E := E) (ρ := φ.2.2.2) (μ := μ) hk.1 hk.2.1
  rw [hk.2.2] at he
  have hv := gf_ws_get (E := E) (ρ := φ.2.2.2) (μ := μ) hr.1 hr.2.1
  rw [hr.2.2] at hv
  have hin := gf_vin hx.1 hx.2 hR
  have hlt : (gf_i x).toNatClampNeg < N := Nat.not_le.mp fun z => hin (Or.inr z)
  have h0 : ¬ gf_i x < 0 := fun z => hin (Or.inl z)
  obtain ⟨r', hr', cellV, g1, g2, g3, -⟩ := hW.2.1 r.toNat _ hv
  have hcls := ((gf_K C).1 ci _ q.1).2
  obtain ⟨kA, comp, k1, k2, k3, -⟩ := ((gf_K C).2 c _ hty).2
  have hcomp : comp = E.2.1.1 ci := Option.some.inj (k3.symm.trans hcls.1)
  subst hcomp
  obtain ⟨kC, hkC, -⟩ := hcls.2
  refine W.aast C.1 C.2.1 (hW.2.1 k.toNat _ he) (fun z h => by cases h) (fun h => by cases h) k1 k2 rfl hkC ⟨h0, by show _ < (arrV _ _ _).slots.size; rw [arrV_size]; exact hlt⟩ g1 (fun z h => by rw [g3] at h; cases h) (by rw [g2]; exact hkC) (by rw [g2]; exact va_assign hcls) rfl rfl d fun H1 e z oq => ?_
  have hP1 := hW.2.1.set (e := .inl (E.2.2.1 c, N, .inr (.inr (.inr (.inr (fun j : Nat => gf_rf E (gf_up φ.2.2.2 k x r k j))))))) gf_D he (by
    show H1[gf_ad E k]? = some (vp_cell (E.2.2.1 c) (N, .inr (.inr (.inr (.inr (fun j : Nat => gf_rf E (gf_up φ.2.2.2 k x r k j)))))))
    rw [e]
    show some ((vp_cell (E.2.2.1 c) (N, .inr (.inr (.inr (.inr (fun j : Nat => gf_rf E (φ.2.2.2 k j))))))).setSlot _ _) = _
    rw [vp_cell_q, vp_cell_q, arrV_store, gf_i_nat hx.1 hR]
    congr 2
    funext z
    by_cases hz : z = x.toNat
    · subst hz
      simp only [updV]
      rw [if_pos trivial, show ((x.toNat : Nat) : Int) = x by omega, gf_up_s]
      simp [gf_rf, va_rf, show ¬ r < 0 by have := hr.1; omega]
    · simp only [updV]
      rw [if_neg hz, gf_up_j (by omega)]) oq
  rw [gf_ws_set (ρ' := gf_up φ.2.2.2 k x r) (μ' := μ) hk.1 hk.2.1 (by rw [hk.2.2]; rfl) (fun _ _ => rfl) (fun a ha => gf_up_row ha)] at hP1
  exact kk H1 _ ls hl ⟨fun h => by rw [z]; exact hW.1 h, hP1, hW.2.2⟩ (hS.put z oq (gf_D.2 k.toNat _ he))
/-- Object's constructor -/
theorem gf_objI {idx : Nat} {k : Int} (C : gf_C X E cc nL own rm) (hw : Cond.methodLink own idx Lib.objectInit ∈ gf_tbl ∧ Cond.instanceMethod Lib.objectInit ∈ gf_tbl ∧ Cond.code Lib.objectInit ⟨#[0xb1]⟩ 1 none ∈ gf_tbl) (d : decode cc pc = .ok (.invokespecial idx, 3)) (hst : (st.map fun v => v.category).sum ≤ 8) (hr : 1 ≤ rm.frames ∧ 20 ≤ rm.locals) (kk : gf_G X E Q nL φ μ (pc + 3) lv st) : gf_G X E Q nL φ μ pc lv (.ref (gf_ad E k) :: st) := by
  intro H locs ls hl hW hS
  refine W.objInit C.1 C.2.1 C.2.2.2.1 (C.2.2.2.2.1 _ hw.1) (C.2.2.2.2.1 _ hw.2.1) (C.2.2.2.2.1 _ hw.2.2) rfl (by rw [C.2.2.1]; exact hl.1) rfl d (by rw [C.2.2.2.2.2.2.2.1]; exact hr.1) ?_ (kk H locs ls hl hW hS)
  rw [C.2.2.2.2.2.2.2.1]
  have := lv_room (m := gf_xm X) (pc := pc) (ls := ls) (rest := .ref (gf_ad E k) :: st) hst
  omega
end GF7
