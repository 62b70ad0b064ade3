/-! THE CLAIM OUT OF ONE WALK OF THE LAW'S BODY. Your part is whole_start (and what it stands on); all else here is the same for every law, but numbers. -/
def R_law : String := "GuardFiguresLaw"
def lw_P (b : Addr) (xs : List Int32) (args : Array Value) (s : State) : Prop := args = #[.ref b] ∧ s.IntsAt b xs ∧ xs.length ≤ 3072 ∧ (Jvm.Cond.and given_1 narrow_1).before args s = true
def lw_Q (_ : Array Value) (s : State) (o : Outcome) (t : State) : Prop := o = .returned (some (.int 1)) ∧ Framed s o t [] 600000 7302250
def lw_Z (below : List Frame) (a : Array Value) (s : State) : State → Prop := fun t => ∃ o, t.status = .running ∧ Ended t below o ∧ lw_Q a s o t
/-- the law's own end, with 1 on the stack, nothing written that was there before, its room as the claim has it -/
theorem lw_ret {p : Program} {l : Launch} {e : Env} {s : State} {m : MethodId} {below : List Frame} {meth : Method} {c : Code} {b : Nat} (hx : p.tables.exec = Jvm.exec) (hb : c.code = code) (hr : meth.sig.returnType = ret) (hlocks : meth.locks = false) {pc : Nat} {H : Heap} {ls : Array Slot} (hdg : decode code pc = .ok (.ireturn, 1)) : W p l e room_1 s m #[Value.ref b] below meth c H [] 600000 7302250 (lw_Z below #[Value.ref b] s) (F0 m pc ls [.int 1]) := by
  intro T hT X
  obtain ⟨fs, hret, hrun, hended, hW, hframe⟩ := X.leave (v := some (.int 1)) (hlocks := hlocks) (fun h => by rw [hr] at h; cases h)
  have hmeth' : T.vm.method? m = some meth := X.method'
  refine ⟨T.setFrames fs, ?_, .returned (some (.int 1)), hrun, hended, rfl, ⟨_, rfl⟩, hW, hframe⟩
  jvm_step X.here [X.here.top, hx, hb, hdg, hmeth', hr, ret, narrow_b1]
  (try refine ⟨rfl, ?_⟩); (try refine ⟨rfl, ?_⟩)
  first | (intro acts; rw [hret _ acts rfl rfl rfl]) | rw [hret _ _ rfl rfl rfl]
  exact Steps.refl _
/-- what holds at the law's entry: the machine, the code, the tables' words (any of lw_tbl by 'hts w (by decide +kernel)'), the script of L ints xs at the cell b, what the Statement gives of the start (any of its parts by flat_of_before) -/
def lw_At (p : Program) (s : State) (m : MethodId) (meth : Method) (c : Code) (b L : Nat) (xs : Nat → Int32) : Prop :=
  p.tables.exec = Jvm.exec ∧ c.code = code ∧ meth.sig.returnType = ret ∧ c.maxLocals = 4 ∧ s.vm.findClass R_law = some m.cls ∧ (∀ w ∈ lw_tbl, w.before #[Value.ref b] s = true) ∧ va_X b L xs s s.heap ∧ b < s.heap.size ∧ meth.locks = false ∧ (Jvm.Cond.and given_1 narrow_1).before #[Value.ref b] s = true

/-! rows of the law's own walk -/
def gf_sx (xs : Nat → Int32) (j : Int) : Int := (xs j.toNat).toInt
theorem gf_sx_R (xs : Nat → Int32) (j : Int) : gf_R (gf_sx xs j) := gf_i_rng _
/-- the script lies where it lay -/
def la_S (X : gf_X) (E : gf_E) (b L : Nat) (xs : Nat → Int32) : Prop := va_X b L xs (gf_xs X) (gf_xs X).heap ∧ b < (gf_xs X).heap.size ∧ b < E.1 ∧ L ≤ 3072
abbrev la_φ : gf_F := (81, 13358, 81, gf_ref)
abbrev la_lv (E : gf_E) (b : Nat) (i : Int) : List (Nat × Value) := [(3, .int (gf_i i)), (2, .ref (gf_ad E 65)), (1, .ref (gf_ad E 0)), (0, .ref b)]
theorem gf_and63 (x : Int) : gf_i x &&& gf_i 63 = gf_i (x % 64) := by
  apply Int32.toBitVec.inj
  apply BitVec.eq_of_toNat_eq
  show ((BitVec.ofInt 32 x) &&& (BitVec.ofInt 32 63)).toNat = (BitVec.ofInt 32 (x % 64)).toNat
  rw [BitVec.toNat_and, BitVec.toNat_ofInt, BitVec.toNat_ofInt, BitVec.toNat_ofInt]
  rw [show ((63 : Int) % ((2 ^ 32 : Nat) : Int)).toNat = 2 ^ 6 - 1 by decide, Nat.and_two_pow_sub_one_eq_mod]
  omega
theorem gf_cell_rho {E : gf_E} {sh : Nat × Nat × Nat} {r r' m : Int → Int} (h : ∀ j : Nat, r (j : Int) = r' (j : Int)) : gf_cell E sh r m = gf_cell E sh r' m := by
  unfold gf_cell
  split
  · simp only [h]
  · rfl
  · rfl
  · rfl
  · simp only [h]
theorem gf_W_rho {E : gf_E} {n : Nat} {ρ ρ' μ : gf_M} {H : Heap} (h : ∀ k : Nat, k < n → ∀ j : Nat, ρ (k : Int) (j : Int) = ρ' (k : Int) (j : Int)) (hW : gf_W E n ρ μ H) : gf_W E n ρ' μ H := by
  have e : gf_ws E n ρ' μ = gf_ws E n ρ μ := by
    unfold gf_ws
    refine List.map_congr_left (fun k hk => ?_)
    rw [gf_cell_rho (h k (List.mem_range.mp hk))]
  exact ⟨hW.1, by rw [e]; exact hW.2.1, hW.2.2⟩
section GF9
variable {X : gf_X} {E : gf_E} {Q : State → Prop} {nL : Nat} {φ : gf_F} {μ : gf_M} {pc : Nat} {lv : List (Nat × Value)} {st As : List Value} {cc : ByteArray} {own : String} {rm : Room}
variable {y : MethodName} {cd : ByteArray} {mL idx : Nat} {rm' : Room}
theorem gf_rho {c s n : Nat} {ρ ρ' : gf_M} (h : ∀ k : Nat, k < n → ∀ j : Nat, ρ (k : Int) (j : Int) = ρ' (k : Int) (j : Int)) (kk : gf_G X E Q nL (c, s, n, ρ') μ pc lv st) : gf_G X E Q nL (c, s, n, ρ) μ pc lv st := fun H locs ls hl hW hS => kk H locs ls hl (gf_W_rho h hW) hS
theorem gf_sld {b L : Nat} {xs : Nat → Int32} {x : Int} (C : gf_C X E cc nL own rm) (S : la_S X E b L xs) (d : decode cc pc = .ok (.iaload, 1)) (hx : 0 ≤ x ∧ x < (L : Int)) (kk : gf_G X E Q nL φ μ (pc + 1) lv (.int (gf_i (gf_sx xs x)) :: st)) : gf_G X E Q nL φ μ pc lv (.int (gf_i x) :: .ref b :: st) := by
  intro H locs ls hl hW hS
  have hL := S.2.2.2
  have hR : gf_R x := by omega
  refine va_sld C.1 C.2.1 S.1 S.2.1 (Nat.not_le.mpr S.2.2.1) hS (gf_vin hx.1 hx.2 hR) d ?_
  have := kk H locs ls hl hW hS
  unfold gf_sx at this
  rw [← gf_i_of] at this
  rw [gf_i_nat hx.1 hR]
  exact this
theorem gf_slen {b L : Nat} {xs : Nat → Int32} (C : gf_C X E cc nL own rm) (S : la_S X E b L xs) (d : decode cc pc = .ok (.arraylength, 1)) (kk : gf_G X E Q nL φ μ (pc + 1) lv (.int (gf_i (L : Int)) :: st)) : gf_G X E Q nL φ μ pc lv (.ref b :: st) := by
  intro H locs ls hl hW hS
  refine va_slen C.1 C.2.1 S.1 S.2.1 (Nat.not_le.mpr S.2.2.1) hS d ?_
  have := kk H locs ls hl hW hS
  rw [show gf_i (L : Int) = Int32.ofNat L from Int32.ofInt_eq_ofNat] at this
  exact this
theorem gf_iand63 {x : Int} (C : gf_C X E cc nL own rm) (d : decode cc pc = .ok (.iand, 1)) (kk : gf_G X E Q nL φ μ (pc + 1) lv (.int (gf_i (x % 64)) :: st)) : gf_G X E Q nL φ μ pc lv (.int (gf_i 63) :: .int (gf_i x) :: st) := by
  intro H locs ls hl hW hS
  refine lv_iand C.1 C.2.1 d ?_
  rw [gf_and63]
  exact kk H locs ls hl hW hS
theorem gf_callVi2 {ci N : Nat} {T : u_T} {k : Int} {rt : FieldType} {Po : Int → gf_M → Prop} {st0 : List Value} (C : gf_C X E cc nL own rm) (w : gf_kV own idx y cd mL (some rt) As.length) (q : gf_cl ci y.cls T N) (hk : gf_is φ.2.2.1 k 0 ci N) (M : gf_Mi (gf_xl X) E y cd mL rt rm' φ.2.2.1 φ.2.2.2 μ (.ref (gf_ad E k) :: As) Po) (hR : gf_rok rm rm' mL = true) (hr : rm'.cells = 0 ∧ rm'.slots = 0 ∧ φ.1 ≤ rm.cells ∧ φ.2.1 ≤ rm.slots) (hst : (st.map fun v => v.category).sum ≤ 8) (hs : st0 = As.reverse ++ .ref (gf_ad E k) :: st) (d : decode cc pc = .ok (.invokevirtual idx, 3)) (kk : ∀ (r : Int) (μ' : gf_M), gf_R r → Po r μ' → gf_G X E Q nL φ μ' (pc + 3) lv (.int (gf_i r) :: st)) : gf_G X E Q nL φ μ pc lv st0 := by
  subst hs
  exact fun H locs ls hl hW hS => gf_backi hl hS (gf_runV C hl.1 w q hk M hR hr.1 hr.2.1 hst d hr.2.2 hW hS) kk
theorem gf_callVl2 {ci N : Nat} {T : u_T} {k : Int} {Po : Int → gf_M → Prop} {st0 : List Value} (C : gf_C X E cc nL own rm) (w : gf_kV own idx y cd mL (some .long) As.length) (q : gf_cl ci y.cls T N) (hk : gf_is φ.2.2.1 k 0 ci N) (M : gf_Ml (gf_xl X) E y cd mL rm' φ.2.2.1 φ.2.2.2 μ (.ref (gf_ad E k) :: As) Po) (hR : gf_rok rm rm' mL = true) (hr : rm'.cells = 0 ∧ rm'.slots = 0 ∧ φ.1 ≤ rm.cells ∧ φ.2.1 ≤ rm.slots) (hst : (st.map fun v => v.category).sum ≤ 8) (hs : st0 = As.reverse ++ .ref (gf_ad E k) :: st) (d : decode cc pc = .ok (.invokevirtual idx, 3)) (kk : ∀ (r : Int) (μ' : gf_M), gf_RL r → Po r μ' → gf_G X E Q nL φ μ' (pc + 3) lv (.long (gf_l r) :: st)) : gf_G X E Q nL φ μ pc lv st0 := by
  subst hs
  exact fun H locs ls hl hW hS => gf_backl hl hS (gf_runV C hl.1 w q hk M hR hr.1 hr.2.1 hst d hr.2.2 hW hS) kk
end GF9
