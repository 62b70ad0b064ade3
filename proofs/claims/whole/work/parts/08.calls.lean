/-! contracts, returns, calls -/
def gf_Qi (E : gf_E) (n : Nat) (ρ : gf_M) (Po : Int → gf_M → Prop) : Array Value → State → Outcome → State → Prop := va_Qi (fun (r : Int32) (μ' : gf_M) => ∃ x : Int, r = gf_i x ∧ gf_R x ∧ Po x μ') (fun μ' t => gf_W E n ρ μ' t.heap) (gf_A E)
def gf_Ql (E : gf_E) (n : Nat) (ρ : gf_M) (Po : Int → gf_M → Prop) : Array Value → State → Outcome → State → Prop := va_Ql (fun (r : Int64) (μ' : gf_M) => ∃ x : Int, r = gf_l x ∧ gf_RL x ∧ Po x μ') (fun μ' t => gf_W E n ρ μ' t.heap) (gf_A E)
def gf_Qv (E : gf_E) (n : Nat) (ρ : gf_M) (Po : gf_M → Prop) : Array Value → State → Outcome → State → Prop := va_Qv (fun μ' : gf_M => Po μ') (fun μ' t => gf_W E n ρ μ' t.heap) (gf_A E)
def gf_Pc (E : gf_E) (n : Nat) (ρ μ : gf_M) (av : List Value) : Array Value → State → Prop := va_Pc av (fun U => gf_U E n ρ μ U)
/-- contracts: from the world μ with the arguments av the method returns, an int (or boolean), a long, nothing -/
def gf_Mi (l : Launch) (E : gf_E) (y : MethodName) (cd : ByteArray) (mL : Nat) (rt : FieldType) (rm : Room) (n : Nat) (ρ μ : gf_M) (av : List Value) (Po : Int → gf_M → Prop) : Prop := Met l y (.code y cd mL (some rt) :: gf_tbl) rm (gf_Pc E n ρ μ av) (gf_Qi E n ρ Po) 0 0 (gf_A E)
def gf_Ml (l : Launch) (E : gf_E) (y : MethodName) (cd : ByteArray) (mL : Nat) (rm : Room) (n : Nat) (ρ μ : gf_M) (av : List Value) (Po : Int → gf_M → Prop) : Prop := Met l y (.code y cd mL (some .long) :: gf_tbl) rm (gf_Pc E n ρ μ av) (gf_Ql E n ρ Po) 0 0 (gf_A E)
def gf_Mv (l : Launch) (E : gf_E) (y : MethodName) (cd : ByteArray) (mL : Nat) (rm : Room) (n : Nat) (ρ : gf_M) (c s n' : Nat) (ρ' : gf_M) (μ : gf_M) (av : List Value) (Po : gf_M → Prop) : Prop := Met l y (.code y cd mL none :: gf_tbl) rm (gf_Pc E n ρ μ av) (gf_Qv E n' ρ' Po) c s (gf_A E)
/-- what the run comes to: the method's end -/
def gf_Ri (X : gf_X) (E : gf_E) (Q : State → Prop) (φ : gf_F) (rt : FieldType) (Po : Int → gf_M → Prop) : Prop := X.2.2.2.2.2.2.2.2.1.sig.returnType = some rt ∧ X.2.2.2.2.2.2.2.2.1.locks = false ∧ Q = MQ X.2.2.2.2.2.2.2.1 (gf_Qi E φ.2.2.1 φ.2.2.2 Po) X.2.2.2.2.2.2.1 X.2.2.2.2.1 φ.1 φ.2.1 (gf_A E)
def gf_Rl (X : gf_X) (E : gf_E) (Q : State → Prop) (φ : gf_F) (Po : Int → gf_M → Prop) : Prop := X.2.2.2.2.2.2.2.2.1.sig.returnType = some .long ∧ X.2.2.2.2.2.2.2.2.1.locks = false ∧ Q = MQ X.2.2.2.2.2.2.2.1 (gf_Ql E φ.2.2.1 φ.2.2.2 Po) X.2.2.2.2.2.2.1 X.2.2.2.2.1 φ.1 φ.2.1 (gf_A E)
def gf_Rv (X : gf_X) (E : gf_E) (Q : State → Prop) (φ : gf_F) (Po : gf_M → Prop) : Prop := X.2.2.2.2.2.2.2.2.1.sig.returnType = none ∧ X.2.2.2.2.2.2.2.2.1.locks = false ∧ Q = MQ X.2.2.2.2.2.2.2.1 (gf_Qv E φ.2.2.1 φ.2.2.2 Po) X.2.2.2.2.2.2.1 X.2.2.2.2.1 φ.1 φ.2.1 (gf_A E)
theorem gf_S.moved {E : gf_E} {u U : State} (hW : u.WarmedH U.vm) {H0 H : Heap} (h : gf_S E u H0) (hk : ∀ a : Nat, a < H0.size → ¬ gf_A E a → H[a]? = H0[a]?) : gf_S E U H := by
  obtain ⟨a1, a2, a3, a4, a5, a6, a7, a8, a9, a10, a11, a12⟩ := h
  exact ⟨(a1.moved hW.alike).kept hk, (a2.moved hW.alike).kept hk, (a3.moved hW.alike).kept hk, (a4.moved hW.alike).kept hk, a5.warmF hW, a6.warmF hW, a7.warmM hW, a8.warmM hW, a9.warmM hW, a10.warmM hW, a11.warmM hW, a12.warmM hW⟩
theorem gf_S.calling {E : gf_E} {U V : State} (hv : U.vm = V.vm) (hh : U.heap = V.heap) (h : gf_S E U U.heap) : gf_S E V V.heap := by
  have hal : U.vm.Alike V.vm := by rw [hv]; exact Vm.Alike.refl _
  obtain ⟨a1, a2, a3, a4, a5, a6, a7, a8, a9, a10, a11, a12⟩ := h
  rw [← hh]
  exact ⟨a1.moved hal, a2.moved hal, a3.moved hal, a4.moved hal, a5.same rfl hv, a6.same rfl hv, a7.same rfl hv, a8.same rfl hv, a9.same rfl hv, a10.same rfl hv, a11.same rfl hv, a12.same rfl hv⟩
theorem gf_blind {E : gf_E} {n : Nat} {ρ μ : gf_M} {av : List Value} : FrameBlind (gf_Pc E n ρ μ av) := by
  intro a U g mk h
  exact ⟨h.1, h.2.1, va_K.moved (u := U) (U := U.calling g mk a) (Vm.Alike.refl U.vm) h.2.2.1, gf_S.calling (U := U) (V := U.calling g mk a) rfl rfl h.2.2.2⟩
section GF4
variable {X : gf_X} {E : gf_E} {Q : State → Prop} {nL : Nat} {φ : gf_F} {μ : gf_M} {pc : Nat} {lv : List (Nat × Value)} {st : List Value} {cc : ByteArray} {own : String} {rm : Room}
theorem gf_iret {x : Int} {Po : Int → gf_M → Prop} (C : gf_C X E cc nL own rm) (hQ : gf_Ri X E Q φ .int Po) (d : decode cc pc = .ok (.ireturn, 1)) (hx : gf_R x) (hp : Po x μ) : gf_G X E Q nL φ μ pc lv [.int (gf_i x)] := by
  intro H locs ls hl hW hS
  rw [hQ.2.2]
  exact W.iret C.1 C.2.1 hQ.1 (fun t ht hw => ⟨⟨gf_i x, μ, rfl, ⟨x, rfl, hx, hp⟩, by show gf_W _ _ _ _ t.heap; rw [ht]; exact hW⟩, hS.F ht⟩) hS.2.2 d hQ.2.1
theorem gf_zret {x : Int} {Po : Int → gf_M → Prop} (C : gf_C X E cc nL own rm) (hQ : gf_Ri X E Q φ .boolean Po) (d : decode cc pc = .ok (.ireturn, 1)) (hx : x = 0 ∨ x = 1) (hp : Po x μ) : gf_G X E Q nL φ μ pc lv [.int (gf_i x)] := by
  intro H locs ls hl hW hS
  rw [hQ.2.2]
  exact W.zret C.1 C.2.1 hQ.1 (by rcases hx with rfl | rfl <;> decide +kernel) (fun t ht hw => ⟨⟨gf_i x, μ, rfl, ⟨x, rfl, by omega, hp⟩, by show gf_W _ _ _ _ t.heap; rw [ht]; exact hW⟩, hS.F ht⟩) hS.2.2 d hQ.2.1
theorem gf_lret {x : Int} {Po : Int → gf_M → Prop} (C : gf_C X E cc nL own rm) (hQ : gf_Rl X E Q φ Po) (d : decode cc pc = .ok (.lreturn, 1)) (hx : gf_RL x) (hp : Po x μ) : gf_G X E Q nL φ μ pc lv [.long (gf_l x)] := by
  intro H locs ls hl hW hS
  rw [hQ.2.2]
  exact W.lret C.1 C.2.1 hQ.1 (fun t ht hw => ⟨⟨gf_l x, μ, rfl, ⟨x, rfl, hx, hp⟩, by show gf_W _ _ _ _ t.heap; rw [ht]; exact hW⟩, hS.F ht⟩) hS.2.2 d hQ.2.1
theorem gf_vret {Po : gf_M → Prop} (C : gf_C X E cc nL own rm) (hQ : gf_Rv X E Q φ Po) (d : decode cc pc = .ok (.return_, 1)) (hp : Po μ) : gf_G X E Q nL φ μ pc lv [] := by
  intro H locs ls hl hW hS
  rw [hQ.2.2]
  exact W.vret C.1 C.2.1 hQ.1 (fun t ht hw => ⟨⟨μ, rfl, hp, by show gf_W _ _ _ _ t.heap; rw [ht]; exact hW⟩, hS.F ht⟩) hS.2.2 d hQ.2.1
end GF4
/-- a method's body gives its contract -/
theorem gf_body {l : Launch} {E : gf_E} {y : MethodName} {cd : ByteArray} {mL : Nat} {ret : Option FieldType} {rm : Room} {n : Nat} {ρ μ : gf_M} {av : List Value} {Qc : Array Value → State → Outcome → State → Prop} {c s : Nat} (hy : plainName y.cls = true) (hav : (lg_sl av).length ≤ mL) (hn : n ≤ 81)
    (kk : ∀ (X : gf_X), gf_xl X = l → gf_C X E cd mL y.cls rm → X.2.2.2.2.2.2.2.2.1.sig.returnType = ret → X.2.2.2.2.2.2.2.2.1.locks = false → X.2.2.2.2.2.2.2.2.1.name = y.name → gf_G X E (MQ X.2.2.2.2.2.2.2.1 Qc X.2.2.2.2.2.2.1 X.2.2.2.2.1 c s (gf_A E)) mL (0, 0, n, ρ) μ 0 (lv_args 0 av) []) :
    Met l y (.code y cd mL ret :: gf_tbl) rm (gf_Pc E n ρ μ av) Qc c s (gf_A E) := by
  refine Met.ofW (cc := cd) (maxL := mL) (ret := ret) hy rfl ?_
  intro p e s0 m args below meth c0 s₁ B hml hv
  obtain ⟨hav2, hW, hK, hS⟩ := hv
  subst hav2
  have hts := atoms_spec (ws := .code y cd mL ret :: gf_tbl) B.pre
  have hl := lv_entry av (n := mL) hav
  have hbase : E.1 ≤ s0.heap.size := by
    have h0 := hW.2.1
    by_cases h : n < 81
    · have := hW.1 h; omega
    · have h80 := h0 80 _ (by have := gf_ws_get (E := E) (n := n) (ρ := ρ) (μ := μ) (k := 80) (by decide) (by omega); exact this)
      have := h80.lt
      have h2 : gf_ad E 80 < s0.heap.size := this
      unfold gf_ad at h2
      omega
  have hC : gf_C (p, l, e, (headSpec (.code y cd mL ret :: gf_tbl) rm).room, s0, m, av.toArray, below, meth, c0) E cd mL y.cls rm :=
    ⟨B.exec, B.bytes, hml, findClass_of_methodNamed B.named, fun w hw => hts w (List.mem_cons_of_mem _ hw), hK, hS, rfl, hbase⟩
  have := kk (p, l, e, (headSpec (.code y cd mL ret :: gf_tbl) rm).room, s0, m, av.toArray, below, meth, c0) rfl hC B.returns B.notSynchronized (name_of_methodNamed B.named B.method).1 s0.heap [] _ hl hW va_S.rf
  rw [lg_entry_eq]
  exact this
theorem gf_mi {l : Launch} {E : gf_E} {y : MethodName} {cd : ByteArray} {mL : Nat} {rt : FieldType} {rm : Room} {n : Nat} {ρ μ : gf_M} {av : List Value} {Po : Int → gf_M → Prop} (hy : plainName y.cls = true) (hav : (lg_sl av).length ≤ mL) (hn : n ≤ 81)
    (kk : ∀ (X : gf_X) (Q : State → Prop), gf_xl X = l → gf_C X E cd mL y.cls rm → gf_Ri X E Q (0, 0, n, ρ) rt Po → gf_G X E Q mL (0, 0, n, ρ) μ 0 (lv_args 0 av) []) : gf_Mi l E y cd mL rt rm n ρ μ av Po :=
  gf_body hy hav hn (fun X hl hC hr hlk _ => kk X _ hl hC ⟨hr, hlk, rfl⟩)
theorem gf_ml {l : Launch} {E : gf_E} {y : MethodName} {cd : ByteArray} {mL : Nat} {rm : Room} {n : Nat} {ρ μ : gf_M} {av : List Value} {Po : Int → gf_M → Prop} (hy : plainName y.cls = true) (hav : (lg_sl av).length ≤ mL) (hn : n ≤ 81)
    (kk : ∀ (X : gf_X) (Q : State → Prop), gf_xl X = l → gf_C X E cd mL y.cls rm → gf_Rl X E Q (0, 0, n, ρ) Po → gf_G X E Q mL (0, 0, n, ρ) μ 0 (lv_args 0 av) []) : gf_Ml l E y cd mL rm n ρ μ av Po :=
  gf_body hy hav hn (fun X hl hC hr hlk _ => kk X _ hl hC ⟨hr, hlk, rfl⟩)
theorem gf_mv {l : Launch} {E : gf_E} {y : MethodName} {cd : ByteArray} {mL : Nat} {rm : Room} {n c s n' : Nat} {ρ ρ' μ : gf_M} {av : List Value} {Po : gf_M → Prop} (hy : plainName y.cls = true) (hav : (lg_sl av).length ≤ mL) (hn : n ≤ 81)
    (kk : ∀ (X : gf_X) (Q : State → Prop), gf_xl X = l → gf_C X E cd mL y.cls rm → X.2.2.2.2.2.2.2.2.1.name = y.name → gf_Rv X E Q (c, s, n', ρ') Po → gf_G X E Q mL (0, 0, n, ρ) μ 0 (lv_args 0 av) []) : gf_Mv l E y cd mL rm n ρ c s n' ρ' μ av Po :=
  gf_body hy hav hn (fun X hl hC hr hlk hnm => kk X _ hl hC hnm ⟨hr, hlk, rfl⟩)
/-- words and shape of a call: a static method, one of an object, one of a nest mate -/
def gf_kS (own : String) (idx : Nat) (y : MethodName) (cd : ByteArray) (mL : Nat) (rt : Option FieldType) (na : Nat) : Prop := Cond.code y cd mL rt ∈ gf_tbl ∧ Cond.methodLink own idx y ∈ gf_tbl ∧ Cond.static y ∈ gf_tbl ∧ Cond.initialized y.cls ∈ gf_tbl ∧ (y.cls ≠ "java/lang/invoke/MethodHandle" ∧ y.cls ≠ "java/lang/invoke/VarHandle" ∧ (parseMethodDescriptor y.desc).map (fun d => d.parameters.length) = some na)
def gf_kV (own : String) (idx : Nat) (y : MethodName) (cd : ByteArray) (mL : Nat) (rt : Option FieldType) (na : Nat) : Prop := Cond.code y cd mL rt ∈ gf_tbl ∧ Cond.methodLink own idx y ∈ gf_tbl ∧ Cond.instanceMethod y ∈ gf_tbl ∧ Cond.selects y.cls y y ∈ gf_tbl ∧ Cond.initialized y.cls ∈ gf_tbl ∧ (y.cls ≠ "java/lang/invoke/MethodHandle" ∧ y.cls ≠ "java/lang/invoke/VarHandle" ∧ (parseMethodDescriptor y.desc).map (fun d => d.parameters.length) = some na)
def gf_kI (own : String) (idx : Nat) (y : MethodName) (cd : ByteArray) (mL : Nat) (na : Nat) : Prop := Cond.code y cd mL none ∈ gf_tbl ∧ Cond.methodLink own idx y ∈ gf_tbl ∧ Cond.instanceMethod y ∈ gf_tbl ∧ Cond.initialized y.cls ∈ gf_tbl ∧ y.name = "<init>" ∧ (y.cls ≠ "java/lang/invoke/MethodHandle" ∧ y.cls ≠ "java/lang/invoke/VarHandle" ∧ (parseMethodDescriptor y.desc).map (fun d => d.parameters.length) = some na)
def gf_kN (y : MethodName) (cd : ByteArray) (mL : Nat) (rt : Option FieldType) (na : Nat) : Prop := Cond.code y cd mL rt ∈ gf_tbl ∧ Cond.static y ∈ gf_tbl ∧ Cond.initialized y.cls ∈ gf_tbl ∧ (y.cls ≠ "java/lang/invoke/MethodHandle" ∧ y.cls ≠ "java/lang/invoke/VarHandle" ∧ (parseMethodDescriptor y.desc).map (fun d => d.parameters.length) = some na)
/-- the callee's room in the caller's -/
def gf_rok (rm rm' : Room) (mL : Nat) : Bool := decide (rm'.frames + 1 ≤ rm.frames) && decide (8 + (mL + 11) + rm'.locals ≤ rm.locals)
section GF5
variable {X : gf_X} {E : gf_E} {Q : State → Prop} {nL : Nat} {φ : gf_F} {μ : gf_M} {pc : Nat} {lv : List (Nat × Value)} {st As : List Value} {cc : ByteArray} {own : String} {rm : Room}
variable {y : MethodName} {cd : ByteArray} {mL idx : Nat} {rm' : Room}
theorem gf_pre {H : Heap} {locs : List Loc} {n : Nat} {ρ : gf_M} {av : List Value} (C : gf_C X E cc nL own rm) (hW : gf_W E n ρ μ H) (hS : va_S (gf_A E) (gf_xs X).heap H locs) : ∀ U : State, U.heap = H → X.2.2.2.2.1.WarmedH U.vm → gf_Pc E n ρ μ av av.toArray U := by
  intro U hU hw
  refine ⟨rfl, by rw [hU]; exact hW, va_K.moved hw.alike (gf_K C), ?_⟩
  rw [hU]
  exact gf_S.moved hw C.2.2.2.2.2.2.1 (fun a h1 h2 => hS.2.1 a h1 h2)
theorem gf_goodX {w0 : Cond} (h0 : w0 ∈ gf_tbl) : GoodIn gf_tbl (w0 :: gf_tbl) := gf_good h0 (fun _ h => h)
theorem gf_runS {Qc : Array Value → State → Outcome → State → Prop} {rt : Option FieldType} {H : Heap} {locs : List Loc} {ls : Array Slot} {mc ms : Nat} (C : gf_C X E cc nL own rm) (hl : ls.size = nL) (w : gf_kS own idx y cd mL rt As.length) (M : Met (gf_xl X) y (.code y cd mL rt :: gf_tbl) rm' (gf_Pc E φ.2.2.1 φ.2.2.2 μ As) Qc mc ms (gf_A E)) (hR : gf_rok rm rm' mL = true) (hrc : rm'.cells = mc) (hrs : rm'.slots = ms) (hst : (st.map fun v => v.category).sum ≤ 8) (d : decode cc pc = .ok (.invokestatic idx, 3)) (hf : φ.1 + mc ≤ rm.cells ∧ φ.2.1 + ms ≤ rm.slots) (hW : gf_W E φ.2.2.1 φ.2.2.2 μ H) (hS : va_S (gf_A E) (gf_xs X).heap H locs) :
    va_Run X.1 X.2.1 X.2.2.1 X.2.2.2.1 X.2.2.2.2.1 X.2.2.2.2.2.1 X.2.2.2.2.2.2.1 X.2.2.2.2.2.2.2.1 X.2.2.2.2.2.2.2.2.1 X.2.2.2.2.2.2.2.2.2 H locs φ.1 φ.2.1 mc ms (F0 (gf_xm X) pc ls (As.reverse ++ st)) st (Qc As.toArray) (gf_A E) := by
  have hts := C.2.2.2.2.1
  simp only [gf_rok, Bool.and_eq_true, decide_eq_true_eq] at hR
  exact va_runS ⟨C.1, C.2.1, C.2.2.1, C.2.2.2.1, hts⟩ M ⟨callB_of As.length hts (gf_goodX w.1) rfl hrc hrs (hts _ w.2.2.2.1) (hts _ w.2.1) w.2.2.2.2 (by rw [C.2.2.2.2.2.2.2.1]; exact hR), hts _ w.2.2.1⟩ ⟨gf_blind, gf_pre C hW hS⟩ rfl rfl hl rfl (lv_room hst) d (by rw [C.2.2.2.2.2.2.2.1]; exact hf)
theorem gf_runN {host : String} {Qc : Array Value → State → Outcome → State → Prop} {rt : Option FieldType} {H : Heap} {locs : List Loc} {ls : Array Slot} (C : gf_C X E cc nL own rm) (hl : ls.size = nL) (w : gf_kN y cd mL rt As.length) (hn : va_Nw (.methodLinkNest own idx y host) (gf_xs X)) (M : Met (gf_xl X) y (.code y cd mL rt :: gf_tbl) rm' (gf_Pc E φ.2.2.1 φ.2.2.2 μ As) Qc 0 0 (gf_A E)) (hR : gf_rok rm rm' mL = true) (hrc : rm'.cells = 0) (hrs : rm'.slots = 0) (hst : (st.map fun v => v.category).sum ≤ 8) (d : decode cc pc = .ok (.invokestatic idx, 3)) (hf : φ.1 + 0 ≤ rm.cells ∧ φ.2.1 + 0 ≤ rm.slots) (hW : gf_W E φ.2.2.1 φ.2.2.2 μ H) (hS : va_S (gf_A E) (gf_xs X).heap H locs) :
    va_Run X.1 X.2.1 X.2.2.1 X.2.2.2.1 X.2.2.2.2.1 X.2.2.2.2.2.1 X.2.2.2.2.2.2.1 X.2.2.2.2.2.2.2.1 X.2.2.2.2.2.2.2.2.1 X.2.2.2.2.2.2.2.2.2 H locs φ.1 φ.2.1 0 0 (F0 (gf_xm X) pc ls (As.reverse ++ st)) st (Qc As.toArray) (gf_A E) := by
  have hts := C.2.2.2.2.1
  simp only [gf_rok, Bool.and_eq_true, decide_eq_true_eq] at hR
  exact va_runSN ⟨C.1, C.2.1, C.2.2.1, C.2.2.2.1, hts⟩ M ⟨va_cnB As.length hts (gf_goodX w.1) rfl hrc hrs hn (hts _ w.2.2.1) w.2.2.2 (by rw [C.2.2.2.2.2.2.2.1]; exact hR), hts _ w.2.1, trivial⟩ ⟨gf_blind, gf_pre C hW hS⟩ rfl rfl hl rfl (lv_room hst) d (by rw [C.2.2.2.2.2.2.2.1]; exact hf)
theorem gf_runV {Qc : Array Value → State → Outcome → State → Prop} {rt : Option FieldType} {H : Heap} {locs : List Loc} {ls : Array Slot} {k : Int} {ci N : Nat} {T : u_T} (C : gf_C X E cc nL own rm) (hl : ls.size = nL) (w : gf_kV own idx y cd mL rt As.length) (q : gf_cl ci y.cls T N) (hk : gf_is φ.2.2.1 k 0 ci N) (M : Met (gf_xl X) y (.code y cd mL rt :: gf_tbl) rm' (gf_Pc E φ.2.2.1 φ.2.2.2 μ (.ref (gf_ad E k) :: As)) Qc 0 0 (gf_A E)) (hR : gf_rok rm rm' mL = true) (hrc : rm'.cells = 0) (hrs : rm'.slots = 0) (hst : (st.map fun v => v.category).sum ≤ 8) (d : decode cc pc = .ok (.invokevirtual idx, 3)) (hf : φ.1 + 0 ≤ rm.cells ∧ φ.2.1 + 0 ≤ rm.slots) (hW : gf_W E φ.2.2.1 φ.2.2.2 μ H) (hS : va_S (gf_A E) (gf_xs X).heap H locs) :
    va_Run X.1 X.2.1 X.2.2.1 X.2.2.2.1 X.2.2.2.2.1 X.2.2.2.2.2.1 X.2.2.2.2.2.2.1 X.2.2.2.2.2.2.2.1 X.2.2.2.2.2.2.2.2.1 X.2.2.2.2.2.2.2.2.2 H locs φ.1 φ.2.1 0 0 (F0 (gf_xm X) pc ls (As.reverse ++ .ref (gf_ad E k) :: st)) st (Qc (Value.ref (gf_ad E k) :: As).toArray) (gf_A E) := by
  have hts := C.2.2.2.2.1
  simp only [gf_rok, Bool.and_eq_true, decide_eq_true_eq] at hR
  have he := gf_ws_get (E := E) (ρ := φ.2.2.2) (μ := μ) hk.1 hk.2.1
  rw [hk.2.2] at he
  exact va_runV ⟨C.1, C.2.1, C.2.2.1, C.2.2.2.1, hts⟩ M ⟨callB_of As.length hts (gf_goodX w.1) rfl hrc hrs (hts _ w.2.2.2.2.1) (hts _ w.2.1) w.2.2.2.2.2 (by rw [C.2.2.2.2.2.2.2.1]; exact hR), hts _ w.2.2.1, hts _ w.2.2.2.1⟩ ⟨gf_blind, va_recv (gf_K C) hW.2.1 q.1 he, gf_pre C hW hS⟩ rfl rfl hl rfl (lv_room hst) d (by rw [C.2.2.2.2.2.2.2.1]; exact hf)
/-- behind a call: an int, a long, nothing -/
theorem gf_backi {H : Heap} {locs : List Loc} {ls : Array Slot} {st0 : List Value} {a : Array Value} {Po : Int → gf_M → Prop} (hl : lv_has ls nL lv) (hS : va_S (gf_A E) (gf_xs X).heap H locs)
    (hr : va_Run X.1 X.2.1 X.2.2.1 X.2.2.2.1 X.2.2.2.2.1 X.2.2.2.2.2.1 X.2.2.2.2.2.2.1 X.2.2.2.2.2.2.2.1 X.2.2.2.2.2.2.2.2.1 X.2.2.2.2.2.2.2.2.2 H locs φ.1 φ.2.1 0 0 (F0 (gf_xm X) pc ls st0) st (gf_Qi E φ.2.2.1 φ.2.2.2 Po a) (gf_A E))
    (kk : ∀ (r : Int) (μ' : gf_M), gf_R r → Po r μ' → gf_G X E Q nL φ μ' (pc + 3) lv (.int (gf_i r) :: st)) : gf_Wx X H locs φ.1 φ.2.1 Q (F0 (gf_xm X) pc ls st0) := by
  refine va_calli hr hS (fun _ _ h => h) (fun _ h => h) (fun r μ' t H1 locs1 ht _ hp hB _ _ hS1 => ?_)
  obtain ⟨x, rfl, hx, hp⟩ := hp
  exact kk x μ' hx hp H1 locs1 ls hl (by rw [← ht]; exact hB) hS1
theorem gf_backl {H : Heap} {locs : List Loc} {ls : Array Slot} {st0 : List Value} {a : Array Value} {Po : Int → gf_M → Prop} (hl : lv_has ls nL lv) (hS : va_S (gf_A E) (gf_xs X).heap H locs)
    (hr : va_Run X.1 X.2.1 X.2.2.1 X.2.2.2.1 X.2.2.2.2.1 X.2.2.2.2.2.1 X.2.2.2.2.2.2.1 X.2.2.2.2.2.2.2.1 X.2.2.2.2.2.2.2.2.1 X.2.2.2.2.2.2.2.2.2 H locs φ.1 φ.2.1 0 0 (F0 (gf_xm X) pc ls st0) st (gf_Ql E φ.2.2.1 φ.2.2.2 Po a) (gf_A E))
    (kk : ∀ (r : Int) (μ' : gf_M), gf_RL r → Po r μ' → gf_G X E Q nL φ μ' (pc + 3) lv (.long (gf_l r) :: st)) : gf_Wx X H locs φ.1 φ.2.1 Q (F0 (gf_xm X) pc ls st0) := by
  refine va_calll hr hS (fun _ _ h => h) (fun _ h => h) (fun r μ' t H1 locs1 ht _ hp hB _ _ hS1 => ?_)
  obtain ⟨x, rfl, hx, hp⟩ := hp
  exact kk x μ' hx hp H1 locs1 ls hl (by rw [← ht]; exact hB) hS1
theorem gf_backv {H : Heap} {locs : List Loc} {ls : Array Slot} {st0 : List Value} {a : Array Value} {Po : gf_M → Prop} {mc ms n' : Nat} {ρ' : gf_M} (hl : lv_has ls nL lv) (hS : va_S (gf_A E) (gf_xs X).heap H locs)
    (hr : va_Run X.1 X.2.1 X.2.2.1 X.2.2.2.1 X.2.2.2.2.1 X.2.2.2.2.2.1 X.2.2.2.2.2.2.1 X.2.2.2.2.2.2.2.1 X.2.2.2.2.2.2.2.2.1 X.2.2.2.2.2.2.2.2.2 H locs φ.1 φ.2.1 mc ms (F0 (gf_xm X) pc ls st0) st (gf_Qv E n' ρ' Po a) (gf_A E))
    (kk : ∀ (μ' : gf_M), Po μ' → gf_G X E Q nL (φ.1 + mc, φ.2.1 + ms, n', ρ') μ' (pc + 3) lv st) : gf_Wx X H locs φ.1 φ.2.1 Q (F0 (gf_xm X) pc ls st0) := by
  refine va_callv hr hS (fun _ _ h => h) (fun _ h => h) (fun μ' t H1 locs1 ht _ hp hB _ _ hS1 => ?_)
  exact kk μ' hp H1 locs1 ls hl (by rw [← ht]; exact hB) hS1
theorem gf_callSi {rt : FieldType} {Po : Int → gf_M → Prop} {st0 : List Value} (C : gf_C X E cc nL own rm) (w : gf_kS own idx y cd mL (some rt) As.length) (M : gf_Mi (gf_xl X) E y cd mL rt rm' φ.2.2.1 φ.2.2.2 μ As Po) (hR : gf_rok rm rm' mL = true) (hr : rm'.cells = 0 ∧ rm'.slots = 0 ∧ φ.1 = 0 ∧ φ.2.1 = 0) (hst : (st.map fun v => v.category).sum ≤ 8) (hs : st0 = As.reverse ++ st) (d : decode cc pc = .ok (.invokestatic idx, 3)) (kk : ∀ (r : Int) (μ' : gf_M), gf_R r → Po r μ' → gf_G X E Q nL φ μ' (pc + 3) lv (.int (gf_i r) :: st)) : gf_G X E Q nL φ μ pc lv st0 := by
  subst hs
  exact fun H locs ls hl hW hS => gf_backi hl hS (gf_runS C hl.1 w M hR hr.1 hr.2.1 hst d ⟨by omega, by omega⟩ hW hS) kk
theorem gf_callNi {host : String} {rt : FieldType} {Po : Int → gf_M → Prop} {st0 : List Value} (C : gf_C X E cc nL own rm) (w : gf_kN y cd mL (some rt) As.length) (hn : va_Nw (.methodLinkNest own idx y host) (gf_xs X)) (M : gf_Mi (gf_xl X) E y cd mL rt rm' φ.2.2.1 φ.2.2.2 μ As Po) (hR : gf_rok rm rm' mL = true) (hr : rm'.cells = 0 ∧ rm'.slots = 0 ∧ φ.1 = 0 ∧ φ.2.1 = 0) (hst : (st.map fun v => v.category).sum ≤ 8) (hs : st0 = As.reverse ++ st) (d : decode cc pc = .ok (.invokestatic idx, 3)) (kk : ∀ (r : Int) (μ' : gf_M), gf_R r → Po r μ' → gf_G X E Q nL φ μ' (pc + 3) lv (.int (gf_i r) :: st)) : gf_G X E Q nL φ μ pc lv st0 := by
  subst hs
  exact fun H locs ls hl hW hS => gf_backi hl hS (gf_runN C hl.1 w hn M hR hr.1 hr.2.1 hst d ⟨by omega, by omega⟩ hW hS) kk
theorem gf_callVi {ci N : Nat} {T : u_T} {k : Int} {rt : FieldType} {Po : Int → gf_M → Prop} {st0 : List Value} (C : gf_C X E cc nL own rm) (w : gf_kV own idx y cd mL (some rt) As.length) (q : gf_cl ci y.cls T N) (hk : gf_is φ.2.2.1 k 0 ci N) (M : gf_Mi (gf_xl X) E y cd mL rt rm' φ.2.2.1 φ.2.2.2 μ (.ref (gf_ad E k) :: As) Po) (hR : gf_rok rm rm' mL = true) (hr : rm'.cells = 0 ∧ rm'.slots = 0 ∧ φ.1 = 0 ∧ φ.2.1 = 0) (hst : (st.map fun v => v.category).sum ≤ 8) (hs : st0 = As.reverse ++ .ref (gf_ad E k) :: st) (d : decode cc pc = .ok (.invokevirtual idx, 3)) (kk : ∀ (r : Int) (μ' : gf_M), gf_R r → Po r μ' → gf_G X E Q nL φ μ' (pc + 3) lv (.int (gf_i r) :: st)) : gf_G X E Q nL φ μ pc lv st0 := by
  subst hs
  exact fun H locs ls hl hW hS => gf_backi hl hS (gf_runV C hl.1 w q hk M hR hr.1 hr.2.1 hst d ⟨by omega, by omega⟩ hW hS) kk
theorem gf_callSl {Po : Int → gf_M → Prop} {st0 : List Value} (C : gf_C X E cc nL own rm) (w : gf_kS own idx y cd mL (some .long) As.length) (M : gf_Ml (gf_xl X) E y cd mL rm' φ.2.2.1 φ.2.2.2 μ As Po) (hR : gf_rok rm rm' mL = true) (hr : rm'.cells = 0 ∧ rm'.slots = 0 ∧ φ.1 = 0 ∧ φ.2.1 = 0) (hst : (st.map fun v => v.category).sum ≤ 8) (hs : st0 = As.reverse ++ st) (d : decode cc pc = .ok (.invokestatic idx, 3)) (kk : ∀ (r : Int) (μ' : gf_M), gf_RL r → Po r μ' → gf_G X E Q nL φ μ' (pc + 3) lv (.long (gf_l r) :: st)) : gf_G X E Q nL φ μ pc lv st0 := by
  subst hs
  exact fun H locs ls hl hW hS => gf_backl hl hS (gf_runS C hl.1 w M hR hr.1 hr.2.1 hst d ⟨by omega, by omega⟩ hW hS) kk
theorem gf_callVl {ci N : Nat} {T : u_T} {k : Int} {Po : Int → gf_M → Prop} {st0 : List Value} (C : gf_C X E cc nL own rm) (w : gf_kV own idx y cd mL (some .long) As.length) (q : gf_cl ci y.cls T N) (hk : gf_is φ.2.2.1 k 0 ci N) (M : gf_Ml (gf_xl X) E y cd mL rm' φ.2.2.1 φ.2.2.2 μ (.ref (gf_ad E k) :: As) Po) (hR : gf_rok rm rm' mL = true) (hr : rm'.cells = 0 ∧ rm'.slots = 0 ∧ φ.1 = 0 ∧ φ.2.1 = 0) (hst : (st.map fun v => v.category).sum ≤ 8) (hs : st0 = As.reverse ++ .ref (gf_ad E k) :: st) (d : decode cc pc = .ok (.invokevirtual idx, 3)) (kk : ∀ (r : Int) (μ' : gf_M), gf_RL r → Po r μ' → gf_G X E Q nL φ μ' (pc + 3) lv (.long (gf_l r) :: st)) : gf_G X E Q nL φ μ pc lv st0 := by
  subst hs
  exact fun H locs ls hl hW hS => gf_backl hl hS (gf_runV C hl.1 w q hk M hR hr.1 hr.2.1 hst d ⟨by omega, by omega⟩ hW hS) kk
theorem gf_callSv {Po : gf_M → Prop} {st0 : List Value} (C : gf_C X E cc nL own rm) (w : gf_kS own idx y cd mL none As.length) (M : gf_Mv (gf_xl X) E y cd mL rm' φ.2.2.1 φ.2.2.2 0 0 φ.2.2.1 φ.2.2.2 μ As Po) (hR : gf_rok rm rm' mL = true) (hr : rm'.cells = 0 ∧ rm'.slots = 0 ∧ φ.1 = 0 ∧ φ.2.1 = 0) (hst : (st.map fun v => v.category).sum ≤ 8) (hs : st0 = As.reverse ++ st) (d : decode cc pc = .ok (.invokestatic idx, 3)) (kk : ∀ (μ' : gf_M), Po μ' → gf_G X E Q nL φ μ' (pc + 3) lv st) : gf_G X E Q nL φ μ pc lv st0 := by
  subst hs
  exact fun H locs ls hl hW hS => gf_backv hl hS (gf_runS C hl.1 w M hR hr.1 hr.2.1 hst d ⟨by omega, by omega⟩ hW hS) kk
theorem gf_callNv {host : String} {Po : gf_M → Prop} {st0 : List Value} (C : gf_C X E cc nL own rm) (w : gf_kN y cd mL none As.length) (hn : va_Nw (.methodLinkNest own idx y host) (gf_xs X)) (M : gf_Mv (gf_xl X) E y cd mL rm' φ.2.2.1 φ.2.2.2 0 0 φ.2.2.1 φ.2.2.2 μ As Po) (hR : gf_rok rm rm' mL = true) (hr : rm'.cells = 0 ∧ rm'.slots = 0 ∧ φ.1 = 0 ∧ φ.2.1 = 0) (hst : (st.map fun v => v.category).sum ≤ 8) (hs : st0 = As.reverse ++ st) (d : decode cc pc = .ok (.invokestatic idx, 3)) (kk : ∀ (μ' : gf_M), Po μ' → gf_G X E Q nL φ μ' (pc + 3) lv st) : gf_G X E Q nL φ μ pc lv st0 := by
  subst hs
  exact fun H locs ls hl hW hS => gf_backv hl hS (gf_runN C hl.1 w hn M hR hr.1 hr.2.1 hst d ⟨by omega, by omega⟩ hW hS) kk
theorem gf_callVv {ci N : Nat} {T : u_T} {k : Int} {Po : gf_M → Prop} {st0 : List Value} (C : gf_C X E cc nL own rm) (w : gf_kV own idx y cd mL none As.length) (q : gf_cl ci y.cls T N) (hk : gf_is φ.2.2.1 k 0 ci N) (M : gf_Mv (gf_xl X) E y cd mL rm' φ.2.2.1 φ.2.2.2 0 0 φ.2.2.1 φ.2.2.2 μ (.ref (gf_ad E k) :: As) Po) (hR : gf_rok rm rm' mL = true) (hr : rm'.cells = 0 ∧ rm'.slots = 0 ∧ φ.1 = 0 ∧ φ.2.1 = 0) (hst : (st.map fun v => v.category).sum ≤ 8) (hs : st0 = As.reverse ++ .ref (gf_ad E k) :: st) (d : decode cc pc = .ok (.invokevirtual idx, 3)) (kk : ∀ (μ' : gf_M), Po μ' → gf_G X E Q nL φ μ' (pc + 3) lv st) : gf_G X E Q nL φ μ pc lv st0 := by
  subst hs
  exact fun H locs ls hl hW hS => gf_backv hl hS (gf_runV C hl.1 w q hk M hR hr.1 hr.2.1 hst d ⟨by omega, by omega⟩ hW hS) kk
end GF5
/-! shapes of objects of which there are several -/
abbrev gf_φ : gf_F := (0, 0, 81, gf_ref)
def gf_oGd (k : Int) : Prop := gf_is 81 k 0 0 3
def gf_oRow (k : Int) (N : Nat) : Prop := gf_is 81 k 0 3 2 ∧ gf_ref k 0 = k + 1 ∧ gf_is 81 (k + 1) 1 0 N
def gf_oWr (k : Int) : Prop := gf_is 81 k 0 5 5 ∧ gf_ref k 0 = k + 1 ∧ gf_is 81 (k + 1) 1 0 8 ∧ gf_ref k 3 = k + 2 ∧ gf_is 81 (k + 2) 1 0 40
theorem gf_row_of {r : Int} (h : 0 ≤ r ∧ r < 6) : gf_ref 1 r = 2 + 2 * r ∧ gf_oRow (2 + 2 * r) 40 := by
  have : r = 0 ∨ r = 1 ∨ r = 2 ∨ r = 3 ∨ r = 4 ∨ r = 5 := by omega
  rcases this with rfl | rfl | rfl | rfl | rfl | rfl <;> exact ⟨by decide, by decide, by decide, by decide⟩
theorem gf_text_of {r : Int} (h : 0 ≤ r ∧ r < 4) : gf_ref 14 r = 15 + 2 * r ∧ gf_oRow (15 + 2 * r) 60 := by
  have : r = 0 ∨ r = 1 ∨ r = 2 ∨ r = 3 := by omega
  rcases this with rfl | rfl | rfl | rfl <;> exact ⟨by decide, by decide, by decide, by decide⟩
theorem gf_guard_of {r : Int} (h : 0 ≤ r ∧ r < 7) : gf_ref 23 r = 24 + r ∧ gf_oGd (24 + r) := by
  have : r = 0 ∨ r = 1 ∨ r = 2 ∨ r = 3 ∨ r = 4 ∨ r = 5 ∨ r = 6 := by omega
  rcases this with rfl | rfl | rfl | rfl | rfl | rfl | rfl <;> exact ⟨by decide, by unfold gf_oGd; decide⟩
theorem gf_rguard_of {r : Int} (h : 0 ≤ r ∧ r < 7) : gf_ref 45 r = 46 + r ∧ gf_oGd (46 + r) := by
  have : r = 0 ∨ r = 1 ∨ r = 2 ∨ r = 3 ∨ r = 4 ∨ r = 5 ∨ r = 6 := by omega
  rcases this with rfl | rfl | rfl | rfl | rfl | rfl | rfl <;> exact ⟨by decide, by unfold gf_oGd; decide⟩
theorem gf_kept_of {r : Int} (h : 0 ≤ r ∧ r < 3) : gf_ref 31 r = 32 + 3 * r ∧ gf_oWr (32 + 3 * r) := by
  have : r = 0 ∨ r = 1 ∨ r = 2 := by omega
  rcases this with rfl | rfl | rfl <;> exact ⟨by decide, by decide, by decide, by decide, by decide, by decide⟩
theorem gf_oWr41 : gf_oWr 41 := ⟨by decide, by decide, by decide, by decide, by decide⟩
