theorem dd_Gd_init_0 : decode cc_Gd_init 0 = .ok (.aload_n 0, 1) := by decide +kernel
theorem dd_Gd_init_1 : decode cc_Gd_init 1 = .ok (.invokespecial 3, 3) := by decide +kernel
theorem dd_Gd_init_4 : decode cc_Gd_init 4 = .ok (.return_, 1) := by decide +kernel
theorem dd_Ro_init_0 : decode cc_Ro_init 0 = .ok (.aload_n 0, 1) := by decide +kernel
theorem dd_Ro_init_1 : decode cc_Ro_init 1 = .ok (.invokespecial 1, 3) := by decide +kernel
theorem dd_Ro_init_4 : decode cc_Ro_init 4 = .ok (.aload_n 0, 1) := by decide +kernel
theorem dd_Ro_init_5 : decode cc_Ro_init 5 = .ok (.iload_n 1, 1) := by decide +kernel
theorem dd_Ro_init_6 : decode cc_Ro_init 6 = .ok (.newarray .int, 2) := by decide +kernel
theorem dd_Ro_init_8 : decode cc_Ro_init 8 = .ok (.putfield 7, 3) := by decide +kernel
theorem dd_Ro_init_11 : decode cc_Ro_init 11 = .ok (.aload_n 0, 1) := by decide +kernel
theorem dd_Ro_init_12 : decode cc_Ro_init 12 = .ok (.iconst (-1), 1) := by decide +kernel
theorem dd_Ro_init_13 : decode cc_Ro_init 13 = .ok (.putfield 13, 3) := by decide +kernel
theorem dd_Ro_init_16 : decode cc_Ro_init 16 = .ok (.return_, 1) := by decide +kernel
theorem dd_Wr_init_0 : decode cc_Wr_init 0 = .ok (.aload_n 0, 1) := by decide +kernel
theorem dd_Wr_init_1 : decode cc_Wr_init 1 = .ok (.invokespecial 3, 3) := by decide +kernel
theorem dd_Wr_init_4 : decode cc_Wr_init 4 = .ok (.aload_n 0, 1) := by decide +kernel
theorem dd_Wr_init_5 : decode cc_Wr_init 5 = .ok (.bipush 8, 2) := by decide +kernel
theorem dd_Wr_init_7 : decode cc_Wr_init 7 = .ok (.newarray .int, 2) := by decide +kernel
theorem dd_Wr_init_9 : decode cc_Wr_init 9 = .ok (.putfield 9, 3) := by decide +kernel
theorem dd_Wr_init_12 : decode cc_Wr_init 12 = .ok (.aload_n 0, 1) := by decide +kernel
theorem dd_Wr_init_13 : decode cc_Wr_init 13 = .ok (.bipush 40, 2) := by decide +kernel
theorem dd_Wr_init_15 : decode cc_Wr_init 15 = .ok (.newarray .int, 2) := by decide +kernel
theorem dd_Wr_init_17 : decode cc_Wr_init 17 = .ok (.putfield 15, 3) := by decide +kernel
theorem dd_Wr_init_20 : decode cc_Wr_init 20 = .ok (.return_, 1) := by decide +kernel
theorem dd_Re_init_0 : decode cc_Re_init 0 = .ok (.aload_n 0, 1) := by decide +kernel
theorem dd_Re_init_1 : decode cc_Re_init 1 = .ok (.invokespecial 3, 3) := by decide +kernel
theorem dd_Re_init_4 : decode cc_Re_init 4 = .ok (.aload_n 0, 1) := by decide +kernel
theorem dd_Re_init_5 : decode cc_Re_init 5 = .ok (.bipush 7, 2) := by decide +kernel
theorem dd_Re_init_7 : decode cc_Re_init 7 = .ok (.anewarray 9, 3) := by decide +kernel
theorem dd_Re_init_10 : decode cc_Re_init 10 = .ok (.putfield 11, 3) := by decide +kernel
theorem dd_Re_init_13 : decode cc_Re_init 13 = .ok (.iconst 0, 1) := by decide +kernel
theorem dd_Re_init_14 : decode cc_Re_init 14 = .ok (.istore_n 1, 1) := by decide +kernel
theorem dd_Re_init_15 : decode cc_Re_init 15 = .ok (.iload_n 1, 1) := by decide +kernel
theorem dd_Re_init_16 : decode cc_Re_init 16 = .ok (.bipush 7, 2) := by decide +kernel
theorem dd_Re_init_18 : decode cc_Re_init 18 = .ok (.if_icmp .ge 22, 3) := by decide +kernel
theorem dd_Re_init_21 : decode cc_Re_init 21 = .ok (.aload_n 0, 1) := by decide +kernel
theorem dd_Re_init_22 : decode cc_Re_init 22 = .ok (.getfield 11, 3) := by decide +kernel
theorem dd_Re_init_25 : decode cc_Re_init 25 = .ok (.iload_n 1, 1) := by decide +kernel
theorem dd_Re_init_26 : decode cc_Re_init 26 = .ok (.new 9, 3) := by decide +kernel
theorem dd_Re_init_29 : decode cc_Re_init 29 = .ok (.dup, 1) := by decide +kernel
theorem dd_Re_init_30 : decode cc_Re_init 30 = .ok (.invokespecial 17, 3) := by decide +kernel
theorem dd_Re_init_33 : decode cc_Re_init 33 = .ok (.aastore, 1) := by decide +kernel
theorem dd_Re_init_34 : decode cc_Re_init 34 = .ok (.iinc 1 1, 3) := by decide +kernel
theorem dd_Re_init_37 : decode cc_Re_init 37 = .ok (.goto (-22), 3) := by decide +kernel
theorem dd_Re_init_40 : decode cc_Re_init 40 = .ok (.return_, 1) := by decide +kernel
theorem dd_Wa_init_0 : decode cc_Wa_init 0 = .ok (.aload_n 0, 1) := by decide +kernel
theorem dd_Wa_init_1 : decode cc_Wa_init 1 = .ok (.invokespecial 3, 3) := by decide +kernel
theorem dd_Wa_init_4 : decode cc_Wa_init 4 = .ok (.aload_n 0, 1) := by decide +kernel
theorem dd_Wa_init_5 : decode cc_Wa_init 5 = .ok (.bipush 88, 2) := by decide +kernel
theorem dd_Wa_init_7 : decode cc_Wa_init 7 = .ok (.newarray .int, 2) := by decide +kernel
theorem dd_Wa_init_9 : decode cc_Wa_init 9 = .ok (.putfield 11, 3) := by decide +kernel
theorem dd_Wa_init_12 : decode cc_Wa_init 12 = .ok (.aload_n 0, 1) := by decide +kernel
theorem dd_Wa_init_13 : decode cc_Wa_init 13 = .ok (.bipush 88, 2) := by decide +kernel
theorem dd_Wa_init_15 : decode cc_Wa_init 15 = .ok (.newarray .int, 2) := by decide +kernel
theorem dd_Wa_init_17 : decode cc_Wa_init 17 = .ok (.putfield 15, 3) := by decide +kernel
theorem dd_Wa_init_20 : decode cc_Wa_init 20 = .ok (.aload_n 0, 1) := by decide +kernel
theorem dd_Wa_init_21 : decode cc_Wa_init 21 = .ok (.iconst 3, 1) := by decide +kernel
theorem dd_Wa_init_22 : decode cc_Wa_init 22 = .ok (.newarray .int, 2) := by decide +kernel
theorem dd_Wa_init_24 : decode cc_Wa_init 24 = .ok (.putfield 18, 3) := by decide +kernel
theorem dd_Wa_init_27 : decode cc_Wa_init 27 = .ok (.aload_n 0, 1) := by decide +kernel
theorem dd_Wa_init_28 : decode cc_Wa_init 28 = .ok (.bipush 8, 2) := by decide +kernel
theorem dd_Wa_init_30 : decode cc_Wa_init 30 = .ok (.newarray .int, 2) := by decide +kernel
theorem dd_Wa_init_32 : decode cc_Wa_init 32 = .ok (.putfield 21, 3) := by decide +kernel
theorem dd_Wa_init_35 : decode cc_Wa_init 35 = .ok (.aload_n 0, 1) := by decide +kernel
theorem dd_Wa_init_36 : decode cc_Wa_init 36 = .ok (.bipush 7, 2) := by decide +kernel
theorem dd_Wa_init_38 : decode cc_Wa_init 38 = .ok (.newarray .int, 2) := by decide +kernel
theorem dd_Wa_init_40 : decode cc_Wa_init 40 = .ok (.putfield 24, 3) := by decide +kernel
theorem dd_Wa_init_43 : decode cc_Wa_init 43 = .ok (.return_, 1) := by decide +kernel
theorem dd_Ou_init_0 : decode cc_Ou_init 0 = .ok (.aload_n 0, 1) := by decide +kernel
theorem dd_Ou_init_1 : decode cc_Ou_init 1 = .ok (.invokespecial 3, 3) := by decide +kernel
theorem dd_Ou_init_4 : decode cc_Ou_init 4 = .ok (.aload_n 0, 1) := by decide +kernel
theorem dd_Ou_init_5 : decode cc_Ou_init 5 = .ok (.bipush 99, 2) := by decide +kernel
theorem dd_Ou_init_7 : decode cc_Ou_init 7 = .ok (.newarray .long, 2) := by decide +kernel
theorem dd_Ou_init_9 : decode cc_Ou_init 9 = .ok (.putfield 11, 3) := by decide +kernel
theorem dd_Ou_init_12 : decode cc_Ou_init 12 = .ok (.return_, 1) := by decide +kernel
/-! contracts of constructors: what they need of the array classes stands ahead of them, too -/
abbrev gf_rmc (f c s L : Nat) : Room := { frames := f, cells := c, slots := s, locals := L }
def gf_ups (f : gf_M) : List (Int × Int × Int) → gf_M
  | [] => f
  | e :: L => gf_up (gf_ups f L) e.1 e.2.1 e.2.2
theorem gf_ups_new {f : gf_M} {n j : Int} : ∀ {L : List (Int × Int × Int)}, L.all (fun e => decide (e.1 ≠ n)) = true → gf_ups f L n j = f n j
  | [], _ => rfl
  | e :: L, h => by
    rw [List.all_cons, Bool.and_eq_true] at h
    show gf_up (gf_ups f L) e.1 e.2.1 e.2.2 n j = f n j
    rw [gf_up_k (fun z => of_decide_eq_true h.1 z.symm)]
    exact gf_ups_new h.2
theorem gf_ups_ups (f : gf_M) (L : List (Int × Int × Int)) : ∀ M : List (Int × Int × Int), gf_ups (gf_ups f L) M = gf_ups f (M ++ L)
  | [] => rfl
  | e :: M => by
    show gf_up (gf_ups (gf_ups f L) M) e.1 e.2.1 e.2.2 = gf_up (gf_ups f (M ++ L)) e.1 e.2.1 e.2.2
    rw [gf_ups_ups f L M]
theorem gf_v_ups {f : gf_M} {n m v : Int} (h : ∀ k j : Int, n ≤ k → f k j = v) {L : List (Int × Int × Int)} (hL : (L.all (fun e => decide (e.1 < m)) && decide (n ≤ m)) = true) : ∀ k j : Int, m ≤ k → gf_ups f L k j = v := by
  intro k j hk
  rw [Bool.and_eq_true] at hL
  rw [gf_ups_new, h k j (by have := of_decide_eq_true hL.2; omega)]
  rw [List.all_eq_true] at hL ⊢
  intro e he
  have := of_decide_eq_true (hL.1 e he)
  exact decide_eq_true (by omega)
theorem gf_z_ups {f : gf_M} {n m : Int} (h : ∀ k j : Int, n ≤ k → f k j = 0) {L : List (Int × Int × Int)} (hL : (L.all (fun e => decide (e.1 < m)) && decide (n ≤ m)) = true) : ∀ k j : Int, m ≤ k → gf_ups f L k j = 0 := gf_v_ups h hL
theorem gf_n_ups {f : gf_M} {n m : Int} (h : ∀ k j : Int, n ≤ k → f k j = -1) {L : List (Int × Int × Int)} (hL : (L.all (fun e => decide (e.1 < m)) && decide (n ≤ m)) = true) : ∀ k j : Int, m ≤ k → gf_ups f L k j = -1 := gf_v_ups h hL
def gf_PcO (E : gf_E) (n : Nat) (ρ μ : gf_M) (av : List Value) : Array Value → State → Prop := va_Pc av (fun U => gf_U E n ρ μ U ∧ gf_O U)
def gf_MI (l : Launch) (E : gf_E) (y : MethodName) (cd : ByteArray) (mL : Nat) (rm : Room) (n : Nat) (ρ : gf_M) (c s n' : Nat) (ρ' : gf_M) (μ : gf_M) (av : List Value) (Po : gf_M → Prop) : Prop := Met l y (.code y cd mL none :: gf_tbl) rm (gf_PcO E n ρ μ av) (gf_Qv E n' ρ' Po) c s (gf_A E)
theorem gf_blindO {E : gf_E} {n : Nat} {ρ μ : gf_M} {av : List Value} : FrameBlind (gf_PcO E n ρ μ av) := by
  intro a U g mk h
  exact ⟨h.1, ⟨h.2.1.1, va_K.moved (u := U) (U := U.calling g mk a) (Vm.Alike.refl U.vm) h.2.1.2.1, gf_S.calling (U := U) (V := U.calling g mk a) rfl rfl h.2.1.2.2⟩, gf_O.moved (u := U) (U := U.calling g mk a) (Vm.Alike.refl U.vm) h.2.2⟩
theorem gf_mI {l : Launch} {E : gf_E} {y : MethodName} {cd : ByteArray} {mL : Nat} {rm : Room} {n c s n' : Nat} {ρ ρ' μ : gf_M} {av : List Value} {Po : gf_M → Prop} (hy : plainName y.cls = true) (hav : (lg_sl av).length ≤ mL) (hn : n < 81)
    (kk : ∀ (X : gf_X) (Q : State → Prop), gf_xl X = l → gf_C X E cd mL y.cls rm → gf_O (gf_xs X) → X.2.2.2.2.2.2.2.2.1.name = y.name → gf_Rv X E Q (c, s, n', ρ') Po → gf_G X E Q mL (0, 0, n, ρ) μ 0 (lv_args 0 av) []) : gf_MI l E y cd mL rm n ρ c s n' ρ' μ av Po := by
  refine Met.ofW (cc := cd) (maxL := mL) (ret := none) hy rfl ?_
  intro p e s0 m args below meth c0 s₁ B hml hv
  obtain ⟨hav2, ⟨hW, hK, hS⟩, hO⟩ := hv
  subst hav2
  have hts := atoms_spec (ws := .code y cd mL none :: gf_tbl) B.pre
  have hl := lv_entry av (n := mL) hav
  have hbase : E.1 ≤ s0.heap.size := by have := hW.1 hn; omega
  have hC : gf_C (p, l, e, (headSpec (.code y cd mL none :: gf_tbl) rm).room, s0, m, av.toArray, below, meth, c0) E cd mL y.cls rm :=
    ⟨B.exec, B.bytes, hml, findClass_of_methodNamed B.named, fun w hw => hts w (List.mem_cons_of_mem _ hw), hK, hS, rfl, hbase⟩
  have := kk (p, l, e, (headSpec (.code y cd mL none :: gf_tbl) rm).room, s0, m, av.toArray, below, meth, c0) _ rfl hC hO (name_of_methodNamed B.named B.method).1 ⟨B.returns, B.notSynchronized, rfl⟩ s0.heap [] _ hl hW va_S.rf
  rw [lg_entry_eq]
  exact this
theorem gf_kGdi : Cond.code yy_Gd_init cc_Gd_init 1 none ∈ gf_tbl ∧ Cond.instanceMethod yy_Gd_init ∈ gf_tbl ∧ Cond.initialized yy_Gd_init.cls ∈ gf_tbl ∧ yy_Gd_init.name = "<init>" ∧ (yy_Gd_init.cls ≠ "java/lang/invoke/MethodHandle" ∧ yy_Gd_init.cls ≠ "java/lang/invoke/VarHandle" ∧ (parseMethodDescriptor yy_Gd_init.desc).map (fun d => d.parameters.length) = some 0) := ⟨im_Gd_init.1, im_Gd_init.2.1, im_Gd_init.2.2, rfl, by decide +kernel, by decide +kernel, by decide +kernel⟩
section GF8
variable {X : gf_X} {E : gf_E} {Q : State → Prop} {nL : Nat} {φ : gf_F} {μ : gf_M} {pc : Nat} {lv : List (Nat × Value)} {st As : List Value} {cc : ByteArray} {own : String} {rm : Room}
variable {y : MethodName} {cd : ByteArray} {mL idx : Nat} {rm' : Room}
theorem gf_ph {φ' : gf_F} (h : φ = φ') (kk : gf_G X E Q nL φ' μ pc lv st) : gf_G X E Q nL φ μ pc lv st := h ▸ kk
theorem gf_phU {f : gf_M} {L M L' : List (Int × Int × Int)} {a b n a' b' : Nat} (ha : a = a') (hb : b = b') (hL : M ++ L = L') (kk : gf_G X E Q nL (a', b', n, gf_ups f L') μ pc lv st) : gf_G X E Q nL (a, b, n, gf_ups (gf_ups f L) M) μ pc lv st := by
  subst ha; subst hb; subst hL
  rw [gf_ups_ups]
  exact kk
theorem gf_preO {H : Heap} {locs : List Loc} {n : Nat} {ρ : gf_M} {av : List Value} (C : gf_C X E cc nL own rm) (hO : gf_O (gf_xs X)) (hW : gf_W E n ρ μ H) (hS : va_S (gf_A E) (gf_xs X).heap H locs) : ∀ U : State, U.heap = H → X.2.2.2.2.1.WarmedH U.vm → gf_PcO E n ρ μ av av.toArray U := by
  intro U hU hw
  have h := gf_pre (av := av) C hW hS U hU hw
  exact ⟨h.1, h.2, gf_O.moved hw.alike hO⟩
theorem gf_callI {k : Int} {Po : gf_M → Prop} {st0 : List Value} {mc ms n' : Nat} {ρ' : gf_M} (C : gf_C X E cc nL own rm) (hO : gf_O (gf_xs X)) (w : gf_kI own idx y cd mL As.length) (M : gf_MI (gf_xl X) E y cd mL rm' φ.2.2.1 φ.2.2.2 mc ms n' ρ' μ (.ref (gf_ad E k) :: As) Po) (hR : gf_rok rm rm' mL = true) (hr : rm'.cells = mc ∧ rm'.slots = ms) (hf : φ.1 + mc ≤ rm.cells ∧ φ.2.1 + ms ≤ rm.slots) (hst : (st.map fun v => v.category).sum ≤ 8) (hs : st0 = As.reverse ++ .ref (gf_ad E k) :: st) (d : decode cc pc = .ok (.invokespecial idx, 3)) (kk : ∀ (μ' : gf_M), Po μ' → gf_G X E Q nL (φ.1 + mc, φ.2.1 + ms, n', ρ') μ' (pc + 3) lv st) : gf_G X E Q nL φ μ pc lv st0 := by
  subst hs
  intro H locs ls hl hW hS
  have hts := C.2.2.2.2.1
  simp only [gf_rok, Bool.and_eq_true, decide_eq_true_eq] at hR
  exact gf_backv hl hS (va_runI ⟨C.1, C.2.1, C.2.2.1, C.2.2.2.1, hts⟩ M ⟨callB_of As.length hts (gf_goodX w.1) rfl hr.1 hr.2 (hts _ w.2.2.2.1) (hts _ w.2.1) w.2.2.2.2.2 (by rw [C.2.2.2.2.2.2.2.1]; exact hR), w.2.2.2.2.1, hts _ w.2.2.1⟩ ⟨gf_blindO, gf_preO C hO hW hS⟩ rfl rfl hl.1 rfl (lv_room hst) d (by rw [C.2.2.2.2.2.2.2.1]; exact hf)) kk
theorem gf_callIN {host : String} {k : Int} {Po : gf_M → Prop} {st0 : List Value} {mc ms n' : Nat} {ρ' : gf_M} (C : gf_C X E cc nL own rm) (hO : gf_O (gf_xs X)) (w : Cond.code y cd mL none ∈ gf_tbl ∧ Cond.instanceMethod y ∈ gf_tbl ∧ Cond.initialized y.cls ∈ gf_tbl ∧ y.name = "<init>" ∧ (y.cls ≠ "java/lang/invoke/MethodHandle" ∧ y.cls ≠ "java/lang/invoke/VarHandle" ∧ (parseMethodDescriptor y.desc).map (fun d => d.parameters.length) = some As.length)) (hn : va_Nw (.methodLinkNest own idx y host) (gf_xs X)) (M : gf_MI (gf_xl X) E y cd mL rm' φ.2.2.1 φ.2.2.2 mc ms n' ρ' μ (.ref (gf_ad E k) :: As) Po) (hR : gf_rok rm rm' mL = true) (hr : rm'.cells = mc ∧ rm'.slots = ms) (hf : φ.1 + mc ≤ rm.cells ∧ φ.2.1 + ms ≤ rm.slots) (hst : (st.map fun v => v.category).sum ≤ 8) (hs : st0 = As.reverse ++ .ref (gf_ad E k) :: st) (d : decode cc pc = .ok (.invokespecial idx, 3)) (kk : ∀ (μ' : gf_M), Po μ' → gf_G X E Q nL (φ.1 + mc, φ.2.1 + ms, n', ρ') μ' (pc + 3) lv st) : gf_G X E Q nL φ μ pc lv st0 := by
  subst hs
  intro H locs ls hl hW hS
  have hts := C.2.2.2.2.1
  simp only [gf_rok, Bool.and_eq_true, decide_eq_true_eq] at hR
  exact gf_backv hl hS (va_runIN ⟨C.1, C.2.1, C.2.2.1, C.2.2.2.1, hts⟩ M ⟨va_cnB As.length hts (gf_goodX w.1) rfl hr.1 hr.2 hn (hts _ w.2.2.1) w.2.2.2.2 (by rw [C.2.2.2.2.2.2.2.1]; exact hR), w.2.2.2.1, hts _ w.2.1⟩ ⟨gf_blindO, gf_preO C hO hW hS⟩ rfl rfl hl.1 rfl (lv_room hst) d (by rw [C.2.2.2.2.2.2.2.1]; exact hf)) kk
theorem gf_newO {k : Int} {ci N index : Nat} {T : u_T} {Cn : String} {ty : Nat → FieldType} (hk : (φ.2.2.1 : Int) = k) (C : gf_C X E cc nL own rm) (q : gf_cl ci Cn T N) (hty : ∀ k, k < N → parseFieldDescriptor (T k).2.2.1 = some (ty k)) (hdef : ∀ j, j < N → defaultValue (ty j) = gf_dv (gf_ft ci j)) (hw : Cond.classLink own index Cn ∈ gf_tbl ∧ Cond.instantiable Cn N ∈ gf_tbl ∧ Cond.initialized Cn ∈ gf_tbl) (d : decode cc pc = .ok (.new index, 3)) (hsh : gf_sh k = (0, ci, N)) (hn : φ.2.2.1 < 81) (hμ : ∀ j : Int, μ k j = 0) (hρ : ∀ j : Int, φ.2.2.2 k j = -1) (hc : φ.1 + 1 ≤ rm.cells ∧ φ.2.1 + N ≤ rm.slots) (kk : gf_G X E Q nL (φ.1 + 1, φ.2.1 + N, φ.2.2.1 + 1, φ.2.2.2) μ (pc + 3) lv (.ref (gf_ad E k) :: st)) : gf_G X E Q nL φ μ pc lv st := by
  subst hk
  exact gf_new C q hty hdef hw d hsh hn hμ hρ hc kk
theorem gf_newIk {N : Nat} {k x : Int} {cA0 : Nat} (hk : (φ.2.2.1 : Int) = k) (C : gf_C X E cc nL own rm) (hw : Cond.arrayClass .int ∈ gf_tbl) (d : decode cc pc = .ok (.newarray .int, 2)) (hx : x = (N : Int)) (hN : N ≤ 10000) (hsh : gf_sh k = (1, cA0, N)) (hn : φ.2.2.1 < 81) (hμ : ∀ j : Int, μ k j = 0) (hc : φ.1 + 1 ≤ rm.cells ∧ φ.2.1 + N ≤ rm.slots) (kk : gf_G X E Q nL (φ.1 + 1, φ.2.1 + N, φ.2.2.1 + 1, φ.2.2.2) μ (pc + 2) lv (.ref (gf_ad E k) :: st)) : gf_G X E Q nL φ μ pc lv (.int (gf_i x) :: st) := by
  subst hk
  exact gf_newI C hw d hx hN hsh hn hμ hc kk
theorem gf_newLk {N : Nat} {k x : Int} {cA0 : Nat} (hk : (φ.2.2.1 : Int) = k) (C : gf_C X E cc nL own rm) (hw : Cond.arrayClass .long ∈ gf_tbl) (d : decode cc pc = .ok (.newarray .long, 2)) (hx : x = (N : Int)) (hN : N ≤ 10000) (hsh : gf_sh k = (2, cA0, N)) (hn : φ.2.2.1 < 81) (hμ : ∀ j : Int, μ k j = 0) (hc : φ.1 + 1 ≤ rm.cells ∧ φ.2.1 + N ≤ rm.slots) (kk : gf_G X E Q nL (φ.1 + 1, φ.2.1 + N, φ.2.2.1 + 1, φ.2.2.2) μ (pc + 2) lv (.ref (gf_ad E k) :: st)) : gf_G X E Q nL φ μ pc lv (.int (gf_i x) :: st) := by
  subst hk
  exact gf_newL C hw d hx hN hsh hn hμ hc kk
theorem gf_newBk {N : Nat} {k x : Int} {cA0 : Nat} (hk : (φ.2.2.1 : Int) = k) (C : gf_C X E cc nL own rm) (hw : Cond.arrayClass .byte ∈ gf_tbl) (d : decode cc pc = .ok (.newarray .byte, 2)) (hx : x = (N : Int)) (hN : N ≤ 10000) (hsh : gf_sh k = (3, cA0, N)) (hn : φ.2.2.1 < 81) (hμ : ∀ j : Int, μ k j = 0) (hc : φ.1 + 1 ≤ rm.cells ∧ φ.2.1 + N ≤ rm.slots) (kk : gf_G X E Q nL (φ.1 + 1, φ.2.1 + N, φ.2.2.1 + 1, φ.2.2.2) μ (pc + 2) lv (.ref (gf_ad E k) :: st)) : gf_G X E Q nL φ μ pc lv (.int (gf_i x) :: st) := by
  subst hk
  exact gf_newB C hw d hx hN hsh hn hμ hc kk
theorem gf_newQk {N c index : Nat} {k x : Int} {C0 : String} (hk : (φ.2.2.1 : Int) = k) (C : gf_C X E cc nL own rm) (hO : va_AO C0 (gf_xs X)) (hw : Cond.classLink own index C0 ∈ gf_tbl) (hty : (gf_tys E)[c]? = some (E.2.2.1 c, .object C0)) (hc3 : c = 3 ∨ c = 4 ∨ c = 5) (d : decode cc pc = .ok (.anewarray index, 3)) (hx : x = (N : Int)) (hN : N ≤ 10000) (hsh : gf_sh k = (4, c, N)) (hn : φ.2.2.1 < 81) (hρ : ∀ j : Int, φ.2.2.2 k j = -1) (hc : φ.1 + 1 ≤ rm.cells ∧ φ.2.1 + N ≤ rm.slots) (kk : gf_G X E Q nL (φ.1 + 1, φ.2.1 + N, φ.2.2.1 + 1, φ.2.2.2) μ (pc + 3) lv (.ref (gf_ad E k) :: st)) : gf_G X E Q nL φ μ pc lv (.int (gf_i x) :: st) := by
  subst hk
  exact gf_newQ C hO hw hty hc3 d hx hN hsh hn hρ hc kk
end GF8
set_option maxRecDepth 100000 in
theorem ct_Gd_init (l : Launch) (E : gf_E) (k : Int) (n : Nat) (ρ μ : gf_M) (hn : n < 81) : gf_MI l E yy_Gd_init cc_Gd_init 1 (gf_rmc 1 0 0 20) n ρ 0 0 n ρ μ [.ref (gf_ad E k)] (fun μ' => μ' = μ) := by
  refine gf_mI (by decide +kernel) (Nat.le_of_ble_eq_true rfl) hn (fun X Q hlx C hO hname hQ => ?_)
  subst hlx
  replace C : gf_C X E cc_Gd_init 1 "GuardFigures$Guard" (gf_rmc 1 0 0 20) := C
  show gf_G X E Q 1 (0, 0, n, ρ) μ 0 [(0, .ref (gf_ad E k))] []
  refine gf_aload_n C dd_Gd_init_0 0 rfl ?_
  refine gf_objI C ⟨gf_mem 118 (by decide +kernel) (by decide +kernel), gf_mem 89 (by decide +kernel) (by decide +kernel), gf_mem 90 rfl (by decide +kernel)⟩ dd_Gd_init_1 (by decide) ⟨by decide, by decide⟩ ?_
  exact gf_vret C hQ dd_Gd_init_4 rfl
set_option maxRecDepth 100000 in
set_option maxHeartbeats 4000000 in
theorem ct_Ro_init_2 (l : Launch) (E : gf_E) (ρ μ : gf_M) (hμ : ∀ k j : Int, 3 ≤ k → μ k j = 0) (hρ : ∀ k j : Int, 3 ≤ k → ρ k j = -1) : gf_MI l E yy_Ro_init cc_Ro_init 2 (gf_rmc 1 1 40 20) 3 ρ 1 40 4 (gf_ups ρ [(2, 0, 3)]) μ [.ref (gf_ad E 2), .int (gf_i 40)] (fun μ' => μ' = gf_ups μ [(2, 1, (-1))]) := by
  refine gf_mI (by decide +kernel) (Nat.le_of_ble_eq_true rfl) (by decide) (fun X Q hlx C hO hname hQ => ?_)
  subst hlx
  replace C : gf_C X E cc_Ro_init 2 "GuardFigures$Row" (gf_rmc 1 1 40 20) := C
  show gf_G X E Q 2 (0, 0, 3, gf_ups ρ []) (gf_ups μ []) 0 [(0, .ref (gf_ad E 2)), (1, .int (gf_i 40))] []
  refine gf_aload_n C dd_Ro_init_0 0 rfl ?_
  refine gf_objI C ⟨gf_mem 97 (by decide +kernel) (by decide +kernel), gf_mem 89 (by decide +kernel) (by decide +kernel), gf_mem 90 rfl (by decide +kernel)⟩ dd_Ro_init_1 (by decide) ⟨by decide, by decide⟩ ?_
  refine gf_aload_n C dd_Ro_init_4 0 rfl ?_
  refine gf_iload_n C dd_Ro_init_5 1 rfl ?_
  refine gf_newIk (N := 40) (k := 3) (cA0 := 0) rfl C (gf_mem 111 (by decide +kernel) (by decide +kernel)) dd_Ro_init_6 (by decide) (by decide) (by decide) (Nat.le_of_ble_eq_true rfl) (fun j => (gf_ups_new rfl).trans (hμ _ _ (by decide))) ⟨Nat.le_of_ble_eq_true rfl, Nat.le_of_ble_eq_true rfl⟩ ?_
  refine gf_ph (φ' := (1, 40, 4, gf_ups ρ [])) rfl ?_
  refine gf_putF (z := 0) (ty := .array .int) C hname gf_cl3 fl_Ro_7 dd_Ro_init_8 rfl rfl rfl rfl (by decide +kernel) (fun _ => ⟨rfl, rfl⟩) (show gf_is 4 2 0 3 2 by decide) (by decide) ?_
  refine gf_ph (φ' := (1, 40, 4, gf_ups ρ [(2, 0, 3)])) rfl ?_
  refine gf_aload_n C dd_Ro_init_11 0 rfl ?_
  refine gf_iconst C dd_Ro_init_12 ?_
  refine gf_putI (z := 1) C gf_cl3 fl_Ro_13 dd_Ro_init_13 rfl rfl rfl (by decide +kernel) (show gf_is 4 2 0 3 2 by decide) (by decide) ?_
  refine gf_pm (μ := gf_ups μ [(2, 1, (-1))]) rfl ?_
  exact gf_vret C hQ dd_Ro_init_16 rfl

set_option maxRecDepth 100000 in
set_option maxHeartbeats 4000000 in
theorem ct_Ro_init_4 (l : Launch) (E : gf_E) (ρ μ : gf_M) (hμ : ∀ k j : Int, 5 ≤ k → μ k j = 0) (hρ : ∀ k j : Int, 5 ≤ k → ρ k j = -1) : gf_MI l E yy_Ro_init cc_Ro_init 2 (gf_rmc 1 1 40 20) 5 ρ 1 40 6 (gf_ups ρ [(4, 0, 5)]) μ [.ref (gf_ad E 4), .int (gf_i 40)] (fun μ' => μ' = gf_ups μ [(4, 1, (-1))]) := by
  refine gf_mI (by decide +kernel) (Nat.le_of_ble_eq_true rfl) (by decide) (fun X Q hlx C hO hname hQ => ?_)
  subst hlx
  replace C : gf_C X E cc_Ro_init 2 "GuardFigures$Row" (gf_rmc 1 1 40 20) := C
  show gf_G X E Q 2 (0, 0, 5, gf_ups ρ []) (gf_ups μ []) 0 [(0, .ref (gf_ad E 4)), (1, .int (gf_i 40))] []
  refine gf_aload_n C dd_Ro_init_0 0 rfl ?_
  refine gf_objI C ⟨gf_mem 97 (by decide +kernel) (by decide +kernel), gf_mem 89 (by decide +kernel) (by decide +kernel), gf_mem 90 rfl (by decide +kernel)⟩ dd_Ro_init_1 (by decide) ⟨by decide, by decide⟩ ?_
  refine gf_aload_n C dd_Ro_init_4 0 rfl ?_
  refine gf_iload_n C dd_Ro_init_5 1 rfl ?_
  refine gf_newIk (N := 40) (k := 5) (cA0 := 0) rfl C (gf_mem 111 (by decide +kernel) (by decide +kernel)) dd_Ro_init_6 (by decide) (by decide) (by decide) (Nat.le_of_ble_eq_true rfl) (fun j => (gf_ups_new rfl).trans (hμ _ _ (by decide))) ⟨Nat.le_of_ble_eq_true rfl, Nat.le_of_ble_eq_true rfl⟩ ?_
  refine gf_ph (φ' := (1, 40, 6, gf_ups ρ [])) rfl ?_
  refine gf_putF (z := 0) (ty := .array .int) C hname gf_cl3 fl_Ro_7 dd_Ro_init_8 rfl rfl rfl rfl (by decide +kernel) (fun _ => ⟨rfl, rfl⟩) (show gf_is 6 4 0 3 2 by decide) (by decide) ?_
  refine gf_ph (φ' := (1, 40, 6, gf_ups ρ [(4, 0, 5)])) rfl ?_
  refine gf_aload_n C dd_Ro_init_11 0 rfl ?_
  refine gf_iconst C dd_Ro_init_12 ?_
  refine gf_putI (z := 1) C gf_cl3 fl_Ro_13 dd_Ro_init_13 rfl rfl rfl (by decide +kernel) (show gf_is 6 4 0 3 2 by decide) (by decide) ?_
  refine gf_pm (μ := gf_ups μ [(4, 1, (-1))]) rfl ?_
  exact gf_vret C hQ dd_Ro_init_16 rfl

set_option maxRecDepth 100000 in
set_option maxHeartbeats 4000000 in
theorem ct_Ro_init_6 (l : Launch) (E : gf_E) (ρ μ : gf_M) (hμ : ∀ k j : Int, 7 ≤ k → μ k j = 0) (hρ : ∀ k j : Int, 7 ≤ k → ρ k j = -1) : gf_MI l E yy_Ro_init cc_Ro_init 2 (gf_rmc 1 1 40 20) 7 ρ 1 40 8 (gf_ups ρ [(6, 0, 7)]) μ [.ref (gf_ad E 6), .int (gf_i 40)] (fun μ' => μ' = gf_ups μ [(6, 1, (-1))]) := by
  refine gf_mI (by decide +kernel) (Nat.le_of_ble_eq_true rfl) (by decide) (fun X Q hlx C hO hname hQ => ?_)
  subst hlx
  replace C : gf_C X E cc_Ro_init 2 "GuardFigures$Row" (gf_rmc 1 1 40 20) := C
  show gf_G X E Q 2 (0, 0, 7, gf_ups ρ []) (gf_ups μ []) 0 [(0, .ref (gf_ad E 6)), (1, .int (gf_i 40))] []
  refine gf_aload_n C dd_Ro_init_0 0 rfl ?_
  refine gf_objI C ⟨gf_mem 97 (by decide +kernel) (by decide +kernel), gf_mem 89 (by decide +kernel) (by decide +kernel), gf_mem 90 rfl (by decide +kernel)⟩ dd_Ro_init_1 (by decide) ⟨by decide, by decide⟩ ?_
  refine gf_aload_n C dd_Ro_init_4 0 rfl ?_
  refine gf_iload_n C dd_Ro_init_5 1 rfl ?_
  refine gf_newIk (N := 40) (k := 7) (cA0 := 0) rfl C (gf_mem 111 (by decide +kernel) (by decide +kernel)) dd_Ro_init_6 (by decide) (by decide) (by decide) (Nat.le_of_ble_eq_true rfl) (fun j => (gf_ups_new rfl).trans (hμ _ _ (by decide))) ⟨Nat.le_of_ble_eq_true rfl, Nat.le_of_ble_eq_true rfl⟩ ?_
  refine gf_ph (φ' := (1, 40, 8, gf_ups ρ [])) rfl ?_
  refine gf_putF (z := 0) (ty := .array .int) C hname gf_cl3 fl_Ro_7 dd_Ro_init_8 rfl rfl rfl rfl (by decide +kernel) (fun _ => ⟨rfl, rfl⟩) (show gf_is 8 6 0 3 2 by decide) (by decide) ?_
  refine gf_ph (φ' := (1, 40, 8, gf_ups ρ [(6, 0, 7)])) rfl ?_
  refine gf_aload_n C dd_Ro_init_11 0 rfl ?_
  refine gf_iconst C dd_Ro_init_12 ?_
  refine gf_putI (z := 1) C gf_cl3 fl_Ro_13 dd_Ro_init_13 rfl rfl rfl (by decide +kernel) (show gf_is 8 6 0 3 2 by decide) (by decide) ?_
  refine gf_pm (μ := gf_ups μ [(6, 1, (-1))]) rfl ?_
  exact gf_vret C hQ dd_Ro_init_16 rfl

set_option maxRecDepth 100000 in
set_option maxHeartbeats 4000000 in
theorem ct_Ro_init_8 (l : Launch) (E : gf_E) (ρ μ : gf_M) (hμ : ∀ k j : Int, 9 ≤ k → μ k j = 0) (hρ : ∀ k j : Int, 9 ≤ k → ρ k j = -1) : gf_MI l E yy_Ro_init cc_Ro_init 2 (gf_rmc 1 1 40 20) 9 ρ 1 40 10 (gf_ups ρ [(8, 0, 9)]) μ [.ref (gf_ad E 8), .int (gf_i 40)] (fun μ' => μ' = gf_ups μ [(8, 1, (-1))]) := by
  refine gf_mI (by decide +kernel) (Nat.le_of_ble_eq_true rfl) (by decide) (fun X Q hlx C hO hname hQ => ?_)
  subst hlx
  replace C : gf_C X E cc_Ro_init 2 "GuardFigures$Row" (gf_rmc 1 1 40 20) := C
  show gf_G X E Q 2 (0, 0, 9, gf_ups ρ []) (gf_ups μ []) 0 [(0, .ref (gf_ad E 8)), (1, .int (gf_i 40))] []
  refine gf_aload_n C dd_Ro_init_0 0 rfl ?_
  refine gf_objI C ⟨gf_mem 97 (by decide +kernel) (by decide +kernel), gf_mem 89 (by decide +kernel) (by decide +kernel), gf_mem 90 rfl (by decide +kernel)⟩ dd_Ro_init_1 (by decide) ⟨by decide, by decide⟩ ?_
  refine gf_aload_n C dd_Ro_init_4 0 rfl ?_
  refine gf_iload_n C dd_Ro_init_5 1 rfl ?_
  refine gf_newIk (N := 40) (k := 9) (cA0 := 0) rfl C (gf_mem 111 (by decide +kernel) (by decide +kernel)) dd_Ro_init_6 (by decide) (by decide) (by decide) (Nat.le_of_ble_eq_true rfl) (fun j => (gf_ups_new rfl).trans (hμ _ _ (by decide))) ⟨Nat.le_of_ble_eq_true rfl, Nat.le_of_ble_eq_true rfl⟩ ?_
  refine gf_ph (φ' := (1, 40, 10, gf_ups ρ [])) rfl ?_
  refine gf_putF (z := 0) (ty := .array .int) C hname gf_cl3 fl_Ro_7 dd_Ro_init_8 rfl rfl rfl rfl (by decide +kernel) (fun _ => ⟨rfl, rfl⟩) (show gf_is 10 8 0 3 2 by decide) (by decide) ?_
  refine gf_ph (φ' := (1, 40, 10, gf_ups ρ [(8, 0, 9)])) rfl ?_
  refine gf_aload_n C dd_Ro_init_11 0 rfl ?_
  refine gf_iconst C dd_Ro_init_12 ?_
  refine gf_putI (z := 1) C gf_cl3 fl_Ro_13 dd_Ro_init_13 rfl rfl rfl (by decide +kernel) (show gf_is 10 8 0 3 2 by decide) (by decide) ?_
  refine gf_pm (μ := gf_ups μ [(8, 1, (-1))]) rfl ?_
  exact gf_vret C hQ dd_Ro_init_16 rfl

set_option maxRecDepth 100000 in
set_option maxHeartbeats 4000000 in
theorem ct_Ro_init_10 (l : Launch) (E : gf_E) (ρ μ : gf_M) (hμ : ∀ k j : Int, 11 ≤ k → μ k j = 0) (hρ : ∀ k j : Int, 11 ≤ k → ρ k j = -1) : gf_MI l E yy_Ro_init cc_Ro_init 2 (gf_rmc 1 1 40 20) 11 ρ 1 40 12 (gf_ups ρ [(10, 0, 11)]) μ [.ref (gf_ad E 10), .int (gf_i 40)] (fun μ' => μ' = gf_ups μ [(10, 1, (-1))]) := by
  refine gf_mI (by decide +kernel) (Nat.le_of_ble_eq_true rfl) (by decide) (fun X Q hlx C hO hname hQ => ?_)
  subst hlx
  replace C : gf_C X E cc_Ro_init 2 "GuardFigures$Row" (gf_rmc 1 1 40 20) := C
  show gf_G X E Q 2 (0, 0, 11, gf_ups ρ []) (gf_ups μ []) 0 [(0, .ref (gf_ad E 10)), (1, .int (gf_i 40))] []
  refine gf_aload_n C dd_Ro_init_0 0 rfl ?_
  refine gf_objI C ⟨gf_mem 97 (by decide +kernel) (by decide +kernel), gf_mem 89 (by decide +kernel) (by decide +kernel), gf_mem 90 rfl (by decide +kernel)⟩ dd_Ro_init_1 (by decide) ⟨by decide, by decide⟩ ?_
  refine gf_aload_n C dd_Ro_init_4 0 rfl ?_
  refine gf_iload_n C dd_Ro_init_5 1 rfl ?_
  refine gf_newIk (N := 40) (k := 11) (cA0 := 0) rfl C (gf_mem 111 (by decide +kernel) (by decide +kernel)) dd_Ro_init_6 (by decide) (by decide) (by decide) (Nat.le_of_ble_eq_true rfl) (fun j => (gf_ups_new rfl).trans (hμ _ _ (by decide))) ⟨Nat.le_of_ble_eq_true rfl, Nat.le_of_ble_eq_true rfl⟩ ?_
  refine gf_ph (φ' := (1, 40, 12, gf_ups ρ [])) rfl ?_
  refine gf_putF (z := 0) (ty := .array .int) C hname gf_cl3 fl_Ro_7 dd_Ro_init_8 rfl rfl rfl rfl (by decide +kernel) (fun _ => ⟨rfl, rfl⟩) (show gf_is 12 10 0 3 2 by decide) (by decide) ?_
  refine gf_ph (φ' := (1, 40, 12, gf_ups ρ [(10, 0, 11)])) rfl ?_
  refine gf_aload_n C dd_Ro_init_11 0 rfl ?_
  refine gf_iconst C dd_Ro_init_12 ?_
  refine gf_putI (z := 1) C gf_cl3 fl_Ro_13 dd_Ro_init_13 rfl rfl rfl (by decide +kernel) (show gf_is 12 10 0 3 2 by decide) (by decide) ?_
  refine gf_pm (μ := gf_ups μ [(10, 1, (-1))]) rfl ?_
  exact gf_vret C hQ dd_Ro_init_16 rfl

set_option maxRecDepth 100000 in
set_option maxHeartbeats 4000000 in
theorem ct_Ro_init_12 (l : Launch) (E : gf_E) (ρ μ : gf_M) (hμ : ∀ k j : Int, 13 ≤ k → μ k j = 0) (hρ : ∀ k j : Int, 13 ≤ k → ρ k j = -1) : gf_MI l E yy_Ro_init cc_Ro_init 2 (gf_rmc 1 1 40 20) 13 ρ 1 40 14 (gf_ups ρ [(12, 0, 13)]) μ [.ref (gf_ad E 12), .int (gf_i 40)] (fun μ' => μ' = gf_ups μ [(12, 1, (-1))]) := by
  refine gf_mI (by decide +kernel) (Nat.le_of_ble_eq_true rfl) (by decide) (fun X Q hlx C hO hname hQ => ?_)
  subst hlx
  replace C : gf_C X E cc_Ro_init 2 "GuardFigures$Row" (gf_rmc 1 1 40 20) := C
  show gf_G X E Q 2 (0, 0, 13, gf_ups ρ []) (gf_ups μ []) 0 [(0, .ref (gf_ad E 12)), (1, .int (gf_i 40))] []
  refine gf_aload_n C dd_Ro_init_0 0 rfl ?_
  refine gf_objI C ⟨gf_mem 97 (by decide +kernel) (by decide +kernel), gf_mem 89 (by decide +kernel) (by decide +kernel), gf_mem 90 rfl (by decide +kernel)⟩ dd_Ro_init_1 (by decide) ⟨by decide, by decide⟩ ?_
  refine gf_aload_n C dd_Ro_init_4 0 rfl ?_
  refine gf_iload_n C dd_Ro_init_5 1 rfl ?_
  refine gf_newIk (N := 40) (k := 13) (cA0 := 0) rfl C (gf_mem 111 (by decide +kernel) (by decide +kernel)) dd_Ro_init_6 (by decide) (by decide) (by decide) (Nat.le_of_ble_eq_true rfl) (fun j => (gf_ups_new rfl).trans (hμ _ _ (by decide))) ⟨Nat.le_of_ble_eq_true rfl, Nat.le_of_ble_eq_true rfl⟩ ?_
  refine gf_ph (φ' := (1, 40, 14, gf_ups ρ [])) rfl ?_
  refine gf_putF (z := 0) (ty := .array .int) C hname gf_cl3 fl_Ro_7 dd_Ro_init_8 rfl rfl rfl rfl (by decide +kernel) (fun _ => ⟨rfl, rfl⟩) (show gf_is 14 12 0 3 2 by decide) (by decide) ?_
  refine gf_ph (φ' := (1, 40, 14, gf_ups ρ [(12, 0, 13)])) rfl ?_
  refine gf_aload_n C dd_Ro_init_11 0 rfl ?_
  refine gf_iconst C dd_Ro_init_12 ?_
  refine gf_putI (z := 1) C gf_cl3 fl_Ro_13 dd_Ro_init_13 rfl rfl rfl (by decide +kernel) (show gf_is 14 12 0 3 2 by decide) (by decide) ?_
  refine gf_pm (μ := gf_ups μ [(12, 1, (-1))]) rfl ?_
  exact gf_vret C hQ dd_Ro_init_16 rfl

set_option maxRecDepth 100000 in
set_option maxHeartbeats 4000000 in
theorem ct_Ro_init_15 (l : Launch) (E : gf_E) (ρ μ : gf_M) (hμ : ∀ k j : Int, 16 ≤ k → μ k j = 0) (hρ : ∀ k j : Int, 16 ≤ k → ρ k j = -1) : gf_MI l E yy_Ro_init cc_Ro_init 2 (gf_rmc 1 1 60 20) 16 ρ 1 60 17 (gf_ups ρ [(15, 0, 16)]) μ [.ref (gf_ad E 15), .int (gf_i 60)] (fun μ' => μ' = gf_ups μ [(15, 1, (-1))]) := by
  refine gf_mI (by decide +kernel) (Nat.le_of_ble_eq_true rfl) (by decide) (fun X Q hlx C hO hname hQ => ?_)
  subst hlx
  replace C : gf_C X E cc_Ro_init 2 "GuardFigures$Row" (gf_rmc 1 1 60 20) := C
  show gf_G X E Q 2 (0, 0, 16, gf_ups ρ []) (gf_ups μ []) 0 [(0, .ref (gf_ad E 15)), (1, .int (gf_i 60))] []
  refine gf_aload_n C dd_Ro_init_0 0 rfl ?_
  refine gf_objI C ⟨gf_mem 97 (by decide +kernel) (by decide +kernel), gf_mem 89 (by decide +kernel) (by decide +kernel), gf_mem 90 rfl (by decide +kernel)⟩ dd_Ro_init_1 (by decide) ⟨by decide, by decide⟩ ?_
  refine gf_aload_n C dd_Ro_init_4 0 rfl ?_
  refine gf_iload_n C dd_Ro_init_5 1 rfl ?_
  refine gf_newIk (N := 60) (k := 16) (cA0 := 0) rfl C (gf_mem 111 (by decide +kernel) (by decide +kernel)) dd_Ro_init_6 (by decide) (by decide) (by decide) (Nat.le_of_ble_eq_true rfl) (fun j => (gf_ups_new rfl).trans (hμ _ _ (by decide))) ⟨Nat.le_of_ble_eq_true rfl, Nat.le_of_ble_eq_true rfl⟩ ?_
  refine gf_ph (φ' := (1, 60, 17, gf_ups ρ [])) rfl ?_
  refine gf_putF (z := 0) (ty := .array .int) C hname gf_cl3 fl_Ro_7 dd_Ro_init_8 rfl rfl rfl rfl (by decide +kernel) (fun _ => ⟨rfl, rfl⟩) (show gf_is 17 15 0 3 2 by decide) (by decide) ?_
  refine gf_ph (φ' := (1, 60, 17, gf_ups ρ [(15, 0, 16)])) rfl ?_
  refine gf_aload_n C dd_Ro_init_11 0 rfl ?_
  refine gf_iconst C dd_Ro_init_12 ?_
  refine gf_putI (z := 1) C gf_cl3 fl_Ro_13 dd_Ro_init_13 rfl rfl rfl (by decide +kernel) (show gf_is 17 15 0 3 2 by decide) (by decide) ?_
  refine gf_pm (μ := gf_ups μ [(15, 1, (-1))]) rfl ?_
  exact gf_vret C hQ dd_Ro_init_16 rfl

set_option maxRecDepth 100000 in
set_option maxHeartbeats 4000000 in
theorem ct_Ro_init_17 (l : Launch) (E : gf_E) (ρ μ : gf_M) (hμ : ∀ k j : Int, 18 ≤ k → μ k j = 0) (hρ : ∀ k j : Int, 18 ≤ k → ρ k j = -1) : gf_MI l E yy_Ro_init cc_Ro_init 2 (gf_rmc 1 1 60 20) 18 ρ 1 60 19 (gf_ups ρ [(17, 0, 18)]) μ [.ref (gf_ad E 17), .int (gf_i 60)] (fun μ' => μ' = gf_ups μ [(17, 1, (-1))]) := by
  refine gf_mI (by decide +kernel) (Nat.le_of_ble_eq_true rfl) (by decide) (fun X Q hlx C hO hname hQ => ?_)
  subst hlx
  replace C : gf_C X E cc_Ro_init 2 "GuardFigures$Row" (gf_rmc 1 1 60 20) := C
  show gf_G X E Q 2 (0, 0, 18, gf_ups ρ []) (gf_ups μ []) 0 [(0, .ref (gf_ad E 17)), (1, .int (gf_i 60))] []
  refine gf_aload_n C dd_Ro_init_0 0 rfl ?_
  refine gf_objI C ⟨gf_mem 97 (by decide +kernel) (by decide +kernel), gf_mem 89 (by decide +kernel) (by decide +kernel), gf_mem 90 rfl (by decide +kernel)⟩ dd_Ro_init_1 (by decide) ⟨by decide, by decide⟩ ?_
  refine gf_aload_n C dd_Ro_init_4 0 rfl ?_
  refine gf_iload_n C dd_Ro_init_5 1 rfl ?_
  refine gf_newIk (N := 60) (k := 18) (cA0 := 0) rfl C (gf_mem 111 (by decide +kernel) (by decide +kernel)) dd_Ro_init_6 (by decide) (by decide) (by decide) (Nat.le_of_ble_eq_true rfl) (fun j => (gf_ups_new rfl).trans (hμ _ _ (by decide))) ⟨Nat.le_of_ble_eq_true rfl, Nat.le_of_ble_eq_true rfl⟩ ?_
  refine gf_ph (φ' := (1, 60, 19, gf_ups ρ [])) rfl ?_
  refine gf_putF (z := 0) (ty := .array .int) C hname gf_cl3 fl_Ro_7 dd_Ro_init_8 rfl rfl rfl rfl (by decide +kernel) (fun _ => ⟨rfl, rfl⟩) (show gf_is 19 17 0 3 2 by decide) (by decide) ?_
  refine gf_ph (φ' := (1, 60, 19, gf_ups ρ [(17, 0, 18)])) rfl ?_
  refine gf_aload_n C dd_Ro_init_11 0 rfl ?_
  refine gf_iconst C dd_Ro_init_12 ?_
  refine gf_putI (z := 1) C gf_cl3 fl_Ro_13 dd_Ro_init_13 rfl rfl rfl (by decide +kernel) (show gf_is 19 17 0 3 2 by decide) (by decide) ?_
  refine gf_pm (μ := gf_ups μ [(17, 1, (-1))]) rfl ?_
  exact gf_vret C hQ dd_Ro_init_16 rfl

set_option maxRecDepth 100000 in
set_option maxHeartbeats 4000000 in
theorem ct_Ro_init_19 (l : Launch) (E : gf_E) (ρ μ : gf_M) (hμ : ∀ k j : Int, 20 ≤ k → μ k j = 0) (hρ : ∀ k j : Int, 20 ≤ k → ρ k j = -1) : gf_MI l E yy_Ro_init cc_Ro_init 2 (gf_rmc 1 1 60 20) 20 ρ 1 60 21 (gf_ups ρ [(19, 0, 20)]) μ [.ref (gf_ad E 19), .int (gf_i 60)] (fun μ' => μ' = gf_ups μ [(19, 1, (-1))]) := by
  refine gf_mI (by decide +kernel) (Nat.le_of_ble_eq_true rfl) (by decide) (fun X Q hlx C hO hname hQ => ?_)
  subst hlx
  replace C : gf_C X E cc_Ro_init 2 "GuardFigures$Row" (gf_rmc 1 1 60 20) := C
  show gf_G X E Q 2 (0, 0, 20, gf_ups ρ []) (gf_ups μ []) 0 [(0, .ref (gf_ad E 19)), (1, .int (gf_i 60))] []
  refine gf_aload_n C dd_Ro_init_0 0 rfl ?_
  refine gf_objI C ⟨gf_mem 97 (by decide +kernel) (by decide +kernel), gf_mem 89 (by decide +kernel) (by decide +kernel), gf_mem 90 rfl (by decide +kernel)⟩ dd_Ro_init_1 (by decide) ⟨by decide, by decide⟩ ?_
  refine gf_aload_n C dd_Ro_init_4 0 rfl ?_
  refine gf_iload_n C dd_Ro_init_5 1 rfl ?_
  refine gf_newIk (N := 60) (k := 20) (cA0 := 0) rfl C (gf_mem 111 (by decide +kernel) (by decide +kernel)) dd_Ro_init_6 (by decide) (by decide) (by decide) (Nat.le_of_ble_eq_true rfl) (fun j => (gf_ups_new rfl).trans (hμ _ _ (by decide))) ⟨Nat.le_of_ble_eq_true rfl, Nat.le_of_ble_eq_true rfl⟩ ?_
  refine gf_ph (φ' := (1, 60, 21, gf_ups ρ [])) rfl ?_
  refine gf_putF (z := 0) (ty := .array .int) C hname gf_cl3 fl_Ro_7 dd_Ro_init_8 rfl rfl rfl rfl (by decide +kernel) (fun _ => ⟨rfl, rfl⟩) (show gf_is 21 19 0 3 2 by decide) (by decide) ?_
  refine gf_ph (φ' := (1, 60, 21, gf_ups ρ [(19, 0, 20)])) rfl ?_
  refine gf_aload_n C dd_Ro_init_11 0 rfl ?_
  refine gf_iconst C dd_Ro_init_12 ?_
  refine gf_putI (z := 1) C gf_cl3 fl_Ro_13 dd_Ro_init_13 rfl rfl rfl (by decide +kernel) (show gf_is 21 19 0 3 2 by decide) (by decide) ?_
  refine gf_pm (μ := gf_ups μ [(19, 1, (-1))]) rfl ?_
  exact gf_vret C hQ dd_Ro_init_16 rfl

set_option maxRecDepth 100000 in
set_option maxHeartbeats 4000000 in
theorem ct_Ro_init_21 (l : Launch) (E : gf_E) (ρ μ : gf_M) (hμ : ∀ k j : Int, 22 ≤ k → μ k j = 0) (hρ : ∀ k j : Int, 22 ≤ k → ρ k j = -1) : gf_MI l E yy_Ro_init cc_Ro_init 2 (gf_rmc 1 1 60 20) 22 ρ 1 60 23 (gf_ups ρ [(21, 0, 22)]) μ [.ref (gf_ad E 21), .int (gf_i 60)] (fun μ' => μ' = gf_ups μ [(21, 1, (-1))]) := by
  refine gf_mI (by decide +kernel) (Nat.le_of_ble_eq_true rfl) (by decide) (fun X Q hlx C hO hname hQ => ?_)
  subst hlx
  replace C : gf_C X E cc_Ro_init 2 "GuardFigures$Row" (gf_rmc 1 1 60 20) := C
  show gf_G X E Q 2 (0, 0, 22, gf_ups ρ []) (gf_ups μ []) 0 [(0, .ref (gf_ad E 21)), (1, .int (gf_i 60))] []
  refine gf_aload_n C dd_Ro_init_0 0 rfl ?_
  refine gf_objI C ⟨gf_mem 97 (by decide +kernel) (by decide +kernel), gf_mem 89 (by decide +kernel) (by decide +kernel), gf_mem 90 rfl (by decide +kernel)⟩ dd_Ro_init_1 (by decide) ⟨by decide, by decide⟩ ?_
  refine gf_aload_n C dd_Ro_init_4 0 rfl ?_
  refine gf_iload_n C dd_Ro_init_5 1 rfl ?_
  refine gf_newIk (N := 60) (k := 22) (cA0 := 0) rfl C (gf_mem 111 (by decide +kernel) (by decide +kernel)) dd_Ro_init_6 (by decide) (by decide) (by decide) (Nat.le_of_ble_eq_true rfl) (fun j => (gf_ups_new rfl).trans (hμ _ _ (by decide))) ⟨Nat.le_of_ble_eq_true rfl, Nat.le_of_ble_eq_true rfl⟩ ?_
  refine gf_ph (φ' := (1, 60, 23, gf_ups ρ [])) rfl ?_
  refine gf_putF (z := 0) (ty := .array .int) C hname gf_cl3 fl_Ro_7 dd_Ro_init_8 rfl rfl rfl rfl (by decide +kernel) (fun _ => ⟨rfl, rfl⟩) (show gf_is 23 21 0 3 2 by decide) (by decide) ?_
  refine gf_ph (φ' := (1, 60, 23, gf_ups ρ [(21, 0, 22)])) rfl ?_
  refine gf_aload_n C dd_Ro_init_11 0 rfl ?_
  refine gf_iconst C dd_Ro_init_12 ?_
  refine gf_putI (z := 1) C gf_cl3 fl_Ro_13 dd_Ro_init_13 rfl rfl rfl (by decide +kernel) (show gf_is 23 21 0 3 2 by decide) (by decide) ?_
  refine gf_pm (μ := gf_ups μ [(21, 1, (-1))]) rfl ?_
  exact gf_vret C hQ dd_Ro_init_16 rfl

set_option maxRecDepth 100000 in
set_option maxHeartbeats 4000000 in
theorem ct_Wr_init_32 (l : Launch) (E : gf_E) (ρ μ : gf_M) (hμ : ∀ k j : Int, 33 ≤ k → μ k j = 0) (hρ : ∀ k j : Int, 33 ≤ k → ρ k j = -1) : gf_MI l E yy_Wr_init cc_Wr_init 1 (gf_rmc 1 2 48 20) 33 ρ 2 48 35 (gf_ups ρ [(32, 3, 34), (32, 0, 33)]) μ [.ref (gf_ad E 32)] (fun μ' => μ' = gf_ups μ []) := by
  refine gf_mI (by decide +kernel) (Nat.le_of_ble_eq_true rfl) (by decide) (fun X Q hlx C hO hname hQ => ?_)
  subst hlx
  replace C : gf_C X E cc_Wr_init 1 "GuardFigures$Writing" (gf_rmc 1 2 48 20) := C
  show gf_G X E Q 1 (0, 0, 33, gf_ups ρ []) (gf_ups μ []) 0 [(0, .ref (gf_ad E 32))] []
  refine gf_aload_n C dd_Wr_init_0 0 rfl ?_
  refine gf_objI C ⟨gf_mem 141 (by decide +kernel) (by decide +kernel), gf_mem 89 (by decide +kernel) (by decide +kernel), gf_mem 90 rfl (by decide +kernel)⟩ dd_Wr_init_1 (by decide) ⟨by decide, by decide⟩ ?_
  refine gf_aload_n C dd_Wr_init_4 0 rfl ?_
  refine gf_bipush C dd_Wr_init_5 (by decide +kernel) ?_
  refine gf_newIk (N := 8) (k := 33) (cA0 := 0) rfl C (gf_mem 111 (by decide +kernel) (by decide +kernel)) dd_Wr_init_7 (by decide) (by decide) (by decide) (Nat.le_of_ble_eq_true rfl) (fun j => (gf_ups_new rfl).trans (hμ _ _ (by decide))) ⟨Nat.le_of_ble_eq_true rfl, Nat.le_of_ble_eq_true rfl⟩ ?_
  refine gf_ph (φ' := (1, 8, 34, gf_ups ρ [])) rfl ?_
  refine gf_putF (z := 0) (ty := .array .int) C hname gf_cl5 fl_Wr_9 dd_Wr_init_9 rfl rfl rfl rfl (by decide +kernel) (fun _ => ⟨rfl, rfl⟩) (show gf_is 34 32 0 5 5 by decide) (by decide) ?_
  refine gf_ph (φ' := (1, 8, 34, gf_ups ρ [(32, 0, 33)])) rfl ?_
  refine gf_aload_n C dd_Wr_init_12 0 rfl ?_
  refine gf_bipush C dd_Wr_init_13 (by decide +kernel) ?_
  refine gf_newIk (N := 40) (k := 34) (cA0 := 0) rfl C (gf_mem 111 (by decide +kernel) (by decide +kernel)) dd_Wr_init_15 (by decide) (by decide) (by decide) (Nat.le_of_ble_eq_true rfl) (fun j => (gf_ups_new rfl).trans (hμ _ _ (by decide))) ⟨Nat.le_of_ble_eq_true rfl, Nat.le_of_ble_eq_true rfl⟩ ?_
  refine gf_ph (φ' := (2, 48, 35, gf_ups ρ [(32, 0, 33)])) rfl ?_
  refine gf_putF (z := 3) (ty := .array .int) C hname gf_cl5 fl_Wr_15 dd_Wr_init_17 rfl rfl rfl rfl (by decide +kernel) (fun _ => ⟨rfl, rfl⟩) (show gf_is 35 32 0 5 5 by decide) (by decide) ?_
  refine gf_ph (φ' := (2, 48, 35, gf_ups ρ [(32, 3, 34), (32, 0, 33)])) rfl ?_
  exact gf_vret C hQ dd_Wr_init_20 rfl

set_option maxRecDepth 100000 in
set_option maxHeartbeats 4000000 in
theorem ct_Wr_init_35 (l : Launch) (E : gf_E) (ρ μ : gf_M) (hμ : ∀ k j : Int, 36 ≤ k → μ k j = 0) (hρ : ∀ k j : Int, 36 ≤ k → ρ k j = -1) : gf_MI l E yy_Wr_init cc_Wr_init 1 (gf_rmc 1 2 48 20) 36 ρ 2 48 38 (gf_ups ρ [(35, 3, 37), (35, 0, 36)]) μ [.ref (gf_ad E 35)] (fun μ' => μ' = gf_ups μ []) := by
  refine gf_mI (by decide +kernel) (Nat.le_of_ble_eq_true rfl) (by decide) (fun X Q hlx C hO hname hQ => ?_)
  subst hlx
  replace C : gf_C X E cc_Wr_init 1 "GuardFigures$Writing" (gf_rmc 1 2 48 20) := C
  show gf_G X E Q 1 (0, 0, 36, gf_ups ρ []) (gf_ups μ []) 0 [(0, .ref (gf_ad E 35))] []
  refine gf_aload_n C dd_Wr_init_0 0 rfl ?_
  refine gf_objI C ⟨gf_mem 141 (by decide +kernel) (by decide +kernel), gf_mem 89 (by decide +kernel) (by decide +kernel), gf_mem 90 rfl (by decide +kernel)⟩ dd_Wr_init_1 (by decide) ⟨by decide, by decide⟩ ?_
  refine gf_aload_n C dd_Wr_init_4 0 rfl ?_
  refine gf_bipush C dd_Wr_init_5 (by decide +kernel) ?_
  refine gf_newIk (N := 8) (k := 36) (cA0 := 0) rfl C (gf_mem 111 (by decide +kernel) (by decide +kernel)) dd_Wr_init_7 (by decide) (by decide) (by decide) (Nat.le_of_ble_eq_true rfl) (fun j => (gf_ups_new rfl).trans (hμ _ _ (by decide))) ⟨Nat.le_of_ble_eq_true rfl, Nat.le_of_ble_eq_true rfl⟩ ?_
  refine gf_ph (φ' := (1, 8, 37, gf_ups ρ [])) rfl ?_
  refine gf_putF (z := 0) (ty := .array .int) C hname gf_cl5 fl_Wr_9 dd_Wr_init_9 rfl rfl rfl rfl (by decide +kernel) (fun _ => ⟨rfl, rfl⟩) (show gf_is 37 35 0 5 5 by decide) (by decide) ?_
  refine gf_ph (φ' := (1, 8, 37, gf_ups ρ [(35, 0, 36)])) rfl ?_
  refine gf_aload_n C dd_Wr_init_12 0 rfl ?_
  refine gf_bipush C dd_Wr_init_13 (by decide +kernel) ?_
  refine gf_newIk (N := 40) (k := 37) (cA0 := 0) rfl C (gf_mem 111 (by decide +kernel) (by decide +kernel)) dd_Wr_init_15 (by decide) (by decide) (by decide) (Nat.le_of_ble_eq_true rfl) (fun j => (gf_ups_new rfl).trans (hμ _ _ (by decide))) ⟨Nat.le_of_ble_eq_true rfl, Nat.le_of_ble_eq_true rfl⟩ ?_
  refine gf_ph (φ' := (2, 48, 38, gf_ups ρ [(35, 0, 36)])) rfl ?_
  refine gf_putF (z := 3) (ty := .array .int) C hname gf_cl5 fl_Wr_15 dd_Wr_init_17 rfl rfl rfl rfl (by decide +kernel) (fun _ => ⟨rfl, rfl⟩) (show gf_is 38 35 0 5 5 by decide) (by decide) ?_
  refine gf_ph (φ' := (2, 48, 38, gf_ups ρ [(35, 3, 37), (35, 0, 36)])) rfl ?_
  exact gf_vret C hQ dd_Wr_init_20 rfl

set_option maxRecDepth 100000 in
set_option maxHeartbeats 4000000 in
theorem ct_Wr_init_38 (l : Launch) (E : gf_E) (ρ μ : gf_M) (hμ : ∀ k j : Int, 39 ≤ k → μ k j = 0) (hρ : ∀ k j : Int, 39 ≤ k → ρ k j = -1) : gf_MI l E yy_Wr_init cc_Wr_init 1 (gf_rmc 1 2 48 20) 39 ρ 2 48 41 (gf_ups ρ [(38, 3, 40), (38, 0, 39)]) μ [.ref (gf_ad E 38)] (fun μ' => μ' = gf_ups μ []) := by
  refine gf_mI (by decide +kernel) (Nat.le_of_ble_eq_true rfl) (by decide) (fun X Q hlx C hO hname hQ => ?_)
  subst hlx
  replace C : gf_C X E cc_Wr_init 1 "GuardFigures$Writing" (gf_rmc 1 2 48 20) := C
  show gf_G X E Q 1 (0, 0, 39, gf_ups ρ []) (gf_ups μ []) 0 [(0, .ref (gf_ad E 38))] []
  refine gf_aload_n C dd_Wr_init_0 0 rfl ?_
  refine gf_objI C ⟨gf_mem 141 (by decide +kernel) (by decide +kernel), gf_mem 89 (by decide +kernel) (by decide +kernel), gf_mem 90 rfl (by decide +kernel)⟩ dd_Wr_init_1 (by decide) ⟨by decide, by decide⟩ ?_
  refine gf_aload_n C dd_Wr_init_4 0 rfl ?_
  refine gf_bipush C dd_Wr_init_5 (by decide +kernel) ?_
  refine gf_newIk (N := 8) (k := 39) (cA0 := 0) rfl C (gf_mem 111 (by decide +kernel) (by decide +kernel)) dd_Wr_init_7 (by decide) (by decide) (by decide) (Nat.le_of_ble_eq_true rfl) (fun j => (gf_ups_new rfl).trans (hμ _ _ (by decide))) ⟨Nat.le_of_ble_eq_true rfl, Nat.le_of_ble_eq_true rfl⟩ ?_
  refine gf_ph (φ' := (1, 8, 40, gf_ups ρ [])) rfl ?_
  refine gf_putF (z := 0) (ty := .array .int) C hname gf_cl5 fl_Wr_9 dd_Wr_init_9 rfl rfl rfl rfl (by decide +kernel) (fun _ => ⟨rfl, rfl⟩) (show gf_is 40 38 0 5 5 by decide) (by decide) ?_
  refine gf_ph (φ' := (1, 8, 40, gf_ups ρ [(38, 0, 39)])) rfl ?_
  refine gf_aload_n C dd_Wr_init_12 0 rfl ?_
  refine gf_bipush C dd_Wr_init_13 (by decide +kernel) ?_
  refine gf_newIk (N := 40) (k := 40) (cA0 := 0) rfl C (gf_mem 111 (by decide +kernel) (by decide +kernel)) dd_Wr_init_15 (by decide) (by decide) (by decide) (Nat.le_of_ble_eq_true rfl) (fun j => (gf_ups_new rfl).trans (hμ _ _ (by decide))) ⟨Nat.le_of_ble_eq_true rfl, Nat.le_of_ble_eq_true rfl⟩ ?_
  refine gf_ph (φ' := (2, 48, 41, gf_ups ρ [(38, 0, 39)])) rfl ?_
  refine gf_putF (z := 3) (ty := .array .int) C hname gf_cl5 fl_Wr_15 dd_Wr_init_17 rfl rfl rfl rfl (by decide +kernel) (fun _ => ⟨rfl, rfl⟩) (show gf_is 41 38 0 5 5 by decide) (by decide) ?_
  refine gf_ph (φ' := (2, 48, 41, gf_ups ρ [(38, 3, 40), (38, 0, 39)])) rfl ?_
  exact gf_vret C hQ dd_Wr_init_20 rfl

set_option maxRecDepth 100000 in
set_option maxHeartbeats 4000000 in
theorem ct_Wr_init_41 (l : Launch) (E : gf_E) (ρ μ : gf_M) (hμ : ∀ k j : Int, 42 ≤ k → μ k j = 0) (hρ : ∀ k j : Int, 42 ≤ k → ρ k j = -1) : gf_MI l E yy_Wr_init cc_Wr_init 1 (gf_rmc 1 2 48 20) 42 ρ 2 48 44 (gf_ups ρ [(41, 3, 43), (41, 0, 42)]) μ [.ref (gf_ad E 41)] (fun μ' => μ' = gf_ups μ []) := by
  refine gf_mI (by decide +kernel) (Nat.le_of_ble_eq_true rfl) (by decide) (fun X Q hlx C hO hname hQ => ?_)
  subst hlx
  replace C : gf_C X E cc_Wr_init 1 "GuardFigures$Writing" (gf_rmc 1 2 48 20) := C
  show gf_G X E Q 1 (0, 0, 42, gf_ups ρ []) (gf_ups μ []) 0 [(0, .ref (gf_ad E 41))] []
  refine gf_aload_n C dd_Wr_init_0 0 rfl ?_
  refine gf_objI C ⟨gf_mem 141 (by decide +kernel) (by decide +kernel), gf_mem 89 (by decide +kernel) (by decide +kernel), gf_mem 90 rfl (by decide +kernel)⟩ dd_Wr_init_1 (by decide) ⟨by decide, by decide⟩ ?_
  refine gf_aload_n C dd_Wr_init_4 0 rfl ?_
  refine gf_bipush C dd_Wr_init_5 (by decide +kernel) ?_
  refine gf_newIk (N := 8) (k := 42) (cA0 := 0) rfl C (gf_mem 111 (by decide +kernel) (by decide +kernel)) dd_Wr_init_7 (by decide) (by decide) (by decide) (Nat.le_of_ble_eq_true rfl) (fun j => (gf_ups_new rfl).trans (hμ _ _ (by decide))) ⟨Nat.le_of_ble_eq_true rfl, Nat.le_of_ble_eq_true rfl⟩ ?_
  refine gf_ph (φ' := (1, 8, 43, gf_ups ρ [])) rfl ?_
  refine gf_putF (z := 0) (ty := .array .int) C hname gf_cl5 fl_Wr_9 dd_Wr_init_9 rfl rfl rfl rfl (by decide +kernel) (fun _ => ⟨rfl, rfl⟩) (show gf_is 43 41 0 5 5 by decide) (by decide) ?_
  refine gf_ph (φ' := (1, 8, 43, gf_ups ρ [(41, 0, 42)])) rfl ?_
  refine gf_aload_n C dd_Wr_init_12 0 rfl ?_
  refine gf_bipush C dd_Wr_init_13 (by decide +kernel) ?_
  refine gf_newIk (N := 40) (k := 43) (cA0 := 0) rfl C (gf_mem 111 (by decide +kernel) (by decide +kernel)) dd_Wr_init_15 (by decide) (by decide) (by decide) (Nat.le_of_ble_eq_true rfl) (fun j => (gf_ups_new rfl).trans (hμ _ _ (by decide))) ⟨Nat.le_of_ble_eq_true rfl, Nat.le_of_ble_eq_true rfl⟩ ?_
  refine gf_ph (φ' := (2, 48, 44, gf_ups ρ [(41, 0, 42)])) rfl ?_
  refine gf_putF (z := 3) (ty := .array .int) C hname gf_cl5 fl_Wr_15 dd_Wr_init_17 rfl rfl rfl rfl (by decide +kernel) (fun _ => ⟨rfl, rfl⟩) (show gf_is 44 41 0 5 5 by decide) (by decide) ?_
  refine gf_ph (φ' := (2, 48, 44, gf_ups ρ [(41, 3, 43), (41, 0, 42)])) rfl ?_
  exact gf_vret C hQ dd_Wr_init_20 rfl

set_option maxRecDepth 100000 in
set_option maxHeartbeats 4000000 in
theorem ct_Re_init_44 (l : Launch) (E : gf_E) (ρ μ : gf_M) (hμ : ∀ k j : Int, 45 ≤ k → μ k j = 0) (hρ : ∀ k j : Int, 45 ≤ k → ρ k j = -1) : gf_MI l E yy_Re_init cc_Re_init 2 (gf_rmc 2 8 28 40) 45 ρ 8 28 53 (gf_ups ρ [(45, 6, 52), (45, 5, 51), (45, 4, 50), (45, 3, 49), (45, 2, 48), (45, 1, 47), (45, 0, 46), (44, 0, 45)]) μ [.ref (gf_ad E 44)] (fun μ' => μ' = gf_ups μ []) := by
  refine gf_mI (by decide +kernel) (Nat.le_of_ble_eq_true rfl) (by decide) (fun X Q hlx C hO hname hQ => ?_)
  subst hlx
  replace C : gf_C X E cc_Re_init 2 "GuardFigures$Reader" (gf_rmc 2 8 28 40) := C
  show gf_G X E Q 2 (0, 0, 45, gf_ups ρ []) (gf_ups μ []) 0 [(0, .ref (gf_ad E 44))] []
  refine gf_aload_n C dd_Re_init_0 0 rfl ?_
  refine gf_objI C ⟨gf_mem 170 (by decide +kernel) (by decide +kernel), gf_mem 89 (by decide +kernel) (by decide +kernel), gf_mem 90 rfl (by decide +kernel)⟩ dd_Re_init_1 (by decide) ⟨by decide, by decide⟩ ?_
  refine gf_aload_n C dd_Re_init_4 0 rfl ?_
  refine gf_bipush C dd_Re_init_5 (by decide +kernel) ?_
  refine gf_newQk (N := 7) (k := 45) (c := 4) rfl C hO.2.1 (gf_mem 171 (by decide +kernel) (by decide +kernel)) rfl (by decide) dd_Re_init_7 (by decide) (by decide) (by decide) (Nat.le_of_ble_eq_true rfl) (fun j => (gf_ups_new rfl).trans (hρ _ _ (by decide))) ⟨Nat.le_of_ble_eq_true rfl, Nat.le_of_ble_eq_true rfl⟩ ?_
  refine gf_ph (φ' := (1, 7, 46, gf_ups ρ [])) rfl ?_
  refine gf_putF (z := 0) (ty := .array (.object "GuardFigures$Guard")) C hname gf_cl2 fl_Re_11 dd_Re_init_10 rfl rfl rfl rfl (by decide +kernel) (fun _ => ⟨rfl, rfl⟩) (show gf_is 46 44 0 2 2 by decide) (by decide) ?_
  refine gf_ph (φ' := (1, 7, 46, gf_ups ρ [(44, 0, 45)])) rfl ?_
  refine gf_iconst C dd_Re_init_13 ?_
  refine gf_istore_n (lv' := [(1, .int (gf_i 0)), (0, .ref (gf_ad E 44))]) C dd_Re_init_14 (by decide) rfl ?_
  refine gf_iload_n C dd_Re_init_15 0 rfl ?_
  refine gf_bipush C dd_Re_init_16 (by decide +kernel) ?_
  refine gf_icmp_ge 40 C dd_Re_init_18 (by decide) (by decide) (by decide) (fun h18 => absurd h18 (by decide)) (fun h18 => ?_)
  refine gf_aload_n C dd_Re_init_21 1 rfl ?_
  refine gf_getA (r := 45) C gf_cl2 fl_Re_11 dd_Re_init_22 rfl (show gf_is 46 44 0 2 2 by decide) rfl (by decide) ?_
  refine gf_iload_n C dd_Re_init_25 0 rfl ?_
  refine gf_newO (k := 46) rfl C gf_cl0 gf_ty0 (by decide +kernel) ⟨gf_mem 171 (by decide +kernel) (by decide +kernel), gf_mem 114 (by decide +kernel) (by decide +kernel), gf_mem 74 (by decide +kernel) (by decide +kernel)⟩ dd_Re_init_26 (by decide) (Nat.le_of_ble_eq_true rfl) (fun j => (gf_ups_new rfl).trans (hμ _ _ (by decide))) (fun j => (gf_ups_new rfl).trans (hρ _ _ (by decide))) ⟨Nat.le_of_ble_eq_true rfl, Nat.le_of_ble_eq_true rfl⟩ ?_
  refine gf_ph (φ' := (2, 10, 47, gf_ups ρ [(44, 0, 45)])) rfl ?_
  refine gf_dup C dd_Re_init_29 rfl ?_
  refine gf_callIN (st := [.ref (gf_ad E 46), .int (gf_i 0), .ref (gf_ad E 45)]) (As := []) C hO gf_kGdi C.2.2.2.2.2.2.1.2.2.2.2.2.2.2.1 (ct_Gd_init (gf_xl X) E 46 47 (gf_ups ρ [(44, 0, 45)]) (gf_ups μ []) (by decide)) rfl ⟨rfl, rfl⟩ ⟨Nat.le_of_ble_eq_true rfl, Nat.le_of_ble_eq_true rfl⟩ (Nat.le_of_ble_eq_true rfl) rfl dd_Re_init_30 (fun m30 hp30 => ?_)
  refine gf_ph (φ' := (2, 10, 47, gf_ups ρ [(44, 0, 45)])) rfl ?_
  refine gf_pm hp30 ?_
  refine gf_aast C rfl gf_cl0 dd_Re_init_33 (show gf_is 47 45 4 4 7 by decide) (show gf_is 47 46 0 0 3 by decide) (by decide) ?_
  refine gf_ph (φ' := (2, 10, 47, gf_ups ρ [(45, 0, 46), (44, 0, 45)])) rfl ?_
  refine gf_iinc (q := 0) (v := 1) (lv' := [(1, .int (gf_i 1)), (0, .ref (gf_ad E 44))]) C dd_Re_init_34 rfl (show (1 : Int) = 0 + 1 by decide) (by decide) rfl ?_
  refine gf_goto 15 C dd_Re_init_37 (by decide) ?_
  refine gf_iload_n C dd_Re_init_15 0 rfl ?_
  refine gf_bipush C dd_Re_init_16 (by decide +kernel) ?_
  refine gf_icmp_ge 40 C dd_Re_init_18 (by decide) (by decide) (by decide) (fun h18 => absurd h18 (by decide)) (fun h18 => ?_)
  refine gf_aload_n C dd_Re_init_21 1 rfl ?_
  refine gf_getA (r := 45) C gf_cl2 fl_Re_11 dd_Re_init_22 rfl (show gf_is 47 44 0 2 2 by decide) rfl (by decide) ?_
  refine gf_iload_n C dd_Re_init_25 0 rfl ?_
  refine gf_newO (k := 47) rfl C gf_cl0 gf_ty0 (by decide +kernel) ⟨gf_mem 171 (by decide +kernel) (by decide +kernel), gf_mem 114 (by decide +kernel) (by decide +kernel), gf_mem 74 (by decide +kernel) (by decide +kernel)⟩ dd_Re_init_26 (by decide) (Nat.le_of_ble_eq_true rfl) (fun j => (gf_ups_new rfl).trans (hμ _ _ (by decide))) (fun j => (gf_ups_new rfl).trans (hρ _ _ (by decide))) ⟨Nat.le_of_ble_eq_true rfl, Nat.le_of_ble_eq_true rfl⟩ ?_
  refine gf_ph (φ' := (3, 13, 48, gf_ups ρ [(45, 0, 46), (44, 0, 45)])) rfl ?_
  refine gf_dup C dd_Re_init_29 rfl ?_
  refine gf_callIN (st := [.ref (gf_ad E 47), .int (gf_i 1), .ref (gf_ad E 45)]) (As := []) C hO gf_kGdi C.2.2.2.2.2.2.1.2.2.2.2.2.2.2.1 (ct_Gd_init (gf_xl X) E 47 48 (gf_ups ρ [(45, 0, 46), (44, 0, 45)]) (gf_ups μ []) (by decide)) rfl ⟨rfl, rfl⟩ ⟨Nat.le_of_ble_eq_true rfl, Nat.le_of_ble_eq_true rfl⟩ (Nat.le_of_ble_eq_true rfl) rfl dd_Re_init_30 (fun m30 hp30 => ?_)
  refine gf_ph (φ' := (3, 13, 48, gf_ups ρ [(45, 0, 46), (44, 0, 45)])) rfl ?_
  refine gf_pm hp30 ?_
  refine gf_aast C rfl gf_cl0 dd_Re_init_33 (show gf_is 48 45 4 4 7 by decide) (show gf_is 48 47 0 0 3 by decide) (by decide) ?_
  refine gf_ph (φ' := (3, 13, 48, gf_ups ρ [(45, 1, 47), (45, 0, 46), (44, 0, 45)])) rfl ?_
  refine gf_iinc (q := 0) (v := 2) (lv' := [(1, .int (gf_i 2)), (0, .ref (gf_ad E 44))]) C dd_Re_init_34 rfl (show (2 : Int) = 1 + 1 by decide) (by decide) rfl ?_
  refine gf_goto 15 C dd_Re_init_37 (by decide) ?_
  refine gf_iload_n C dd_Re_init_15 0 rfl ?_
  refine gf_bipush C dd_Re_init_16 (by decide +kernel) ?_
  refine gf_icmp_ge 40 C dd_Re_init_18 (by decide) (by decide) (by decide) (fun h18 => absurd h18 (by decide)) (fun h18 => ?_)
  refine gf_aload_n C dd_Re_init_21 1 rfl ?_
  refine gf_getA (r := 45) C gf_cl2 fl_Re_11 dd_Re_init_22 rfl (show gf_is 48 44 0 2 2 by decide) rfl (by decide) ?_
  refine gf_iload_n C dd_Re_init_25 0 rfl ?_
  refine gf_newO (k := 48) rfl C gf_cl0 gf_ty0 (by decide +kernel) ⟨gf_mem 171 (by decide +kernel) (by decide +kernel), gf_mem 114 (by decide +kernel) (by decide +kernel), gf_mem 74 (by decide +kernel) (by decide +kernel)⟩ dd_Re_init_26 (by decide) (Nat.le_of_ble_eq_true rfl) (fun j => (gf_ups_new rfl).trans (hμ _ _ (by decide))) (fun j => (gf_ups_new rfl).trans (hρ _ _ (by decide))) ⟨Nat.le_of_ble_eq_true rfl, Nat.le_of_ble_eq_true rfl⟩ ?_
  refine gf_ph (φ' := (4, 16, 49, gf_ups ρ [(45, 1, 47), (45, 0, 46), (44, 0, 45)])) rfl ?_
  refine gf_dup C dd_Re_init_29 rfl ?_
  refine gf_callIN (st := [.ref (gf_ad E 48), .int (gf_i 2), .ref (gf_ad E 45)]) (As := []) C hO gf_kGdi C.2.2.2.2.2.2.1.2.2.2.2.2.2.2.1 (ct_Gd_init (gf_xl X) E 48 49 (gf_ups ρ [(45, 1, 47), (45, 0, 46), (44, 0, 45)]) (gf_ups μ []) (by decide)) rfl ⟨rfl, rfl⟩ ⟨Nat.le_of_ble_eq_true rfl, Nat.le_of_ble_eq_true rfl⟩ (Nat.le_of_ble_eq_true rfl) rfl dd_Re_init_30 (fun m30 hp30 => ?_)
  refine gf_ph (φ' := (4, 16, 49, gf_ups ρ [(45, 1, 47), (45, 0, 46), (44, 0, 45)])) rfl ?_
  refine gf_pm hp30 ?_
  refine gf_aast C rfl gf_cl0 dd_Re_init_33 (show gf_is 49 45 4 4 7 by decide) (show gf_is 49 48 0 0 3 by decide) (by decide) ?_
  refine gf_ph (φ' := (4, 16, 49, gf_ups ρ [(45, 2, 48), (45, 1, 47), (45, 0, 46), (44, 0, 45)])) rfl ?_
  refine gf_iinc (q := 0) (v := 3) (lv' := [(1, .int (gf_i 3)), (0, .ref (gf_ad E 44))]) C dd_Re_init_34 rfl (show (3 : Int) = 2 + 1 by decide) (by decide) rfl ?_
  refine gf_goto 15 C dd_Re_init_37 (by decide) ?_
  refine gf_iload_n C dd_Re_init_15 0 rfl ?_
  refine gf_bipush C dd_Re_init_16 (by decide +kernel) ?_
  refine gf_icmp_ge 40 C dd_Re_init_18 (by decide) (by decide) (by decide) (fun h18 => absurd h18 (by decide)) (fun h18 => ?_)
  refine gf_aload_n C dd_Re_init_21 1 rfl ?_
  refine gf_getA (r := 45) C gf_cl2 fl_Re_11 dd_Re_init_22 rfl (show gf_is 49 44 0 2 2 by decide) rfl (by decide) ?_
  refine gf_iload_n C dd_Re_init_25 0 rfl ?_
  refine gf_newO (k := 49) rfl C gf_cl0 gf_ty0 (by decide +kernel) ⟨gf_mem 171 (by decide +kernel) (by decide +kernel), gf_mem 114 (by decide +kernel) (by decide +kernel), gf_mem 74 (by decide +kernel) (by decide +kernel)⟩ dd_Re_init_26 (by decide) (Nat.le_of_ble_eq_true rfl) (fun j => (gf_ups_new rfl).trans (hμ _ _ (by decide))) (fun j => (gf_ups_new rfl).trans (hρ _ _ (by decide))) ⟨Nat.le_of_ble_eq_true rfl, Nat.le_of_ble_eq_true rfl⟩ ?_
  refine gf_ph (φ' := (5, 19, 50, gf_ups ρ [(45, 2, 48), (45, 1, 47), (45, 0, 46), (44, 0, 45)])) rfl ?_
  refine gf_dup C dd_Re_init_29 rfl ?_
  refine gf_callIN (st := [.ref (gf_ad E 49), .int (gf_i 3), .ref (gf_ad E 45)]) (As := []) C hO gf_kGdi C.2.2.2.2.2.2.1.2.2.2.2.2.2.2.1 (ct_Gd_init (gf_xl X) E 49 50 (gf_ups ρ [(45, 2, 48), (45, 1, 47), (45, 0, 46), (44, 0, 45)]) (gf_ups μ []) (by decide)) rfl ⟨rfl, rfl⟩ ⟨Nat.le_of_ble_eq_true rfl, Nat.le_of_ble_eq_true rfl⟩ (Nat.le_of_ble_eq_true rfl) rfl dd_Re_init_30 (fun m30 hp30 => ?_)
  refine gf_ph (φ' := (5, 19, 50, gf_ups ρ [(45, 2, 48), (45, 1, 47), (45, 0, 46), (44, 0, 45)])) rfl ?_
  refine gf_pm hp30 ?_
  refine gf_aast C rfl gf_cl0 dd_Re_init_33 (show gf_is 50 45 4 4 7 by decide) (show gf_is 50 49 0 0 3 by decide) (by decide) ?_
  refine gf_ph (φ' := (5, 19, 50, gf_ups ρ [(45, 3, 49), (45, 2, 48), (45, 1, 47), (45, 0, 46), (44, 0, 45)])) rfl ?_
  refine gf_iinc (q := 0) (v := 4) (lv' := [(1, .int (gf_i 4)), (0, .ref (gf_ad E 44))]) C dd_Re_init_34 rfl (show (4 : Int) = 3 + 1 by decide) (by decide) rfl ?_
  refine gf_goto 15 C dd_Re_init_37 (by decide) ?_
  refine gf_iload_n C dd_Re_init_15 0 rfl ?_
  refine gf_bipush C dd_Re_init_16 (by decide +kernel) ?_
  refine gf_icmp_ge 40 C dd_Re_init_18 (by decide) (by decide) (by decide) (fun h18 => absurd h18 (by decide)) (fun h18 => ?_)
  refine gf_aload_n C dd_Re_init_21 1 rfl ?_
  refine gf_getA (r := 45) C gf_cl2 fl_Re_11 dd_Re_init_22 rfl (show gf_is 50 44 0 2 2 by decide) rfl (by decide) ?_
  refine gf_iload_n C dd_Re_init_25 0 rfl ?_
  refine gf_newO (k := 50) rfl C gf_cl0 gf_ty0 (by decide +kernel) ⟨gf_mem 171 (by decide +kernel) (by decide +kernel), gf_mem 114 (by decide +kernel) (by decide +kernel), gf_mem 74 (by decide +kernel) (by decide +kernel)⟩ dd_Re_init_26 (by decide) (Nat.le_of_ble_eq_true rfl) (fun j => (gf_ups_new rfl).trans (hμ _ _ (by decide))) (fun j => (gf_ups_new rfl).trans (hρ _ _ (by decide))) ⟨Nat.le_of_ble_eq_true rfl, Nat.le_of_ble_eq_true rfl⟩ ?_
  refine gf_ph (φ' := (6, 22, 51, gf_ups ρ [(45, 3, 49), (45, 2, 48), (45, 1, 47), (45, 0, 46), (44, 0, 45)])) rfl ?_
  refine gf_dup C dd_Re_init_29 rfl ?_
  refine gf_callIN (st := [.ref (gf_ad E 50), .int (gf_i 4), .ref (gf_ad E 45)]) (As := []) C hO gf_kGdi C.2.2.2.2.2.2.1.2.2.2.2.2.2.2.1 (ct_Gd_init (gf_xl X) E 50 51 (gf_ups ρ [(45, 3, 49), (45, 2, 48), (45, 1, 47), (45, 0, 46), (44, 0, 45)]) (gf_ups μ []) (by decide)) rfl ⟨rfl, rfl⟩ ⟨Nat.le_of_ble_eq_true rfl, Nat.le_of_ble_eq_true rfl⟩ (Nat.le_of_ble_eq_true rfl) rfl dd_Re_init_30 (fun m30 hp30 => ?_)
  refine gf_ph (φ' := (6, 22, 51, gf_ups ρ [(45, 3, 49), (45, 2, 48), (45, 1, 47), (45, 0, 46), (44, 0, 45)])) rfl ?_
  refine gf_pm hp30 ?_
  refine gf_aast C rfl gf_cl0 dd_Re_init_33 (show gf_is 51 45 4 4 7 by decide) (show gf_is 51 50 0 0 3 by decide) (by decide) ?_
  refine gf_ph (φ' := (6, 22, 51, gf_ups ρ [(45, 4, 50), (45, 3, 49), (45, 2, 48), (45, 1, 47), (45, 0, 46), (44, 0, 45)])) rfl ?_
  refine gf_iinc (q := 0) (v := 5) (lv' := [(1, .int (gf_i 5)), (0, .ref (gf_ad E 44))]) C dd_Re_init_34 rfl (show (5 : Int) = 4 + 1 by decide) (by decide) rfl ?_
  refine gf_goto 15 C dd_Re_init_37 (by decide) ?_
  refine gf_iload_n C dd_Re_init_15 0 rfl ?_
  refine gf_bipush C dd_Re_init_16 (by decide +kernel) ?_
  refine gf_icmp_ge 40 C dd_Re_init_18 (by decide) (by decide) (by decide) (fun h18 => absurd h18 (by decide)) (fun h18 => ?_)
  refine gf_aload_n C dd_Re_init_21 1 rfl ?_
  refine gf_getA (r := 45) C gf_cl2 fl_Re_11 dd_Re_init_22 rfl (show gf_is 51 44 0 2 2 by decide) rfl (by decide) ?_
  refine gf_iload_n C dd_Re_init_25 0 rfl ?_
  refine gf_newO (k := 51) rfl C gf_cl0 gf_ty0 (by decide +kernel) ⟨gf_mem 171 (by decide +kernel) (by decide +kernel), gf_mem 114 (by decide +kernel) (by decide +kernel), gf_mem 74 (by decide +kernel) (by decide +kernel)⟩ dd_Re_init_26 (by decide) (Nat.le_of_ble_eq_true rfl) (fun j => (gf_ups_new rfl).trans (hμ _ _ (by decide))) (fun j => (gf_ups_new rfl).trans (hρ _ _ (by decide))) ⟨Nat.le_of_ble_eq_true rfl, Nat.le_of_ble_eq_true rfl⟩ ?_
  refine gf_ph (φ' := (7, 25, 52, gf_ups ρ [(45, 4, 50), (45, 3, 49), (45, 2, 48), (45, 1, 47), (45, 0, 46), (44, 0, 45)])) rfl ?_
  refine gf_dup C dd_Re_init_29 rfl ?_
  refine gf_callIN (st := [.ref (gf_ad E 51), .int (gf_i 5), .ref (gf_ad E 45)]) (As := []) C hO gf_kGdi C.2.2.2.2.2.2.1.2.2.2.2.2.2.2.1 (ct_Gd_init (gf_xl X) E 51 52 (gf_ups ρ [(45, 4, 50), (45, 3, 49), (45, 2, 48), (45, 1, 47), (45, 0, 46), (44, 0, 45)]) (gf_ups μ []) (by decide)) rfl ⟨rfl, rfl⟩ ⟨Nat.le_of_ble_eq_true rfl, Nat.le_of_ble_eq_true rfl⟩ (Nat.le_of_ble_eq_true rfl) rfl dd_Re_init_30 (fun m30 hp30 => ?_)
  refine gf_ph (φ' := (7, 25, 52, gf_ups ρ [(45, 4, 50), (45, 3, 49), (45, 2, 48), (45, 1, 47), (45, 0, 46), (44, 0, 45)])) rfl ?_
  refine gf_pm hp30 ?_
  refine gf_aast C rfl gf_cl0 dd_Re_init_33 (show gf_is 52 45 4 4 7 by decide) (show gf_is 52 51 0 0 3 by decide) (by decide) ?_
  refine gf_ph (φ' := (7, 25, 52, gf_ups ρ [(45, 5, 51), (45, 4, 50), (45, 3, 49), (45, 2, 48), (45, 1, 47), (45, 0, 46), (44, 0, 45)])) rfl ?_
  refine gf_iinc (q := 0) (v := 6) (lv' := [(1, .int (gf_i 6)), (0, .ref (gf_ad E 44))]) C dd_Re_init_34 rfl (show (6 : Int) = 5 + 1 by decide) (by decide) rfl ?_
  refine gf_goto 15 C dd_Re_init_37 (by decide) ?_
  refine gf_iload_n C dd_Re_init_15 0 rfl ?_
  refine gf_bipush C dd_Re_init_16 (by decide +kernel) ?_
  refine gf_icmp_ge 40 C dd_Re_init_18 (by decide) (by decide) (by decide) (fun h18 => absurd h18 (by decide)) (fun h18 => ?_)
  refine gf_aload_n C dd_Re_init_21 1 rfl ?_
  refine gf_getA (r := 45) C gf_cl2 fl_Re_11 dd_Re_init_22 rfl (show gf_is 52 44 0 2 2 by decide) rfl (by decide) ?_
  refine gf_iload_n C dd_Re_init_25 0 rfl ?_
  refine gf_newO (k := 52) rfl C gf_cl0 gf_ty0 (by decide +kernel) ⟨gf_mem 171 (by decide +kernel) (by decide +kernel), gf_mem 114 (by decide +kernel) (by decide +kernel), gf_mem 74 (by decide +kernel) (by decide +kernel)⟩ dd_Re_init_26 (by decide) (Nat.le_of_ble_eq_true rfl) (fun j => (gf_ups_new rfl).trans (hμ _ _ (by decide))) (fun j => (gf_ups_new rfl).trans (hρ _ _ (by decide))) ⟨Nat.le_of_ble_eq_true rfl, Nat.le_of_ble_eq_true rfl⟩ ?_
  refine gf_ph (φ' := (8, 28, 53, gf_ups ρ [(45, 5, 51), (45, 4, 50), (45, 3, 49), (45, 2, 48), (45, 1, 47), (45, 0, 46), (44, 0, 45)])) rfl ?_
  refine gf_dup C dd_Re_init_29 rfl ?_
  refine gf_callIN (st := [.ref (gf_ad E 52), .int (gf_i 6), .ref (gf_ad E 45)]) (As := []) C hO gf_kGdi C.2.2.2.2.2.2.1.2.2.2.2.2.2.2.1 (ct_Gd_init (gf_xl X) E 52 53 (gf_ups ρ [(45, 5, 51), (45, 4, 50), (45, 3, 49), (45, 2, 48), (45, 1, 47), (45, 0, 46), (44, 0, 45)]) (gf_ups μ []) (by decide)) rfl ⟨rfl, rfl⟩ ⟨Nat.le_of_ble_eq_true rfl, Nat.le_of_ble_eq_true rfl⟩ (Nat.le_of_ble_eq_true rfl) rfl dd_Re_init_30 (fun m30 hp30 => ?_)
  refine gf_ph (φ' := (8, 28, 53, gf_ups ρ [(45, 5, 51), (45, 4, 50), (45, 3, 49), (45, 2, 48), (45, 1, 47), (45, 0, 46), (44, 0, 45)])) rfl ?_
  refine gf_pm hp30 ?_
  refine gf_aast C rfl gf_cl0 dd_Re_init_33 (show gf_is 53 45 4 4 7 by decide) (show gf_is 53 52 0 0 3 by decide) (by decide) ?_
  refine gf_ph (φ' := (8, 28, 53, gf_ups ρ [(45, 6, 52), (45, 5, 51), (45, 4, 50), (45, 3, 49), (45, 2, 48), (45, 1, 47), (45, 0, 46), (44, 0, 45)])) rfl ?_
  refine gf_iinc (q := 0) (v := 7) (lv' := [(1, .int (gf_i 7)), (0, .ref (gf_ad E 44))]) C dd_Re_init_34 rfl (show (7 : Int) = 6 + 1 by decide) (by decide) rfl ?_
  refine gf_goto 15 C dd_Re_init_37 (by decide) ?_
  refine gf_iload_n C dd_Re_init_15 0 rfl ?_
  refine gf_bipush C dd_Re_init_16 (by decide +kernel) ?_
  refine gf_icmp_ge 40 C dd_Re_init_18 (by decide) (by decide) (by decide) (fun h18 => ?_) (fun h18 => absurd (by decide) h18)
  exact gf_vret C hQ dd_Re_init_40 rfl

set_option maxRecDepth 100000 in
set_option maxHeartbeats 4000000 in
theorem ct_Wa_init_53 (l : Launch) (E : gf_E) (ρ μ : gf_M) (hμ : ∀ k j : Int, 54 ≤ k → μ k j = 0) (hρ : ∀ k j : Int, 54 ≤ k → ρ k j = -1) : gf_MI l E yy_Wa_init cc_Wa_init 1 (gf_rmc 1 5 194 20) 54 ρ 5 194 59 (gf_ups ρ [(53, 5, 58), (53, 4, 57), (53, 3, 56), (53, 1, 55), (53, 0, 54)]) μ [.ref (gf_ad E 53)] (fun μ' => μ' = gf_ups μ []) := by
  refine gf_mI (by decide +kernel) (Nat.le_of_ble_eq_true rfl) (by decide) (fun X Q hlx C hO hname hQ => ?_)
  subst hlx
  replace C : gf_C X E cc_Wa_init 1 "GuardFigures$Watch" (gf_rmc 1 5 194 20) := C
  show gf_G X E Q 1 (0, 0, 54, gf_ups ρ []) (gf_ups μ []) 0 [(0, .ref (gf_ad E 53))] []
  refine gf_aload_n C dd_Wa_init_0 0 rfl ?_
  refine gf_objI C ⟨gf_mem 187 (by decide +kernel) (by decide +kernel), gf_mem 89 (by decide +kernel) (by decide +kernel), gf_mem 90 rfl (by decide +kernel)⟩ dd_Wa_init_1 (by decide) ⟨by decide, by decide⟩ ?_
  refine gf_aload_n C dd_Wa_init_4 0 rfl ?_
  refine gf_bipush C dd_Wa_init_5 (by decide +kernel) ?_
  refine gf_newIk (N := 88) (k := 54) (cA0 := 0) rfl C (gf_mem 111 (by decide +kernel) (by decide +kernel)) dd_Wa_init_7 (by decide) (by decide) (by decide) (Nat.le_of_ble_eq_true rfl) (fun j => (gf_ups_new rfl).trans (hμ _ _ (by decide))) ⟨Nat.le_of_ble_eq_true rfl, Nat.le_of_ble_eq_true rfl⟩ ?_
  refine gf_ph (φ' := (1, 88, 55, gf_ups ρ [])) rfl ?_
  refine gf_putF (z := 0) (ty := .array .int) C hname gf_cl4 fl_Wa_11 dd_Wa_init_9 rfl rfl rfl rfl (by decide +kernel) (fun _ => ⟨rfl, rfl⟩) (show gf_is 55 53 0 4 6 by decide) (by decide) ?_
  refine gf_ph (φ' := (1, 88, 55, gf_ups ρ [(53, 0, 54)])) rfl ?_
  refine gf_aload_n C dd_Wa_init_12 0 rfl ?_
  refine gf_bipush C dd_Wa_init_13 (by decide +kernel) ?_
  refine gf_newIk (N := 88) (k := 55) (cA0 := 0) rfl C (gf_mem 111 (by decide +kernel) (by decide +kernel)) dd_Wa_init_15 (by decide) (by decide) (by decide) (Nat.le_of_ble_eq_true rfl) (fun j => (gf_ups_new rfl).trans (hμ _ _ (by decide))) ⟨Nat.le_of_ble_eq_true rfl, Nat.le_of_ble_eq_true rfl⟩ ?_
  refine gf_ph (φ' := (2, 176, 56, gf_ups ρ [(53, 0, 54)])) rfl ?_
  refine gf_putF (z := 1) (ty := .array .int) C hname gf_cl4 fl_Wa_15 dd_Wa_init_17 rfl rfl rfl rfl (by decide +kernel) (fun _ => ⟨rfl, rfl⟩) (show gf_is 56 53 0 4 6 by decide) (by decide) ?_
  refine gf_ph (φ' := (2, 176, 56, gf_ups ρ [(53, 1, 55), (53, 0, 54)])) rfl ?_
  refine gf_aload_n C dd_Wa_init_20 0 rfl ?_
  refine gf_iconst C dd_Wa_init_21 ?_
  refine gf_newIk (N := 3) (k := 56) (cA0 := 0) rfl C (gf_mem 111 (by decide +kernel) (by decide +kernel)) dd_Wa_init_22 (by decide) (by decide) (by decide) (Nat.le_of_ble_eq_true rfl) (fun j => (gf_ups_new rfl).trans (hμ _ _ (by decide))) ⟨Nat.le_of_ble_eq_true rfl, Nat.le_of_ble_eq_true rfl⟩ ?_
  refine gf_ph (φ' := (3, 179, 57, gf_ups ρ [(53, 1, 55), (53, 0, 54)])) rfl ?_
  refine gf_putF (z := 3) (ty := .array .int) C hname gf_cl4 fl_Wa_18 dd_Wa_init_24 rfl rfl rfl rfl (by decide +kernel) (fun _ => ⟨rfl, rfl⟩) (show gf_is 57 53 0 4 6 by decide) (by decide) ?_
  refine gf_ph (φ' := (3, 179, 57, gf_ups ρ [(53, 3, 56), (53, 1, 55), (53, 0, 54)])) rfl ?_
  refine gf_aload_n C dd_Wa_init_27 0 rfl ?_
  refine gf_bipush C dd_Wa_init_28 (by decide +kernel) ?_
  refine gf_newIk (N := 8) (k := 57) (cA0 := 0) rfl C (gf_mem 111 (by decide +kernel) (by decide +kernel)) dd_Wa_init_30 (by decide) (by decide) (by decide) (Nat.le_of_ble_eq_true rfl) (fun j => (gf_ups_new rfl).trans (hμ _ _ (by decide))) ⟨Nat.le_of_ble_eq_true rfl, Nat.le_of_ble_eq_true rfl⟩ ?_
  refine gf_ph (φ' := (4, 187, 58, gf_ups ρ [(53, 3, 56), (53, 1, 55), (53, 0, 54)])) rfl ?_
  refine gf_putF (z := 4) (ty := .array .int) C hname gf_cl4 fl_Wa_21 dd_Wa_init_32 rfl rfl rfl rfl (by decide +kernel) (fun _ => ⟨rfl, rfl⟩) (show gf_is 58 53 0 4 6 by decide) (by decide) ?_
  refine gf_ph (φ' := (4, 187, 58, gf_ups ρ [(53, 4, 57), (53, 3, 56), (53, 1, 55), (53, 0, 54)])) rfl ?_
  refine gf_aload_n C dd_Wa_init_35 0 rfl ?_
  refine gf_bipush C dd_Wa_init_36 (by decide +kernel) ?_
  refine gf_newIk (N := 7) (k := 58) (cA0 := 0) rfl C (gf_mem 111 (by decide +kernel) (by decide +kernel)) dd_Wa_init_38 (by decide) (by decide) (by decide) (Nat.le_of_ble_eq_true rfl) (fun j => (gf_ups_new rfl).trans (hμ _ _ (by decide))) ⟨Nat.le_of_ble_eq_true rfl, Nat.le_of_ble_eq_true rfl⟩ ?_
  refine gf_ph (φ' := (5, 194, 59, gf_ups ρ [(53, 4, 57), (53, 3, 56), (53, 1, 55), (53, 0, 54)])) rfl ?_
  refine gf_putF (z := 5) (ty := .array .int) C hname gf_cl4 fl_Wa_24 dd_Wa_init_40 rfl rfl rfl rfl (by decide +kernel) (fun _ => ⟨rfl, rfl⟩) (show gf_is 59 53 0 4 6 by decide) (by decide) ?_
  refine gf_ph (φ' := (5, 194, 59, gf_ups ρ [(53, 5, 58), (53, 4, 57), (53, 3, 56), (53, 1, 55), (53, 0, 54)])) rfl ?_
  exact gf_vret C hQ dd_Wa_init_43 rfl

set_option maxRecDepth 100000 in
set_option maxHeartbeats 4000000 in
theorem ct_Ou_init_59 (l : Launch) (E : gf_E) (ρ μ : gf_M) (hμ : ∀ k j : Int, 60 ≤ k → μ k j = 0) (hρ : ∀ k j : Int, 60 ≤ k → ρ k j = -1) : gf_MI l E yy_Ou_init cc_Ou_init 1 (gf_rmc 1 1 99 20) 60 ρ 1 99 61 (gf_ups ρ [(59, 0, 60)]) μ [.ref (gf_ad E 59)] (fun μ' => μ' = gf_ups μ []) := by
  refine gf_mI (by decide +kernel) (Nat.le_of_ble_eq_true rfl) (by decide) (fun X Q hlx C hO hname hQ => ?_)
  subst hlx
  replace C : gf_C X E cc_Ou_init 1 "GuardFigures$Outlook" (gf_rmc 1 1 99 20) := C
  show gf_G X E Q 1 (0, 0, 60, gf_ups ρ []) (gf_ups μ []) 0 [(0, .ref (gf_ad E 59))] []
  refine gf_aload_n C dd_Ou_init_0 0 rfl ?_
  refine gf_objI C ⟨gf_mem 213 (by decide +kernel) (by decide +kernel), gf_mem 89 (by decide +kernel) (by decide +kernel), gf_mem 90 rfl (by decide +kernel)⟩ dd_Ou_init_1 (by decide) ⟨by decide, by decide⟩ ?_
  refine gf_aload_n C dd_Ou_init_4 0 rfl ?_
  refine gf_bipush C dd_Ou_init_5 (by decide +kernel) ?_
  refine gf_newLk (N := 99) (k := 60) (cA0 := 1) rfl C (gf_mem 222 (by decide +kernel) (by decide +kernel)) dd_Ou_init_7 (by decide) (by decide) (by decide) (Nat.le_of_ble_eq_true rfl) (fun j => (gf_ups_new rfl).trans (hμ _ _ (by decide))) ⟨Nat.le_of_ble_eq_true rfl, Nat.le_of_ble_eq_true rfl⟩ ?_
  refine gf_ph (φ' := (1, 99, 61, gf_ups ρ [])) rfl ?_
  refine gf_putF (z := 0) (ty := .array .long) C hname gf_cl1 fl_Ou_11 dd_Ou_init_9 rfl rfl rfl rfl (by decide +kernel) (fun _ => ⟨rfl, rfl⟩) (show gf_is 61 59 0 1 2 by decide) (by decide) ?_
  refine gf_ph (φ' := (1, 99, 61, gf_ups ρ [(59, 0, 60)])) rfl ?_
  exact gf_vret C hQ dd_Ou_init_12 rfl
