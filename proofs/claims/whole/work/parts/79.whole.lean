set_option maxRecDepth 100000 in
set_option maxHeartbeats 4000000 in
theorem whole_start {p : Program} {e : Env} {s : State} {m : MethodId} {below : List Frame} {meth : Method} {c : Code} (l : Launch) (hflags : l.flags = flags0) {b L : Nat} {xs : Nat → Int32} (hL : L ≤ 3072) (C0 : lw_At p s m meth c b L xs) : W p l e room_1 s m #[Value.ref b] below meth c s.heap [] 0 0 (lw_Z below #[Value.ref b] s) (entryFrame m ([Value.ref b] : List Value).toArray 4) := by
  obtain ⟨hx, hb, hr, hml, hown, hts, hX, hbl, hlocks, hgv⟩ := id C0
  have htg : ∀ w ∈ gf_tbl, w.before #[Value.ref b] s = true := fun w hw => hts w (List.mem_filter.mp hw).1
  have fl := flat_of_before _ hgv
  have hAq : ∀ a : Nat, a < s.heap.size → ¬ (fun q : Nat => s.heap.size ≤ q) a := fun a ha => Nat.not_le.mpr ha
  obtain ⟨c0, i0, k0⟩ := u_known (C := "GuardFigures$Guard") (T := gf_T0) (N := 3) (n := 3) htg gf_in0 (htg _ (gf_mem 114 (by decide +kernel) (by decide +kernel)))
  obtain ⟨c1, i1, k1⟩ := u_known (C := "GuardFigures$Outlook") (T := gf_T1) (N := 2) (n := 2) htg gf_in1 (htg _ (gf_mem 209 (by decide +kernel) (by decide +kernel)))
  obtain ⟨c2, i2, k2⟩ := u_known (C := "GuardFigures$Reader") (T := gf_T2) (N := 2) (n := 2) htg gf_in2 (htg _ (gf_mem 166 (by decide +kernel) (by decide +kernel)))
  obtain ⟨c3, i3, k3⟩ := u_known (C := "GuardFigures$Row") (T := gf_T3) (N := 2) (n := 2) htg gf_in3 (htg _ (gf_mem 93 (by decide +kernel) (by decide +kernel)))
  obtain ⟨c4, i4, k4⟩ := u_known (C := "GuardFigures$Watch") (T := gf_T4) (N := 6) (n := 6) htg gf_in4 (htg _ (gf_mem 183 (by decide +kernel) (by decide +kernel)))
  obtain ⟨c5, i5, k5⟩ := u_known (C := "GuardFigures$Writing") (T := gf_T5) (N := 5) (n := 5) htg gf_in5 (htg _ (gf_mem 137 (by decide +kernel) (by decide +kernel)))
  obtain ⟨c6, i6, k6⟩ := u_known (C := "GuardFigures") (T := gf_T6) (N := 17) (n := 17) htg gf_in6 (htg _ (gf_mem 84 (by decide +kernel) (by decide +kernel)))
  obtain ⟨c7, i7, k7⟩ := u_known (C := "GuardFiguresModel") (T := gf_T7) (N := 26) (n := 26) htg gf_in7 (htg _ (gf_mem 779 (by decide +kernel) (by decide +kernel)))
  obtain ⟨dC, dI, hKc⟩ : ∃ (dC : Nat → ClassId) (dI : Nat → Nat → Nat), ∀ (k : Nat) (q : vw_C), gf_cls[k]? = some q → u_Kn s q.1 q.2.1 q.2.2 (dC k) (dI k) := by
    refine ⟨fun k => match k with | 0 => c0 | 1 => c1 | 2 => c2 | 3 => c3 | 4 => c4 | 5 => c5 | 6 => c6 | _ => c7, fun k => match k with | 0 => i0 | 1 => i1 | 2 => i2 | 3 => i3 | 4 => i4 | 5 => i5 | 6 => i6 | _ => i7, ?_⟩
    intro k q hq
    match k, hq with
    | 0, hq => cases hq; exact k0
    | 1, hq => cases hq; exact k1
    | 2, hq => cases hq; exact k2
    | 3, hq => cases hq; exact k3
    | 4, hq => cases hq; exact k4
    | 5, hq => cases hq; exact k5
    | 6, hq => cases hq; exact k6
    | 7, hq => cases hq; exact k7
    | k + 8, hq => simp [gf_cls] at hq
  obtain ⟨a0, y0, z0, f0, g0, h0⟩ := Cond.arrayClass_spec (type := .int) (args := #[Value.ref b]) (s := s) (hts _ (List.mem_of_getElem? (i := 111) (by decide +kernel)))
  obtain ⟨a1, y1, z1, f1, g1, h1⟩ := Cond.arrayClass_spec (type := .long) (args := #[Value.ref b]) (s := s) (hts _ (List.mem_of_getElem? (i := 222) (by decide +kernel)))
  obtain ⟨a2, y2, z2, f2, g2, h2⟩ := Cond.arrayClass_spec (type := .byte) (args := #[Value.ref b]) (s := s) (hts _ (List.mem_of_getElem? (i := 863) (by decide +kernel)))
  obtain ⟨z3, a3, y3, e3, f3, g3, h3, j3⟩ := Cond.arrayOver_spec (n := "GuardFigures$Row") (args := #[Value.ref b]) (s := s) (hts _ (List.mem_of_getElem? (i := 92) (by decide +kernel)))
  obtain ⟨z4, a4, y4, e4, f4, g4, h4, j4⟩ := Cond.arrayOver_spec (n := "GuardFigures$Guard") (args := #[Value.ref b]) (s := s) (hts _ (List.mem_of_getElem? (i := 113) (by decide +kernel)))
  obtain ⟨z5, a5, y5, e5, f5, g5, h5, j5⟩ := Cond.arrayOver_spec (n := "GuardFigures$Writing") (args := #[Value.ref b]) (s := s) (hts _ (List.mem_of_getElem? (i := 136) (by decide +kernel)))
  obtain ⟨tL, uL, wL⟩ := va_Tof (tm := (Term.static "GuardFigures" "LETTERS" "[I")) (ty := .int) (N := 6) (f := gf_LET) (A := fun q : Nat => s.heap.size ≤ q) (by decide) (fl (Cond.arrayOf (Term.static "GuardFigures" "LETTERS" "[I") .int) (by decide +kernel)) (va_eqt (z := 6) (fl (Cond.eq (Term.length (Term.static "GuardFigures" "LETTERS" "[I")) (.int 6)) (by decide +kernel))) (fun j hj => by
      match j, hj with
      | 0, _ => exact (va_eqt (z := (103)) (fl (Cond.eq (Term.elem (Term.static "GuardFigures" "LETTERS" "[I") (.int 0)) (.int (103))) (by decide +kernel))).trans (congrArg (fun z => some (Value.int z)) (show (103 : Int32) = gf_i (103) by decide +kernel))
      | 1, _ => exact (va_eqt (z := (101)) (fl (Cond.eq (Term.elem (Term.static "GuardFigures" "LETTERS" "[I") (.int 1)) (.int (101))) (by decide +kernel))).trans (congrArg (fun z => some (Value.int z)) (show (101 : Int32) = gf_i (101) by decide +kernel))
      | 2, _ => exact (va_eqt (z := (99)) (fl (Cond.eq (Term.elem (Term.static "GuardFigures" "LETTERS" "[I") (.int 2)) (.int (99))) (by decide +kernel))).trans (congrArg (fun z => some (Value.int z)) (show (99 : Int32) = gf_i (99) by decide +kernel))
      | 3, _ => exact (va_eqt (z := (104)) (fl (Cond.eq (Term.elem (Term.static "GuardFigures" "LETTERS" "[I") (.int 3)) (.int (104))) (by decide +kernel))).trans (congrArg (fun z => some (Value.int z)) (show (104 : Int32) = gf_i (104) by decide +kernel))
      | 4, _ => exact (va_eqt (z := (98)) (fl (Cond.eq (Term.elem (Term.static "GuardFigures" "LETTERS" "[I") (.int 4)) (.int (98))) (by decide +kernel))).trans (congrArg (fun z => some (Value.int z)) (show (98 : Int32) = gf_i (98) by decide +kernel))
      | 5, _ => exact (va_eqt (z := (100)) (fl (Cond.eq (Term.elem (Term.static "GuardFigures" "LETTERS" "[I") (.int 5)) (.int (100))) (by decide +kernel))).trans (congrArg (fun z => some (Value.int z)) (show (100 : Int32) = gf_i (100) by decide +kernel))
      | j + 6, h => exact absurd h (by omega)) hAq
  obtain ⟨tA, uA, wA⟩ := va_Tof (tm := (Term.static "GuardFigures" "ABOVE" "[I")) (ty := .int) (N := 6) (f := gf_ABO) (A := fun q : Nat => s.heap.size ≤ q) (by decide) (fl (Cond.arrayOf (Term.static "GuardFigures" "ABOVE" "[I") .int) (by decide +kernel)) (va_eqt (z := 6) (fl (Cond.eq (Term.length (Term.static "GuardFigures" "ABOVE" "[I")) (.int 6)) (by decide +kernel))) (fun j hj => by
      match j, hj with
      | 0, _ => exact (va_eqt (z := (-1)) (fl (Cond.eq (Term.elem (Term.static "GuardFigures" "ABOVE" "[I") (.int 0)) (.int (-1))) (by decide +kernel))).trans (congrArg (fun z => some (Value.int z)) (show (-1 : Int32) = gf_i (-1) by decide +kernel))
      | 1, _ => exact (va_eqt (z := (0)) (fl (Cond.eq (Term.elem (Term.static "GuardFigures" "ABOVE" "[I") (.int 1)) (.int (0))) (by decide +kernel))).trans (congrArg (fun z => some (Value.int z)) (show (0 : Int32) = gf_i (0) by decide +kernel))
      | 2, _ => exact (va_eqt (z := (0)) (fl (Cond.eq (Term.elem (Term.static "GuardFigures" "ABOVE" "[I") (.int 2)) (.int (0))) (by decide +kernel))).trans (congrArg (fun z => some (Value.int z)) (show (0 : Int32) = gf_i (0) by decide +kernel))
      | 3, _ => exact (va_eqt (z := (0)) (fl (Cond.eq (Term.elem (Term.static "GuardFigures" "ABOVE" "[I") (.int 3)) (.int (0))) (by decide +kernel))).trans (congrArg (fun z => some (Value.int z)) (show (0 : Int32) = gf_i (0) by decide +kernel))
      | 4, _ => exact (va_eqt (z := (1)) (fl (Cond.eq (Term.elem (Term.static "GuardFigures" "ABOVE" "[I") (.int 4)) (.int (1))) (by decide +kernel))).trans (congrArg (fun z => some (Value.int z)) (show (1 : Int32) = gf_i (1) by decide +kernel))
      | 5, _ => exact (va_eqt (z := (2)) (fl (Cond.eq (Term.elem (Term.static "GuardFigures" "ABOVE" "[I") (.int 5)) (.int (2))) (by decide +kernel))).trans (congrArg (fun z => some (Value.int z)) (show (2 : Int32) = gf_i (2) by decide +kernel))
      | j + 6, h => exact absurd h (by omega)) hAq
  obtain ⟨E, hE⟩ : ∃ E : gf_E, E = (s.heap.size, (dC, dI), (fun k => match k with | 0 => a0 | 1 => a1 | 2 => a2 | 3 => a3 | 4 => a4 | _ => a5 : Nat → ClassId), tL, tA) := ⟨_, rfl⟩
  have hS : gf_S E s s.heap := by
    rw [hE]
    exact ⟨va_Zref (hts _ (List.mem_of_getElem? (i := 368) (by decide +kernel))) (hts _ (List.mem_of_getElem? (i := 72) (by decide +kernel))) uL hAq, wL, va_Zref (hts _ (List.mem_of_getElem? (i := 463) (by decide +kernel))) (hts _ (List.mem_of_getElem? (i := 72) (by decide +kernel))) uA hAq, wA, va_Nw.of rfl (hts _ (List.mem_of_getElem? (i := 367) (by decide +kernel))), va_Nw.of rfl (hts _ (List.mem_of_getElem? (i := 462) (by decide +kernel))), va_Nw.of rfl (hts _ (List.mem_of_getElem? (i := 115) (by decide +kernel))), va_Nw.of rfl (hts _ (List.mem_of_getElem? (i := 172) (by decide +kernel))), va_Nw.of rfl (hts _ (List.mem_of_getElem? (i := 369) (by decide +kernel))), va_Nw.of rfl (hts _ (List.mem_of_getElem? (i := 439) (by decide +kernel))), va_Nw.of rfl (hts _ (List.mem_of_getElem? (i := 593) (by decide +kernel))), va_Nw.of rfl (hts _ (List.mem_of_getElem? (i := 716) (by decide +kernel)))⟩
  have hK : va_K E.2.1 gf_cls (gf_tys E) s := by
    rw [hE]
    refine ⟨hKc, fun k q hq => ?_⟩
    match k, hq with
    | 0, hq => cases hq; exact ⟨fun n z => ⟨fun k h => (by cases h), y0, g0, z0, h0⟩, f0⟩
    | 1, hq => cases hq; exact ⟨fun n z => ⟨fun k h => (by cases h), y1, g1, z1, h1⟩, f1⟩
    | 2, hq => cases hq; exact ⟨fun n z => ⟨fun k h => (by cases h), y2, g2, z2, h2⟩, f2⟩
    | 3, hq => cases hq; exact ⟨fun n z => ⟨fun k h => (by cases h), y3, g3, z3, h3⟩, ⟨y3, z3, g3, h3, e3, j3⟩⟩
    | 4, hq => cases hq; exact ⟨fun n z => ⟨fun k h => (by cases h), y4, g4, z4, h4⟩, ⟨y4, z4, g4, h4, e4, j4⟩⟩
    | 5, hq => cases hq; exact ⟨fun n z => ⟨fun k h => (by cases h), y5, g5, z5, h5⟩, ⟨y5, z5, g5, h5, e5, j5⟩⟩
    | k + 6, hq => simp [gf_tys] at hq
  have hE1 : E.1 = s.heap.size := by rw [hE]
  obtain ⟨X, hXe⟩ : ∃ X : gf_X, X = (p, l, e, room_1, s, m, #[Value.ref b], below, meth, c) := ⟨_, rfl⟩
  have C : gf_C X E code 4 "GuardFiguresLaw" room_1 := by rw [hXe]; exact ⟨hx, hb, hml, hown, htg, hK, hS, rfl, by rw [hE1]; exact Nat.le_refl _⟩
  have S : la_S X E b L xs := by rw [hXe]; exact ⟨hX, hbl, by rw [hE1]; exact hbl, hL⟩
  have hO : gf_O (gf_xs X) := by rw [hXe]; exact ⟨va_AO.of (hts _ (List.mem_of_getElem? (i := 92) (by decide +kernel))), va_AO.of (hts _ (List.mem_of_getElem? (i := 113) (by decide +kernel))), va_AO.of (hts _ (List.mem_of_getElem? (i := 136) (by decide +kernel)))⟩
  have hend : ∀ (μ : gf_M) (lv : List (Nat × Value)), gf_G X E (lw_Z below #[Value.ref b] s) 4 la_φ μ 1362 lv [.int (gf_i 1)] := by
    intro μ lv H locs ls hl hW hS1
    subst hXe
    show W p l e room_1 s m #[Value.ref b] below meth c H locs 81 13358 (lw_Z below #[Value.ref b] s) (F0 m 1362 ls [.int (gf_i 1)])
    refine va_forget (fun q hq => by have h : E.1 ≤ q.base := hS1.2.2 q hq; rw [hE1] at h; exact h) ?_
    refine W.widen (k := 600000) (n := 7302250) (Nat.le_of_ble_eq_true rfl) (Nat.le_of_ble_eq_true rfl) ?_
    rw [show gf_i 1 = 1 by decide +kernel]
    exact lw_ret hx hb hr hlocks dd_La_1362
  have key := la_start C S hO hend
  have hl := lv_entry ([.ref b]) (n := 4) (Nat.le_of_ble_eq_true rfl)
  rw [lg_entry_eq]
  generalize (lg_sl ([.ref b]) ++ List.replicate (4 - (lg_sl ([.ref b])).length) Slot.unset).toArray = ls at hl ⊢
  have hl : lv_has ls 4 [(0, .ref b)] := hl
  subst hXe
  exact key s.heap [] ls hl ⟨fun _ => by rw [hE1]; rfl, fun k q h => by simp [gf_ws] at h, fun k j => gf_rg_R (show gf_R (0 : Int) by decide)⟩ va_S.rf
set_option maxHeartbeats 4000000 in
theorem lw_walk (l : Launch) (hflags : l.flags = flags0) (b : Addr) (xs : List Int32) : MetFree l x (headSpec (Jvm.Cond.code x code maxLocals ret :: tables_1) room_1) (lw_P b xs) (fun _ _ _ _ _ => True) lw_Q := by
  refine MetFree.of_bodyS (code := code) (maxLocals := maxLocals) (ret := ret) (by decide) ?_ ?_
  · intro args s m h hn
    obtain ⟨meth, c, h1, h2, h3, h4, h5, h6, -, -⟩ := Cond.code_spec hn (atoms_spec (ws := Jvm.Cond.code x code maxLocals ret :: tables_1) h _ List.mem_cons_self)
    exact ⟨meth, c, h1, h2, h3, h4, h5, h6⟩
  · intro p e s m args below meth c s₁ B hml0 hP _
    obtain ⟨rfl, hx, hbd, hgv⟩ := hP
    obtain ⟨scr, harrAt, hlist, hof, hsmall⟩ := hx
    obtain ⟨hcb, hkn, -, -⟩ := State.arrayAt?_spec harrAt
    have hown : s.vm.findClass R_law = some m.cls := findClass_of_methodNamed B.named
    have hts0 : ∀ c ∈ (Jvm.Cond.code x code maxLocals ret :: tables_1), c.before #[Value.ref b] s = true := atoms_spec (ws := Jvm.Cond.code x code maxLocals ret :: tables_1) B.pre
    have hts : ∀ w ∈ lw_tbl, w.before #[Value.ref b] s = true := k2_hts_sels lw_privs (fun w hw => hts0 w (List.mem_cons_of_mem _ hw)) lw_privs_ok
    have hml : c.maxLocals = 4 := B.maxLocals_eq (hts0 _ List.mem_cons_self)
    have X₀ : Stand p l e room_1 s m #[Value.ref b] below meth c s₁ [] 0 0 := Stand.of_body B
    have hh0 : s₁.heap = s.heap := by rw [B.state]; rfl
    have hsz : scr.slots.size = xs.length := by rw [← Array.length_toList, hlist, List.length_map]
    have hval : ∀ j : Nat, j < xs.length → scr.slots[j]? = some (.int (xs.getD j 0)) := fun j hj => by
      rw [← Array.getElem?_toList, hlist]
      simp [hj]
    have hbl : b < s.heap.size := (Array.getElem?_eq_some_iff.mp hcb).1
    have hX : va_X b xs.length (fun j => xs.getD j 0) s s.heap := ⟨scr, hcb, hof, hkn, hsz, hval⟩
    have K : W p l e room_1 s m #[Value.ref b] below meth c s₁.heap [] 0 0 (lw_Z below #[Value.ref b] s) (entryFrame m ([Value.ref b] : List Value).toArray 4) := by
      rw [hh0]
      exact whole_start l hflags hbd ⟨B.exec, B.bytes, B.returns, hml, hown, hts, hX, hbl, B.notSynchronized, hgv⟩
    obtain ⟨t, a1, o, b1, b2, b3⟩ := K s₁ rfl X₀
    exact ⟨t, o, a1, b1, b2, b3⟩
theorem lw_pre_spec {args : Array Value} {s : State} (h : (Jvm.Cond.and given_1 narrow_1).before args s = true) (hr : rest_1_c.before args s = true) : ∃ (b : Addr) (xs : List Int32), lw_P b xs args s := by
  have hs := flat_of_before _ h
  have hq := flat_of_before _ hr
  have hc : (Cond.count 1).before args s = true := hs _ (by decide +kernel)
  have harr : (Cond.arrayOf (.arg 0) .int).before args s = true := hs _ (by decide +kernel)
  have hle : (Cond.le (.length (.arg 0)) (.int 3072)).before args s = true := hs _ (by decide +kernel)
  have hlen : (Cond.isInt (.length (.arg 0))).before args s = true := hq _ (by decide +kernel)
  have hall : (Cond.all (.arg 0) (.isInt (.elem (.arg 0) (.index 0)))).before args s = true := hq _ (by decide +kernel)
  obtain ⟨b, xs, hb, hx⟩ := State.ints_of_pre rfl harr hlen hall
  have hsm : xs.length < 2 ^ 31 := hx.choose_spec.2.2.2
  have hev : (Term.length (.arg 0)).eval args s none [] s = some (.int xs.length.toInt32) := hx.length_eval hb
  have hv := Cond.le_ints hev (show (Term.int 3072).eval args s none [] s = some (.int 3072) from rfl)
  have hd : xs.length.toInt32 ≤ 3072 := by
    simpa [Cond.before, Cond.holds, hv] using hle
  have hN : xs.length ≤ 3072 := (Int32.ofNat_le_ofNat hsm (by decide)).mp (show Int32.ofNat xs.length ≤ Int32.ofNat 3072 from hd)
  exact ⟨b, xs, Cond.one_arg hc (show args[0]? = some (.ref b) from hb), hx, hN, h⟩
theorem lw_comes (l : Launch) (hflags : l.flags = flags0) : Comes l x (Jvm.Cond.code x code maxLocals ret :: tables_1) room_1 (fun tb e args s => Calls_1 tb e args s ∧ rest_1 tb e args s ∧ Pre_1 tb e args s)
    (fun _ _ args s o t => lw_Q args s o t) := by
  intro p e ha hc hk s m args below hf hfit hheap happ hpre
  obtain ⟨b, xs, hP⟩ := lw_pre_spec hpre.2.2 hpre.2.1
  obtain ⟨k, o, h1, h2, h3, hQ⟩ := lw_walk l hflags b xs p e ha hc hk s m args below hf ((Spec.applies_iff_loose hf).mp happ).1 hP trivial
  exact ⟨k, o, h1, h2, h3, hQ⟩
theorem lw_frame {s t : State} {o : Outcome} {args : Array Value} (h : Framed s o t [] 600000 7302250) :
    Framed s o t (fieldLocs frame_1_writes args s ++ arrayLocs frame_1_arrays args s ++ staticLocs frame_1_statics s) 600000 7302250 := h
theorem lw_limb (L : Cond) (hL : ∀ (args : Array Value) (s t : State), L.after args s (.returned (some (.int 1))) t = true) :
    ArmFor flags0 classFile x code maxLocals ret World_1 tables_1 room_1 Calls_1 rest_1 Pre_1
      (fun tb e a s o t => postC L tb e a s o t ∧ Framed s o t (fieldLocs frame_1_writes a s ++ arrayLocs frame_1_arrays a s ++ staticLocs frame_1_statics s) 600000 7302250) := by
  intro l hflags _ _ p e ha hc hk s m args below hf hfit hheap happ hpre
  obtain ⟨k, o, h1, h2, h3, rfl, hF⟩ := lw_comes l hflags p e ha hc hk s m args below hf hfit hheap happ hpre
  exact ⟨k, _, h1, h2, h3, hL args s _, lw_frame hF⟩
theorem i_vc : Claimed_1_1 ∧ Claimed_1_2 := ⟨lw_limb limb_1_1 (fun args s t => by simp [limb_1_1, Cond.after, Cond.holds, Cond.value]), lw_limb limb_1_2 (fun args s t => Cond.after_iff.mpr (by
  first | (rw [show limb_1_2 = Cond.eq .result (.int 1) from rfl, Cond.eq_ints (x := 1) (y := 1) rfl rfl]; simp; done) | (simp [limb_1_2, Cond.value, Term.eval]; done)))⟩
