/-! rows of the heap: fields, arrays, statics, returns -/
/-- a class of the list, its words in the tables, its fields' types and names -/
def gf_cl (ci : Nat) (Cn : String) (T : u_T) (N : Nat) : Prop := gf_cls[ci]? = some (Cn, T, N) ∧ (∀ w ∈ u_ws Cn T N, w ∈ gf_tbl) ∧ (∃ ty0 : Nat → FieldType, ∀ k, k < N → parseFieldDescriptor (T k).2.2.1 = some (ty0 k)) ∧ (∀ a, a < N → ∀ b, b < N → a ≠ b → (T a).2.1 ≠ (T b).2.1)
theorem gf_cl0 : gf_cl 0 "GuardFigures$Guard" gf_T0 3 := ⟨rfl, gf_in0, ⟨_, gf_ty0⟩, gf_nm0⟩
theorem gf_cl1 : gf_cl 1 "GuardFigures$Outlook" gf_T1 2 := ⟨rfl, gf_in1, ⟨_, gf_ty1⟩, gf_nm1⟩
theorem gf_cl2 : gf_cl 2 "GuardFigures$Reader" gf_T2 2 := ⟨rfl, gf_in2, ⟨_, gf_ty2⟩, gf_nm2⟩
theorem gf_cl3 : gf_cl 3 "GuardFigures$Row" gf_T3 2 := ⟨rfl, gf_in3, ⟨_, gf_ty3⟩, gf_nm3⟩
theorem gf_cl4 : gf_cl 4 "GuardFigures$Watch" gf_T4 6 := ⟨rfl, gf_in4, ⟨_, gf_ty4⟩, gf_nm4⟩
theorem gf_cl5 : gf_cl 5 "GuardFigures$Writing" gf_T5 5 := ⟨rfl, gf_in5, ⟨_, gf_ty5⟩, gf_nm5⟩
theorem gf_cl6 : gf_cl 6 "GuardFigures" gf_T6 17 := ⟨rfl, gf_in6, ⟨_, gf_ty6⟩, gf_nm6⟩
theorem gf_cl7 : gf_cl 7 "GuardFiguresModel" gf_T7 26 := ⟨rfl, gf_in7, ⟨_, gf_ty7⟩, gf_nm7⟩
/-- the pool entry 'index' of the class 'own' is the field j of a class -/
def gf_fl (own : String) (index j : Nat) (T : u_T) (N : Nat) : Prop := j < N ∧ Cond.fieldLink own index (T j).1 (T j).2.1 (T j).2.2.1 ∈ gf_tbl
theorem gf_fs_at {E : gf_E} {c N j : Nat} {r m : Int → Int} (hj : j < N) : ((List.range N).map fun j => gf_fv E (gf_ft c j) (r j) (m j))[j]? = some (gf_fv E (gf_ft c j) (r j) (m j)) := by
  simp [List.getElem?_range hj]
theorem gf_fs_set {E : gf_E} {c N j : Nat} {r m r' m' : Int → Int} {v : Value} (hj : j < N) (hv : v = gf_fv E (gf_ft c j) (r' j) (m' j)) (hm : ∀ i : Nat, i ≠ j → m' i = m i) (hr : ∀ i : Nat, i ≠ j → r' i = r i) : ((List.range N).map fun j => gf_fv E (gf_ft c j) (r j) (m j)).set j v = (List.range N).map fun j => gf_fv E (gf_ft c j) (r' j) (m' j) := by
  apply List.ext_getElem?
  intro i
  by_cases hi : i = j
  · subst hi
    rw [List.getElem?_set_self (by simp; exact hj), gf_fs_at hj, hv]
  · rw [List.getElem?_set_ne (Ne.symm hi)]
    simp only [List.getElem?_map]
    by_cases hl : i < N
    · simp only [List.getElem?_range hl, Option.map_some, hm i hi, hr i hi]
    · have : (List.range N)[i]? = none := by simp; omega
      simp [this]
theorem gf_upN {μ : gf_M} {k v : Int} {j i : Nat} (h : i ≠ j) : gf_up μ k (j : Int) v k (i : Int) = μ k (i : Int) := gf_up_j (by omega)
section GF2
variable {X : gf_X} {E : gf_E} {Q : State → Prop} {nL : Nat} {φ : gf_F} {μ : gf_M} {pc : Nat} {lv : List (Nat × Value)} {st : List Value} {cc : ByteArray} {own : String} {rm : Room}
variable {ci j index N : Nat} {T : u_T} {Cn : String} {k z : Int}
theorem gf_getI (C : gf_C X E cc nL own rm) (q : gf_cl ci Cn T N) (f : gf_fl own index j T N) (d : decode cc pc = .ok (.getfield index, 3)) (hz : (j : Int) = z) (ht : gf_ft ci j = 0) (hk : gf_is φ.2.2.1 k 0 ci N) (kk : gf_R (μ k z) → gf_G X E Q nL φ μ (pc + 3) lv (.int (gf_i (μ k z)) :: st)) : gf_G X E Q nL φ μ pc lv (.ref (gf_ad E k) :: st) := by
  intro H locs ls hl hW hS
  subst hz
  have he := gf_ws_get (E := E) (ρ := φ.2.2.2) (μ := μ) hk.1 hk.2.1
  rw [hk.2.2] at he
  have hr : gf_R (μ k j) := by
    have := hW.2.2 k j
    simpa [gf_rg, gf_lg, hk.2.2, ht] using this
  exact va_get C.1 C.2.1 C.2.2.2.2.1 q.2.1 C.2.2.2.1 (gf_K C) hW.2.1 k.toNat he q.1 j f.1 (C.2.2.2.2.1 _ f.2) (fun _ h => h) (by rw [gf_fs_at f.1, ht]; rfl) d (kk hr H locs ls hl hW hS)
theorem gf_getL (C : gf_C X E cc nL own rm) (q : gf_cl ci Cn T N) (f : gf_fl own index j T N) (d : decode cc pc = .ok (.getfield index, 3)) (hz : (j : Int) = z) (ht : gf_ft ci j = 1) (hk : gf_is φ.2.2.1 k 0 ci N) (kk : gf_RL (μ k z) → gf_G X E Q nL φ μ (pc + 3) lv (.long (gf_l (μ k z)) :: st)) : gf_G X E Q nL φ μ pc lv (.ref (gf_ad E k) :: st) := by
  intro H locs ls hl hW hS
  subst hz
  have he := gf_ws_get (E := E) (ρ := φ.2.2.2) (μ := μ) hk.1 hk.2.1
  rw [hk.2.2] at he
  have hr : gf_RL (μ k j) := by
    have := hW.2.2 k j
    simpa [gf_rg, gf_lg, hk.2.2, ht] using this
  exact va_get C.1 C.2.1 C.2.2.2.2.1 q.2.1 C.2.2.2.1 (gf_K C) hW.2.1 k.toNat he q.1 j f.1 (C.2.2.2.2.1 _ f.2) (fun _ h => h) (by rw [gf_fs_at f.1, ht]; rfl) d (kk hr H locs ls hl hW hS)
theorem gf_getA {r : Int} (C : gf_C X E cc nL own rm) (q : gf_cl ci Cn T N) (f : gf_fl own index j T N) (d : decode cc pc = .ok (.getfield index, 3)) (ht : gf_ft ci j = 2) (hk : gf_is φ.2.2.1 k 0 ci N) (hr : φ.2.2.2 k j = r) (h0 : 0 ≤ r) (kk : gf_G X E Q nL φ μ (pc + 3) lv (.ref (gf_ad E r) :: st)) : gf_G X E Q nL φ μ pc lv (.ref (gf_ad E k) :: st) := by
  intro H locs ls hl hW hS
  have he := gf_ws_get (E := E) (ρ := φ.2.2.2) (μ := μ) hk.1 hk.2.1
  rw [hk.2.2] at he
  exact va_get C.1 C.2.1 C.2.2.2.2.1 q.2.1 C.2.2.2.1 (gf_K C) hW.2.1 k.toNat he q.1 j f.1 (C.2.2.2.2.1 _ f.2) (fun _ h => h) (v := .ref (gf_ad E r)) (by rw [gf_fs_at f.1, ht, hr]; simp [gf_fv, gf_rf, va_rf, show ¬ r < 0 by omega]) d (kk H locs ls hl hW hS)
/-- a field is set: as the kit has it, and the heap's size stays -/
theorem gf_vput {H : Heap} {locs : List Loc} {cells slots : Nat} {ls : Array Slot} {ρ : gf_M} {n : Nat} {v : Value} {ty : FieldType} (C : gf_C X E cc nL own rm) (q : gf_cl ci Cn T N) (f : gf_fl own index j T N) (d : decode cc pc = .ok (.putfield index, 3)) (hfin : (T j).2.2.2 = false ∨ ((T j).2.2.2 = true ∧ X.2.2.2.2.2.2.2.2.1.name = "<init>" ∧ (T j).1 = own)) (hp : parseFieldDescriptor (T j).2.2.1 = some ty) (hn : narrow ty v = v) (hfit : fits ty v = true) (hk : gf_is n k 0 ci N) (hP : va_P E.2.1 gf_cls (gf_ws E n ρ μ) H) (hS : va_S (gf_A E) (gf_xs X).heap H locs)
    (kk : ∀ (H1 : Heap) (locs1 : List Loc), va_P E.2.1 gf_cls ((gf_ws E n ρ μ).set k.toNat (gf_ad E k, .inr (ci, ((List.range N).map fun j => gf_fv E (gf_ft ci j) (ρ k j) (μ k j)).set j v))) H1 → H1.size = H.size → va_S (gf_A E) (gf_xs X).heap H1 locs1 → gf_Wx X H1 locs1 cells slots Q (F0 (gf_xm X) (pc + 3) ls st)) : gf_Wx X H locs cells slots Q (F0 (gf_xm X) pc ls (v :: .ref (gf_ad E k) :: st)) := by
  obtain ⟨ty0, hty⟩ := q.2.2.1
  have he := gf_ws_get (E := E) (ρ := ρ) (μ := μ) hk.1 hk.2.1
  rw [hk.2.2] at he
  have hts := C.2.2.2.2.1
  have hap := va_apart (own := own) hts q.2.1 ty0 hty q.2.2.2 (gf_K C) q.1
  obtain ⟨r, h1, cell, q1, q2, q3, q4⟩ := hP k.toNat _ he
  have hr : r = (Cn, T, N) := Option.some.inj (h1.symm.trans q.1)
  subst hr
  obtain ⟨hSl, hfc, kC, hkC, hkind⟩ := (gf_K C).1 ci _ q.1
  obtain ⟨cf, kf, fi, fd, hi, hsl⟩ := hSl j f.1
  have hlay := hts _ (q.2.1 _ (u_in_lay f.1))
  unfold u_lay at hlay
  have hst := (u_facts hfc hkC (u_lays hts q.2.1 f.1) hi).1
  rcases hfin with hfin | ⟨hfin, hin2, hdecl⟩
  · rw [if_neg (by rw [hfin]; decide)] at hlay
    have h6 := u_store hfc hkC hkind hlay hi hp hn hfit
    refine W.putK C.1 C.2.1 (f := fd) ⟨C.2.2.2.1, hts _ f.2, ⟨_, _, _, hi⟩, hst⟩ (by rw [q2]; exact h6) q1 q3 (by rw [hsl]; exact k2_hasslot (q4 j f.1)) rfl rfl d fun H' e1 e2 e3 => ?_
    rw [hsl] at e1 ⊢
    exact kk H' _ (hP.set gf_D he ⟨_, q.1, t_OB.to (V := updV (vp_V _) j v) ⟨_, e1, q2, q3, t_set q4 hap f.1 v⟩ (fun i _ => vp_updV_set (by simp; exact f.1) v i)⟩ e3) e2 (hS.put e2 e3 (gf_D.2 k.toNat _ he))
  · rw [if_pos hfin] at hlay
    have hcf : X.2.2.2.2.2.1.cls = cf := by
      obtain ⟨_, _, c', _, _, _, -, -, hf', -, -, -, hown2, -⟩ := Cond.laysFinal_spec hlay
      have e1 : c' = cf := by have := hi.symm.trans hf'; simp at this; exact this.1.symm
      rw [hdecl] at hown2
      rw [← e1]; exact Option.some.inj (C.2.2.2.1.symm.trans hown2)
    have h6 := u_fits hfc hkC hkind (Or.inr hlay) hi hp hn hfit
    refine W.putFinK C.1 C.2.1 C.2.2.2.1 (hts _ f.2) hi hst hcf hin2 (by rw [q2]; exact h6) q1 q3 (by rw [hsl]; exact k2_hasslot (q4 j f.1)) rfl rfl d fun H' e1 e2 e3 => ?_
    rw [hsl] at e1 ⊢
    exact kk H' _ (hP.set gf_D he ⟨_, q.1, t_OB.to (V := updV (vp_V _) j v) ⟨_, e1, q2, q3, t_set q4 hap f.1 v⟩ (fun i _ => vp_updV_set (by simp; exact f.1) v i)⟩ e3) e2 (hS.put e2 e3 (gf_D.2 k.toNat _ he))
theorem gf_putI {x : Int} (C : gf_C X E cc nL own rm) (q : gf_cl ci Cn T N) (f : gf_fl own index j T N) (d : decode cc pc = .ok (.putfield index, 3)) (hz : (j : Int) = z) (ht : gf_ft ci j = 0) (hfin : (T j).2.2.2 = false) (hp : parseFieldDescriptor (T j).2.2.1 = some .int) (hk : gf_is φ.2.2.1 k 0 ci N) (hx : gf_R x) (kk : gf_G X E Q nL φ (gf_up μ k z x) (pc + 3) lv st) : gf_G X E Q nL φ μ pc lv (.int (gf_i x) :: .ref (gf_ad E k) :: st) := by
  intro H locs ls hl hW hS
  subst hz
  refine gf_vput C q f d (Or.inl hfin) hp rfl rfl hk hW.2.1 hS (fun H1 locs1 hP1 hz1 hS1 => ?_)
  rw [gf_ws_set (ρ' := φ.2.2.2) (μ' := gf_up μ k j x) hk.1 hk.2.1 (by rw [hk.2.2]; simp only [gf_cell]; rw [gf_fs_set (r' := φ.2.2.2 k) (m' := gf_up μ k j x k) f.1 (by rw [gf_up_s, ht]; rfl) (fun i hi => gf_upN hi) (fun _ _ => rfl)]) (fun a ha => gf_up_row ha) (fun _ _ => rfl)] at hP1
  exact kk H1 locs1 ls hl ⟨fun h => by rw [hz1]; exact hW.1 h, hP1, gf_rg_up hW.2.2 (gf_rg_R hx)⟩ hS1
/-- a boolean field -/
theorem gf_putZ {x : Int} (C : gf_C X E cc nL own rm) (q : gf_cl ci Cn T N) (f : gf_fl own index j T N) (d : decode cc pc = .ok (.putfield index, 3)) (hz : (j : Int) = z) (ht : gf_ft ci j = 0) (hfin : (T j).2.2.2 = false) (hp : parseFieldDescriptor (T j).2.2.1 = some .boolean) (hk : gf_is φ.2.2.1 k 0 ci N) (hx : x = 0 ∨ x = 1) (kk : gf_G X E Q nL φ (gf_up μ k z x) (pc + 3) lv st) : gf_G X E Q nL φ μ pc lv (.int (gf_i x) :: .ref (gf_ad E k) :: st) := by
  intro H locs ls hl hW hS
  subst hz
  refine gf_vput C q f d (Or.inl hfin) hp (by rcases hx with rfl | rfl <;> decide +kernel) (by rcases hx with rfl | rfl <;> decide +kernel) hk hW.2.1 hS (fun H1 locs1 hP1 hz1 hS1 => ?_)
  rw [gf_ws_set (ρ' := φ.2.2.2) (μ' := gf_up μ k j x) hk.1 hk.2.1 (by rw [hk.2.2]; simp only [gf_cell]; rw [gf_fs_set (r' := φ.2.2.2 k) (m' := gf_up μ k j x k) f.1 (by rw [gf_up_s, ht]; rfl) (fun i hi => gf_upN hi) (fun _ _ => rfl)]) (fun a ha => gf_up_row ha) (fun _ _ => rfl)] at hP1
  exact kk H1 locs1 ls hl ⟨fun h => by rw [hz1]; exact hW.1 h, hP1, gf_rg_up hW.2.2 (gf_rg_R (by omega))⟩ hS1
theorem gf_putL {x : Int} (C : gf_C X E cc nL own rm) (q : gf_cl ci Cn T N) (f : gf_fl own index j T N) (d : decode cc pc = .ok (.putfield index, 3)) (hz : (j : Int) = z) (ht : gf_ft ci j = 1) (hfin : (T j).2.2.2 = false) (hp : parseFieldDescriptor (T j).2.2.1 = some .long) (hk : gf_is φ.2.2.1 k 0 ci N) (hx : gf_RL x) (kk : gf_G X E Q nL φ (gf_up μ k z x) (pc + 3) lv st) : gf_G X E Q nL φ μ pc lv (.long (gf_l x) :: .ref (gf_ad E k) :: st) := by
  intro H locs ls hl hW hS
  subst hz
  refine gf_vput C q f d (Or.inl hfin) hp rfl rfl hk hW.2.1 hS (fun H1 locs1 hP1 hz1 hS1 => ?_)
  rw [gf_ws_set (ρ' := φ.2.2.2) (μ' := gf_up μ k j x) hk.1 hk.2.1 (by rw [hk.2.2]; simp only [gf_cell]; rw [gf_fs_set (r' := φ.2.2.2 k) (m' := gf_up μ k j x k) f.1 (by rw [gf_up_s, ht]; rfl) (fun i hi => gf_upN hi) (fun _ _ => rfl)]) (fun a ha => gf_up_row ha) (fun _ _ => rfl)] at hP1
  exact kk H1 locs1 ls hl ⟨fun h => by rw [hz1]; exact hW.1 h, hP1, gf_rg_up hW.2.2 (by unfold gf_rg gf_lg; simp [hk.2.2, ht]; omega)⟩ hS1
/-- a final field that holds a reference, in a constructor -/
theorem gf_putF {r : Int} {ty : FieldType} (C : gf_C X E cc nL own rm) (hname : X.2.2.2.2.2.2.2.2.1.name = "<init>") (q : gf_cl ci Cn T N) (f : gf_fl own index j T N) (d : decode cc pc = .ok (.putfield index, 3)) (hz : (j : Int) = z) (ht : gf_ft ci j = 2) (hfin : (T j).2.2.2 = true) (hdecl : (T j).1 = own) (hp : parseFieldDescriptor (T j).2.2.1 = some ty) (hty : ∀ a : Nat, narrow ty (.ref a) = .ref a ∧ fits ty (.ref a) = true) (hk : gf_is φ.2.2.1 k 0 ci N) (hr : 0 ≤ r) (kk : gf_G X E Q nL (φ.1, φ.2.1, φ.2.2.1, gf_up φ.2.2.2 k z r) μ (pc + 3) lv st) : gf_G X E Q nL φ μ pc lv (.ref (gf_ad E r) :: .ref (gf_ad E k) :: st) := by
  intro H locs ls hl hW hS
  subst hz
  refine gf_vput C q f d (Or.inr ⟨hfin, hname, hdecl⟩) hp (hty _).1 (hty _).2 hk hW.2.1 hS (fun H1 locs1 hP1 hz1 hS1 => ?_)
  rw [gf_ws_set (ρ' := gf_up φ.2.2.2 k j r) (μ' := μ) hk.1 hk.2.1 (by rw [hk.2.2]; simp only [gf_cell]; rw [gf_fs_set (r' := gf_up φ.2.2.2 k j r k) (m' := μ k) f.1 (by rw [gf_up_s, ht]; simp [gf_fv, gf_rf, va_rf, show ¬ r < 0 by omega]) (fun _ _ => rfl) (fun i hi => gf_upN hi)]) (fun _ _ => rfl) (fun a ha => gf_up_row ha)] at hP1
  exact kk H1 locs1 ls hl ⟨fun h => by rw [hz1]; exact hW.1 h, hP1, hW.2.2⟩ hS1
end GF2
