/-! a run of a method in this world, and a row for each instruction -/
/-- program, launch, environment, room, start, method, arguments, frames below, method's record, code -/
abbrev gf_X : Type := Program × Launch × Env × Room × State × MethodId × Array Value × List Frame × Method × Code
def gf_xs (X : gf_X) : State := X.2.2.2.2.1
def gf_xm (X : gf_X) : MethodId := X.2.2.2.2.2.1
def gf_xa (X : gf_X) : Array Value := X.2.2.2.2.2.2.1
def gf_xl (X : gf_X) : Launch := X.2.1
def gf_Wx (X : gf_X) (H : Heap) (locs : List Loc) (cells slots : Nat) (Q : State → Prop) (g : JFrame) : Prop :=
  W X.1 X.2.1 X.2.2.1 X.2.2.2.1 X.2.2.2.2.1 X.2.2.2.2.2.1 X.2.2.2.2.2.2.1 X.2.2.2.2.2.2.2.1 X.2.2.2.2.2.2.2.2.1 X.2.2.2.2.2.2.2.2.2 H locs cells slots Q g
/-- new cells and slots so far, cells in all, what refers to what -/
abbrev gf_F : Type := Nat × Nat × Nat × gf_M
def gf_G (X : gf_X) (E : gf_E) (Q : State → Prop) (nL : Nat) (φ : gf_F) (μ : gf_M) (pc : Nat) (lv : List (Nat × Value)) (st : List Value) : Prop :=
  ∀ (H : Heap) (locs : List Loc) (ls : Array Slot), lv_has ls nL lv → gf_W E φ.2.2.1 φ.2.2.2 μ H → va_S (gf_A E) (gf_xs X).heap H locs → gf_Wx X H locs φ.1 φ.2.1 Q (F0 (gf_xm X) pc ls st)
def gf_LET (j : Nat) : Value := .int (gf_i (([103, 101, 99, 104, 98, 100] : List Int).getD j 0))
def gf_ABO (j : Nat) : Value := .int (gf_i (([-1, 0, 0, 0, 1, 2] : List Int).getD j 0))
/-- the static tables and the links between nest mates -/
def gf_S (E : gf_E) (U : State) (H : Heap) : Prop :=
  va_Z "GuardFigures" "LETTERS" "[I" (.ref E.2.2.2.1) (gf_A E) U H ∧ va_T .int E.2.2.2.1 6 gf_LET (gf_A E) U H ∧
  va_Z "GuardFigures" "ABOVE" "[I" (.ref E.2.2.2.2) (gf_A E) U H ∧ va_T .int E.2.2.2.2 6 gf_ABO (gf_A E) U H ∧
  va_Nw (.fieldLinkNest "GuardFigures$Reader" 52 "GuardFigures" "LETTERS" "[I" "GuardFigures") U ∧ va_Nw (.fieldLinkNest "GuardFigures$Guard" 21 "GuardFigures" "ABOVE" "[I" "GuardFigures") U ∧
  va_Nw (.methodLinkNest "GuardFigures" 27 yy_Gd_init "GuardFigures") U ∧ va_Nw (.methodLinkNest "GuardFigures$Reader" 17 yy_Gd_init "GuardFigures") U ∧
  va_Nw (.methodLinkNest "GuardFigures$Reader" 39 yy_Fi_isWithin "GuardFigures") U ∧ va_Nw (.methodLinkNest "GuardFigures$Watch" 79 yy_Fi_exchange "GuardFigures") U ∧
  va_Nw (.methodLinkNest "GuardFigures$Outlook" 93 yy_Fi_isWithin "GuardFigures") U ∧ va_Nw (.methodLinkNest "GuardFigures$Writing" 39 yy_Fi_isWithin "GuardFigures") U
def gf_U (E : gf_E) (n : Nat) (ρ μ : gf_M) (U : State) : Prop := gf_W E n ρ μ U.heap ∧ va_K E.2.1 gf_cls (gf_tys E) U ∧ gf_S E U U.heap
/-- what holds all through a method's run -/
def gf_C (X : gf_X) (E : gf_E) (cc : ByteArray) (nL : Nat) (own : String) (rm : Room) : Prop :=
  X.1.tables.exec = Jvm.exec ∧ X.2.2.2.2.2.2.2.2.2.code = cc ∧ X.2.2.2.2.2.2.2.2.2.maxLocals = nL ∧ X.2.2.2.2.1.vm.findClass own = some X.2.2.2.2.2.1.cls ∧ (∀ w ∈ gf_tbl, w.before X.2.2.2.2.2.2.1 X.2.2.2.2.1 = true) ∧
  va_K E.2.1 gf_cls (gf_tys E) X.2.2.2.2.1 ∧ gf_S E X.2.2.2.2.1 X.2.2.2.2.1.heap ∧ X.2.2.2.1 = rm ∧ E.1 ≤ X.2.2.2.2.1.heap.size
theorem gf_K {X : gf_X} {E : gf_E} {cc : ByteArray} {nL : Nat} {own : String} {rm : Room} (C : gf_C X E cc nL own rm) : va_K E.2.1 gf_cls (gf_tys E) X.2.2.2.2.1 := C.2.2.2.2.2.1
/-- cell k is there and of a shape -/
abbrev gf_is (n : Nat) (k : Int) (a b c : Nat) : Prop := 0 ≤ k ∧ k < (n : Int) ∧ gf_sh k = (a, b, c)
section GF1
variable {X : gf_X} {E : gf_E} {Q : State → Prop} {nL : Nat} {φ : gf_F} {μ : gf_M} {pc : Nat} {lv : List (Nat × Value)} {st : List Value} {cc : ByteArray} {own : String} {rm : Room}
theorem gf_nm {x : Int} (kk : ∀ y : Int, y = x → gf_G X E Q nL φ μ pc lv (.int (gf_i y) :: st)) : gf_G X E Q nL φ μ pc lv (.int (gf_i x) :: st) := kk x rfl
theorem gf_nml {x : Int} (kk : ∀ y : Int, y = x → gf_G X E Q nL φ μ pc lv (.long (gf_l y) :: st)) : gf_G X E Q nL φ μ pc lv (.long (gf_l x) :: st) := kk x rfl
theorem gf_nmM (kk : ∀ m : gf_M, m = μ → gf_G X E Q nL φ m pc lv st) : gf_G X E Q nL φ μ pc lv st := kk μ rfl
/-- the number on top, by another text -/
theorem gf_cv {x y : Int} (h : x = y) (kk : gf_G X E Q nL φ μ pc lv (.int (gf_i y) :: st)) : gf_G X E Q nL φ μ pc lv (.int (gf_i x) :: st) := h ▸ kk
theorem gf_cvl {x y : Int} (h : x = y) (kk : gf_G X E Q nL φ μ pc lv (.long (gf_l y) :: st)) : gf_G X E Q nL φ μ pc lv (.long (gf_l x) :: st) := h ▸ kk
theorem gf_lsub {lv' : List (Nat × Value)} (ks : List Nat) (h : lv_pick lv ks = lv') (kk : gf_G X E Q nL φ μ pc lv' st) : gf_G X E Q nL φ μ pc lv st := fun H locs ls hl hW hS => kk H locs ls (lv_sub hl ks h) hW hS
theorem gf_iconst {n : Int} (C : gf_C X E cc nL own rm) (d : decode cc pc = .ok (.iconst n, 1)) (kk : gf_G X E Q nL φ μ (pc + 1) lv (.int (gf_i n) :: st)) : gf_G X E Q nL φ μ pc lv st :=
  fun H locs ls hl hW hS => lv_iconst C.1 C.2.1 d rfl (kk H locs ls hl hW hS)
theorem gf_bipush {n : Int} (C : gf_C X E cc nL own rm) (d : decode cc pc = .ok (.bipush n, 2)) (hn : (Int8.ofInt n).toInt32 = gf_i n) (kk : gf_G X E Q nL φ μ (pc + 2) lv (.int (gf_i n) :: st)) : gf_G X E Q nL φ μ pc lv st :=
  fun H locs ls hl hW hS => lv_bipush C.1 C.2.1 d hn (kk H locs ls hl hW hS)
theorem gf_sipush {n : Int} (C : gf_C X E cc nL own rm) (d : decode cc pc = .ok (.sipush n, 3)) (hn : (Int16.ofInt n).toInt32 = gf_i n) (kk : gf_G X E Q nL φ μ (pc + 3) lv (.int (gf_i n) :: st)) : gf_G X E Q nL φ μ pc lv st :=
  fun H locs ls hl hW hS => lv_sipush C.1 C.2.1 d hn (kk H locs ls hl hW hS)
theorem gf_lconst {n : Fin 2} (x : Int) (C : gf_C X E cc nL own rm) (d : decode cc pc = .ok (.lconst n, 1)) (hn : Int64.ofNat (n : Nat) = gf_l x) (kk : gf_G X E Q nL φ μ (pc + 1) lv (.long (gf_l x) :: st)) : gf_G X E Q nL φ μ pc lv st :=
  fun H locs ls hl hW hS => lv_lconst C.1 C.2.1 d hn (kk H locs ls hl hW hS)
theorem gf_ldc2 {index : Nat} {v : Int64} (x : Int) (C : gf_C X E cc nL own rm) (d : decode cc pc = .ok (.ldc2_w index, 3)) (hw : Cond.constantLong own index v ∈ gf_tbl) (hn : v = gf_l x) (kk : gf_G X E Q nL φ μ (pc + 3) lv (.long (gf_l x) :: st)) : gf_G X E Q nL φ μ pc lv st := by
  subst hn
  exact fun H locs ls hl hW hS => lv_ldc2 C.1 C.2.1 C.2.2.2.1 (C.2.2.2.2.1 _ hw) d (kk H locs ls hl hW hS)
theorem gf_iload_n {k : Fin 4} {x : Int} (C : gf_C X E cc nL own rm) (d : decode cc pc = .ok (.iload_n k, 1)) (q : Nat) (h : lv[q]? = some ((k : Nat), .int (gf_i x))) (kk : gf_G X E Q nL φ μ (pc + 1) lv (.int (gf_i x) :: st)) : gf_G X E Q nL φ μ pc lv st :=
  fun H locs ls hl hW hS => lv_iload_n C.1 C.2.1 d rfl (lv_at hl q h) (kk H locs ls hl hW hS)
theorem gf_iload {k : Nat} {x : Int} (C : gf_C X E cc nL own rm) (d : decode cc pc = .ok (.iload k, 2)) (q : Nat) (h : lv[q]? = some (k, .int (gf_i x))) (kk : gf_G X E Q nL φ μ (pc + 2) lv (.int (gf_i x) :: st)) : gf_G X E Q nL φ μ pc lv st :=
  fun H locs ls hl hW hS => lv_iload C.1 C.2.1 d (lv_at hl q h) (kk H locs ls hl hW hS)
theorem gf_lload_n {k : Fin 4} {x : Int} (C : gf_C X E cc nL own rm) (d : decode cc pc = .ok (.lload_n k, 1)) (q : Nat) (h : lv[q]? = some ((k : Nat), .long (gf_l x))) (kk : gf_G X E Q nL φ μ (pc + 1) lv (.long (gf_l x) :: st)) : gf_G X E Q nL φ μ pc lv st :=
  fun H locs ls hl hW hS => lv_lload_n C.1 C.2.1 d rfl (lv_at hl q h) (kk H locs ls hl hW hS)
theorem gf_lload {k : Nat} {x : Int} (C : gf_C X E cc nL own rm) (d : decode cc pc = .ok (.lload k, 2)) (q : Nat) (h : lv[q]? = some (k, .long (gf_l x))) (kk : gf_G X E Q nL φ μ (pc + 2) lv (.long (gf_l x) :: st)) : gf_G X E Q nL φ μ pc lv st :=
  fun H locs ls hl hW hS => lv_lload C.1 C.2.1 d (lv_at hl q h) (kk H locs ls hl hW hS)
theorem gf_aload_n {k : Fin 4} {x : Nat} (C : gf_C X E cc nL own rm) (d : decode cc pc = .ok (.aload_n k, 1)) (q : Nat) (h : lv[q]? = some ((k : Nat), .ref x)) (kk : gf_G X E Q nL φ μ (pc + 1) lv (.ref x :: st)) : gf_G X E Q nL φ μ pc lv st :=
  fun H locs ls hl hW hS => lv_aload_n C.1 C.2.1 d rfl (lv_at hl q h) (kk H locs ls hl hW hS)
theorem gf_aload {k x : Nat} (C : gf_C X E cc nL own rm) (d : decode cc pc = .ok (.aload k, 2)) (q : Nat) (h : lv[q]? = some (k, .ref x)) (kk : gf_G X E Q nL φ μ (pc + 2) lv (.ref x :: st)) : gf_G X E Q nL φ μ pc lv st :=
  fun H locs ls hl hW hS => lv_aload C.1 C.2.1 d (lv_at hl q h) (kk H locs ls hl hW hS)
theorem gf_istore_n {k : Fin 4} {x : Int} {lv' : List (Nat × Value)} (C : gf_C X E cc nL own rm) (d : decode cc pc = .ok (.istore_n k, 1)) (hn : (k : Nat) < nL) (hl' : ((k : Nat), Value.int (gf_i x)) :: lv.filter (fun q => !(q.1 == (k : Nat)) && !(q.1 + 1 == (k : Nat) && q.2.category == 2)) = lv') (kk : gf_G X E Q nL φ μ (pc + 1) lv' st) : gf_G X E Q nL φ μ pc lv (.int (gf_i x) :: st) :=
  fun H locs ls hl hW hS => lv_istore_n C.1 C.2.1 d rfl hl hn hl' (fun ls' h' => kk H locs ls' h' hW hS)
theorem gf_istore {k : Nat} {x : Int} {lv' : List (Nat × Value)} (C : gf_C X E cc nL own rm) (d : decode cc pc = .ok (.istore k, 2)) (hn : k < nL) (hl' : (k, Value.int (gf_i x)) :: lv.filter (fun q => !(q.1 == k) && !(q.1 + 1 == k && q.2.category == 2)) = lv') (kk : gf_G X E Q nL φ μ (pc + 2) lv' st) : gf_G X E Q nL φ μ pc lv (.int (gf_i x) :: st) :=
  fun H locs ls hl hW hS => lv_istore C.1 C.2.1 d hl hn hl' (fun ls' h' => kk H locs ls' h' hW hS)
theorem gf_lstore_n {k : Fin 4} {x : Int} {lv' : List (Nat × Value)} (C : gf_C X E cc nL own rm) (d : decode cc pc = .ok (.lstore_n k, 1)) (hn : (k : Nat) + 1 < nL) (hl' : ((k : Nat), Value.long (gf_l x)) :: lv.filter (fun q => !(q.1 == (k : Nat)) && (!(q.1 == (k : Nat) + 1) && !(q.1 + 1 == (k : Nat) && q.2.category == 2))) = lv') (kk : gf_G X E Q nL φ μ (pc + 1) lv' st) : gf_G X E Q nL φ μ pc lv (.long (gf_l x) :: st) :=
  fun H locs ls hl hW hS => lv_lstore_n C.1 C.2.1 d rfl hl hn hl' (fun ls' h' => kk H locs ls' h' hW hS)
theorem gf_lstore {k : Nat} {x : Int} {lv' : List (Nat × Value)} (C : gf_C X E cc nL own rm) (d : decode cc pc = .ok (.lstore k, 2)) (hn : k + 1 < nL) (hl' : (k, Value.long (gf_l x)) :: lv.filter (fun q => !(q.1 == k) && (!(q.1 == k + 1) && !(q.1 + 1 == k && q.2.category == 2))) = lv') (kk : gf_G X E Q nL φ μ (pc + 2) lv' st) : gf_G X E Q nL φ μ pc lv (.long (gf_l x) :: st) :=
  fun H locs ls hl hW hS => lv_lstore C.1 C.2.1 d hl hn hl' (fun ls' h' => kk H locs ls' h' hW hS)
theorem gf_astore_n {k : Fin 4} {x : Nat} {lv' : List (Nat × Value)} (C : gf_C X E cc nL own rm) (d : decode cc pc = .ok (.astore_n k, 1)) (hn : (k : Nat) < nL) (hl' : ((k : Nat), Value.ref x) :: lv.filter (fun q => !(q.1 == (k : Nat)) && !(q.1 + 1 == (k : Nat) && q.2.category == 2)) = lv') (kk : gf_G X E Q nL φ μ (pc + 1) lv' st) : gf_G X E Q nL φ μ pc lv (.ref x :: st) :=
  fun H locs ls hl hW hS => lv_astore_n C.1 C.2.1 d rfl hl hn hl' (fun ls' h' => kk H locs ls' h' hW hS)
theorem gf_astore {k x : Nat} {lv' : List (Nat × Value)} (C : gf_C X E cc nL own rm) (d : decode cc pc = .ok (.astore k, 2)) (hn : k < nL) (hl' : (k, Value.ref x) :: lv.filter (fun q => !(q.1 == k) && !(q.1 + 1 == k && q.2.category == 2)) = lv') (kk : gf_G X E Q nL φ μ (pc + 2) lv' st) : gf_G X E Q nL φ μ pc lv (.ref x :: st) :=
  fun H locs ls hl hW hS => lv_astore C.1 C.2.1 d hl hn hl' (fun ls' h' => kk H locs ls' h' hW hS)
theorem gf_iinc {i q : Nat} {n x v : Int} {lv' : List (Nat × Value)} (C : gf_C X E cc nL own rm) (d : decode cc pc = .ok (.iinc i n, 3)) (hk : lv[q]? = some (i, .int (gf_i x))) (hv : v = x + n) (hn : i < nL) (hl' : (i, Value.int (gf_i v)) :: lv.filter (fun q => !(q.1 == i) && !(q.1 + 1 == i && q.2.category == 2)) = lv') (kk : gf_G X E Q nL φ μ (pc + 3) lv' st) : gf_G X E Q nL φ μ pc lv st :=
  fun H locs ls hl hW hS => lv_iinc C.1 C.2.1 d hl hk (by rw [hv]; exact (Int32.ofInt_add x n).symm) hn hl' (fun ls' h' => kk H locs ls' h' hW hS)
theorem gf_iadd {x y : Int} (C : gf_C X E cc nL own rm) (d : decode cc pc = .ok (.iadd, 1)) (kk : gf_G X E Q nL φ μ (pc + 1) lv (.int (gf_i (x + y)) :: st)) : gf_G X E Q nL φ μ pc lv (.int (gf_i y) :: .int (gf_i x) :: st) :=
  fun H locs ls hl hW hS => lv_iadd C.1 C.2.1 d (by have := kk H locs ls hl hW hS; rw [gf_i, Int32.ofInt_add] at this; exact this)
theorem gf_isub {x y : Int} (C : gf_C X E cc nL own rm) (d : decode cc pc = .ok (.isub, 1)) (kk : gf_G X E Q nL φ μ (pc + 1) lv (.int (gf_i (x - y)) :: st)) : gf_G X E Q nL φ μ pc lv (.int (gf_i y) :: .int (gf_i x) :: st) :=
  fun H locs ls hl hW hS => lv_isub C.1 C.2.1 d (by have := kk H locs ls hl hW hS; rw [gf_i, Int32.ofInt_sub] at this; exact this)
theorem gf_imul {x y : Int} (C : gf_C X E cc nL own rm) (d : decode cc pc = .ok (.imul, 1)) (kk : gf_G X E Q nL φ μ (pc + 1) lv (.int (gf_i (x * y)) :: st)) : gf_G X E Q nL φ μ pc lv (.int (gf_i y) :: .int (gf_i x) :: st) :=
  fun H locs ls hl hW hS => lv_imul C.1 C.2.1 d (by have := kk H locs ls hl hW hS; rw [gf_i, Int32.ofInt_mul] at this; exact this)
theorem gf_ineg {x : Int} (C : gf_C X E cc nL own rm) (d : decode cc pc = .ok (.ineg, 1)) (kk : gf_G X E Q nL φ μ (pc + 1) lv (.int (gf_i (-x)) :: st)) : gf_G X E Q nL φ μ pc lv (.int (gf_i x) :: st) :=
  fun H locs ls hl hW hS => lv_ineg C.1 C.2.1 d (by have := kk H locs ls hl hW hS; rw [gf_i, Int32.ofInt_neg] at this; exact this)
theorem gf_idiv {x y : Int} (C : gf_C X E cc nL own rm) (d : decode cc pc = .ok (.idiv, 1)) (hx : gf_R x ∧ 0 ≤ x ∧ 0 < y ∧ gf_R y) (kk : gf_G X E Q nL φ μ (pc + 1) lv (.int (gf_i (x / y)) :: st)) : gf_G X E Q nL φ μ pc lv (.int (gf_i y) :: .int (gf_i x) :: st) :=
  fun H locs ls hl hW hS => lv_idiv C.1 C.2.1 d (fun h => by rw [← gf_i0, gf_i_eq hx.2.2.2 (by decide)] at h; omega) (by rw [gf_i_div hx.1 hx.2.1 hx.2.2.1 hx.2.2.2]; exact kk H locs ls hl hW hS)
theorem gf_irem {x y : Int} (C : gf_C X E cc nL own rm) (d : decode cc pc = .ok (.irem, 1)) (hx : gf_R x ∧ 0 ≤ x ∧ 0 < y ∧ gf_R y) (kk : gf_G X E Q nL φ μ (pc + 1) lv (.int (gf_i (x % y)) :: st)) : gf_G X E Q nL φ μ pc lv (.int (gf_i y) :: .int (gf_i x) :: st) :=
  fun H locs ls hl hW hS => lv_irem C.1 C.2.1 d (fun h => by rw [← gf_i0, gf_i_eq hx.2.2.2 (by decide)] at h; omega) (by rw [gf_i_rem hx.1 hx.2.1 hx.2.2.1 hx.2.2.2]; exact kk H locs ls hl hW hS)
theorem gf_ladd {x y : Int} (C : gf_C X E cc nL own rm) (d : decode cc pc = .ok (.ladd, 1)) (kk : gf_G X E Q nL φ μ (pc + 1) lv (.long (gf_l (x + y)) :: st)) : gf_G X E Q nL φ μ pc lv (.long (gf_l y) :: .long (gf_l x) :: st) :=
  fun H locs ls hl hW hS => lv_ladd C.1 C.2.1 d (by have := kk H locs ls hl hW hS; rw [gf_l, Int64.ofInt_add] at this; exact this)
theorem gf_lsb {x y : Int} (C : gf_C X E cc nL own rm) (d : decode cc pc = .ok (.lsub, 1)) (kk : gf_G X E Q nL φ μ (pc + 1) lv (.long (gf_l (x - y)) :: st)) : gf_G X E Q nL φ μ pc lv (.long (gf_l y) :: .long (gf_l x) :: st) :=
  fun H locs ls hl hW hS => lv_lsub C.1 C.2.1 d (by have := kk H locs ls hl hW hS; rw [gf_l, Int64.ofInt_sub] at this; exact this)
theorem gf_lmul {x y : Int} (C : gf_C X E cc nL own rm) (d : decode cc pc = .ok (.lmul, 1)) (kk : gf_G X E Q nL φ μ (pc + 1) lv (.long (gf_l (x * y)) :: st)) : gf_G X E Q nL φ μ pc lv (.long (gf_l y) :: .long (gf_l x) :: st) :=
  fun H locs ls hl hW hS => lv_lmul C.1 C.2.1 d (by have := kk H locs ls hl hW hS; rw [gf_l, Int64.ofInt_mul] at this; exact this)
theorem gf_l0 : gf_l 0 = 0 := by decide +kernel
theorem gf_ldiv {x y : Int} (C : gf_C X E cc nL own rm) (d : decode cc pc = .ok (.ldiv, 1)) (hx : gf_RL x ∧ 0 < y ∧ gf_RL y) (kk : gf_G X E Q nL φ μ (pc + 1) lv (.long (gf_l (x.tdiv y)) :: st)) : gf_G X E Q nL φ μ pc lv (.long (gf_l y) :: .long (gf_l x) :: st) :=
  fun H locs ls hl hW hS => lv_ldiv C.1 C.2.1 d (fun h => by rw [← gf_l0, gf_l_eq hx.2.2 (by decide)] at h; omega) (by rw [gf_l_tdiv hx.1 hx.2.1 hx.2.2]; exact kk H locs ls hl hW hS)
theorem gf_lrem {x y : Int} (C : gf_C X E cc nL own rm) (d : decode cc pc = .ok (.lrem, 1)) (hx : gf_RL x ∧ 0 ≤ x ∧ 0 < y ∧ gf_RL y) (kk : gf_G X E Q nL φ μ (pc + 1) lv (.long (gf_l (x % y)) :: st)) : gf_G X E Q nL φ μ pc lv (.long (gf_l y) :: .long (gf_l x) :: st) :=
  fun H locs ls hl hW hS => lv_lrem C.1 C.2.1 d (fun h => by rw [← gf_l0, gf_l_eq hx.2.2.2 (by decide)] at h; omega) (by rw [gf_l_rem hx.1 hx.2.1 hx.2.2.1 hx.2.2.2]; exact kk H locs ls hl hW hS)
theorem gf_gi2l {x : Int} (C : gf_C X E cc nL own rm) (d : decode cc pc = .ok (.i2l, 1)) (hx : gf_R x) (kk : gf_G X E Q nL φ μ (pc + 1) lv (.long (gf_l x) :: st)) : gf_G X E Q nL φ μ pc lv (.int (gf_i x) :: st) :=
  fun H locs ls hl hW hS => lv_i2l C.1 C.2.1 d (gf_i2l hx) (kk H locs ls hl hW hS)
theorem gf_gl2i {x : Int} (C : gf_C X E cc nL own rm) (d : decode cc pc = .ok (.l2i, 1)) (kk : gf_G X E Q nL φ μ (pc + 1) lv (.int (gf_i x) :: st)) : gf_G X E Q nL φ μ pc lv (.long (gf_l x) :: st) :=
  fun H locs ls hl hW hS => lv_l2i C.1 C.2.1 d (gf_l2i x) (kk H locs ls hl hW hS)
theorem gf_gi2b {x : Int} (C : gf_C X E cc nL own rm) (d : decode cc pc = .ok (.i2b, 1)) (kk : gf_G X E Q nL φ μ (pc + 1) lv (.int (gf_i (gf_b x)) :: st)) : gf_G X E Q nL φ μ pc lv (.int (gf_i x) :: st) :=
  fun H locs ls hl hW hS => lv_i2b C.1 C.2.1 d (gf_b_i x) (kk H locs ls hl hW hS)
theorem gf_dup {v : Value} (C : gf_C X E cc nL own rm) (d : decode cc pc = .ok (.dup, 1)) (h : v.category = 1) (kk : gf_G X E Q nL φ μ (pc + 1) lv (v :: v :: st)) : gf_G X E Q nL φ μ pc lv (v :: st) :=
  fun H locs ls hl hW hS => lv_dup C.1 C.2.1 d h (kk H locs ls hl hW hS)
theorem gf_dup2 {v w : Value} (C : gf_C X E cc nL own rm) (d : decode cc pc = .ok (.dup2, 1)) (h : v.category = 1) (h2 : w.category = 1) (kk : gf_G X E Q nL φ μ (pc + 1) lv (v :: w :: v :: w :: st)) : gf_G X E Q nL φ μ pc lv (v :: w :: st) :=
  fun H locs ls hl hW hS => lv_dup2_11 C.1 C.2.1 d h h2 (kk H locs ls hl hW hS)
theorem gf_pop {v : Value} (C : gf_C X E cc nL own rm) (d : decode cc pc = .ok (.pop, 1)) (h : v.category = 1) (kk : gf_G X E Q nL φ μ (pc + 1) lv st) : gf_G X E Q nL φ μ pc lv (v :: st) :=
  fun H locs ls hl hW hS => lv_pop C.1 C.2.1 d h (kk H locs ls hl hW hS)
theorem gf_goto {off : Int} (tgt : Nat) (C : gf_C X E cc nL own rm) (d : decode cc pc = .ok (.goto off, 3)) (ht : (pc : Int) + off = (tgt : Int)) (kk : gf_G X E Q nL φ μ tgt lv st) : gf_G X E Q nL φ μ pc lv st :=
  fun H locs ls hl hW hS => lv_goto C.1 C.2.1 d ht (kk H locs ls hl hW hS)
theorem gf_lcmp {x y : Int} (C : gf_C X E cc nL own rm) (d : decode cc pc = .ok (.lcmp, 1)) (hx : gf_RL x) (hy : gf_RL y) (kk : ∀ r : Int, (r < 0 ↔ x < y) → (r = 0 ↔ x = y) → (-1 ≤ r ∧ r ≤ 1) → gf_G X E Q nL φ μ (pc + 1) lv (.int (gf_i r) :: st)) : gf_G X E Q nL φ μ pc lv (.long (gf_l y) :: .long (gf_l x) :: st) := by
  intro H locs ls hl hW hS
  refine W.lcmp C.1 C.2.1 d ?_
  unfold lg_cmp
  by_cases h1 : y < x
  · rw [if_pos ((gf_l_lt hy hx).mpr h1)]
    exact kk 1 (by omega) (by omega) (by omega) H locs ls hl hW hS
  · rw [if_neg (fun h => h1 ((gf_l_lt hy hx).mp h))]
    by_cases h2 : x = y
    · rw [if_pos ((gf_l_eq hx hy).mpr h2)]
      exact kk 0 (by omega) (by omega) (by omega) H locs ls hl hW hS
    · rw [if_neg (fun h => h2 ((gf_l_eq hx hy).mp h))]
      exact kk (-1) (by omega) (by omega) (by omega) H locs ls hl hW hS
theorem gf_R0 : gf_R 0 := by decide
theorem gf_if_eq {x off : Int} (tgt : Nat) (C : gf_C X E cc nL own rm) (d : decode cc pc = .ok (.ifCond .eq off, 3)) (ht : (pc : Int) + off = (tgt : Int)) (hx : gf_R x) (kt : x = 0 → gf_G X E Q nL φ μ tgt lv st) (kf : ¬ (x = 0) → gf_G X E Q nL φ μ (pc + 3) lv st) : gf_G X E Q nL φ μ pc lv (.int (gf_i x) :: st) := by
  intro H locs ls hl hW hS
  have e := gf_i_eq hx gf_R0
  rw [gf_i0] at e
  exact lv_if_eq C.1 C.2.1 d ht (fun h => kt (e.mp h) H locs ls hl hW hS) (fun h => kf (fun z => h (e.mpr z)) H locs ls hl hW hS)
theorem gf_icmp_eq {x y off : Int} (tgt : Nat) (C : gf_C X E cc nL own rm) (d : decode cc pc = .ok (.if_icmp .eq off, 3)) (ht : (pc : Int) + off = (tgt : Int)) (hx : gf_R x) (hy : gf_R y) (kt : x = y → gf_G X E Q nL φ μ tgt lv st) (kf : ¬ (x = y) → gf_G X E Q nL φ μ (pc + 3) lv st) : gf_G X E Q nL φ μ pc lv (.int (gf_i y) :: .int (gf_i x) :: st) := by
  intro H locs ls hl hW hS
  have e := gf_i_eq hx hy
  exact lv_icmp_eq C.1 C.2.1 d ht (fun h => kt (e.mp h) H locs ls hl hW hS) (fun h => kf (fun z => h (e.mpr z)) H locs ls hl hW hS)
theorem gf_if_ne {x off : Int} (tgt : Nat) (C : gf_C X E cc nL own rm) (d : decode cc pc = .ok (.ifCond .ne off, 3)) (ht : (pc : Int) + off = (tgt : Int)) (hx : gf_R x) (kt : ¬ x = 0 → gf_G X E Q nL φ μ tgt lv st) (kf : x = 0 → gf_G X E Q nL φ μ (pc + 3) lv st) : gf_G X E Q nL φ μ pc lv (.int (gf_i x) :: st) := by
  intro H locs ls hl hW hS
  have e := gf_i_eq hx gf_R0
  rw [gf_i0] at e
  exact lv_if_ne C.1 C.2.1 d ht (fun h => kt (fun z => h (e.mpr z)) H locs ls hl hW hS) (fun h => kf (e.mp h) H locs ls hl hW hS)
theorem gf_icmp_ne {x y off : Int} (tgt : Nat) (C : gf_C X E cc nL own rm) (d : decode cc pc = .ok (.if_icmp .ne off, 3)) (ht : (pc : Int) + off = (tgt : Int)) (hx : gf_R x) (hy : gf_R y) (kt : ¬ x = y → gf_G X E Q nL φ μ tgt lv st) (kf : x = y → gf_G X E Q nL φ μ (pc + 3) lv st) : gf_G X E Q nL φ μ pc lv (.int (gf_i y) :: .int (gf_i x) :: st) := by
  intro H locs ls hl hW hS
  have e := gf_i_eq hx hy
  exact lv_icmp_ne C.1 C.2.1 d ht (fun h => kt (fun z => h (e.mpr z)) H locs ls hl hW hS) (fun h => kf (e.mp h) H locs ls hl hW hS)
theorem gf_if_lt {x off : Int} (tgt : Nat) (C : gf_C X E cc nL own rm) (d : decode cc pc = .ok (.ifCond .lt off, 3)) (ht : (pc : Int) + off = (tgt : Int)) (hx : gf_R x) (kt : x < 0 → gf_G X E Q nL φ μ tgt lv st) (kf : ¬ (x < 0) → gf_G X E Q nL φ μ (pc + 3) lv st) : gf_G X E Q nL φ μ pc lv (.int (gf_i x) :: st) := by
  intro H locs ls hl hW hS
  have e := gf_i_lt hx gf_R0
  rw [gf_i0] at e
  exact lv_if_lt C.1 C.2.1 d ht (fun h => kt (e.mp h) H locs ls hl hW hS) (fun h => kf (fun z => h (e.mpr z)) H locs ls hl hW hS)
theorem gf_icmp_lt {x y off : Int} (tgt : Nat) (C : gf_C X E cc nL own rm) (d : decode cc pc = .ok (.if_icmp .lt off, 3)) (ht : (pc : Int) + off = (tgt : Int)) (hx : gf_R x) (hy : gf_R y) (kt : x < y → gf_G X E Q nL φ μ tgt lv st) (kf : ¬ (x < y) → gf_G X E Q nL φ μ (pc + 3) lv st) : gf_G X E Q nL φ μ pc lv (.int (gf_i y) :: .int (gf_i x) :: st) := by
  intro H locs ls hl hW hS
  have e := gf_i_lt hx hy
  exact lv_icmp_lt C.1 C.2.1 d ht (fun h => kt (e.mp h) H locs ls hl hW hS) (fun h => kf (fun z => h (e.mpr z)) H locs ls hl hW hS)
theorem gf_if_ge {x off : Int} (tgt : Nat) (C : gf_C X E cc nL own rm) (d : decode cc pc = .ok (.ifCond .ge off, 3)) (ht : (pc : Int) + off = (tgt : Int)) (hx : gf_R x) (kt : 0 ≤ x → gf_G X E Q nL φ μ tgt lv st) (kf : ¬ (0 ≤ x) → gf_G X E Q nL φ μ (pc + 3) lv st) : gf_G X E Q nL φ μ pc lv (.int (gf_i x) :: st) := by
  intro H locs ls hl hW hS
  have e := gf_i_le gf_R0 hx
  rw [gf_i0] at e
  exact lv_if_ge C.1 C.2.1 d ht (fun h => kt (e.mp h) H locs ls hl hW hS) (fun h => kf (fun z => h (e.mpr z)) H locs ls hl hW hS)
theorem gf_icmp_ge {x y off : Int} (tgt : Nat) (C : gf_C X E cc nL own rm) (d : decode cc pc = .ok (.if_icmp .ge off, 3)) (ht : (pc : Int) + off = (tgt : Int)) (hx : gf_R x) (hy : gf_R y) (kt : y ≤ x → gf_G X E Q nL φ μ tgt lv st) (kf : ¬ (y ≤ x) → gf_G X E Q nL φ μ (pc + 3) lv st) : gf_G X E Q nL φ μ pc lv (.int (gf_i y) :: .int (gf_i x) :: st) := by
  intro H locs ls hl hW hS
  have e := gf_i_le hy hx
  exact lv_icmp_ge C.1 C.2.1 d ht (fun h => kt (e.mp h) H locs ls hl hW hS) (fun h => kf (fun z => h (e.mpr z)) H locs ls hl hW hS)
theorem gf_if_gt {x off : Int} (tgt : Nat) (C : gf_C X E cc nL own rm) (d : decode cc pc = .ok (.ifCond .gt off, 3)) (ht : (pc : Int) + off = (tgt : Int)) (hx : gf_R x) (kt : 0 < x → gf_G X E Q nL φ μ tgt lv st) (kf : ¬ (0 < x) → gf_G X E Q nL φ μ (pc + 3) lv st) : gf_G X E Q nL φ μ pc lv (.int (gf_i x) :: st) := by
  intro H locs ls hl hW hS
  have e := gf_i_lt gf_R0 hx
  rw [gf_i0] at e
  exact lv_if_gt C.1 C.2.1 d ht (fun h => kt (e.mp h) H locs ls hl hW hS) (fun h => kf (fun z => h (e.mpr z)) H locs ls hl hW hS)
theorem gf_icmp_gt {x y off : Int} (tgt : Nat) (C : gf_C X E cc nL own rm) (d : decode cc pc = .ok (.if_icmp .gt off, 3)) (ht : (pc : Int) + off = (tgt : Int)) (hx : gf_R x) (hy : gf_R y) (kt : y < x → gf_G X E Q nL φ μ tgt lv st) (kf : ¬ (y < x) → gf_G X E Q nL φ μ (pc + 3) lv st) : gf_G X E Q nL φ μ pc lv (.int (gf_i y) :: .int (gf_i x) :: st) := by
  intro H locs ls hl hW hS
  have e := gf_i_lt hy hx
  exact lv_icmp_gt C.1 C.2.1 d ht (fun h => kt (e.mp h) H locs ls hl hW hS) (fun h => kf (fun z => h (e.mpr z)) H locs ls hl hW hS)
theorem gf_if_le {x off : Int} (tgt : Nat) (C : gf_C X E cc nL own rm) (d : decode cc pc = .ok (.ifCond .le off, 3)) (ht : (pc : Int) + off = (tgt : Int)) (hx : gf_R x) (kt : x ≤ 0 → gf_G X E Q nL φ μ tgt lv st) (kf : ¬ (x ≤ 0) → gf_G X E Q nL φ μ (pc + 3) lv st) : gf_G X E Q nL φ μ pc lv (.int (gf_i x) :: st) := by
  intro H locs ls hl hW hS
  have e := gf_i_le hx gf_R0
  rw [gf_i0] at e
  exact lv_if_le C.1 C.2.1 d ht (fun h => kt (e.mp h) H locs ls hl hW hS) (fun h => kf (fun z => h (e.mpr z)) H locs ls hl hW hS)
theorem gf_icmp_le {x y off : Int} (tgt : Nat) (C : gf_C X E cc nL own rm) (d : decode cc pc = .ok (.if_icmp .le off, 3)) (ht : (pc : Int) + off = (tgt : Int)) (hx : gf_R x) (hy : gf_R y) (kt : x ≤ y → gf_G X E Q nL φ μ tgt lv st) (kf : ¬ (x ≤ y) → gf_G X E Q nL φ μ (pc + 3) lv st) : gf_G X E Q nL φ μ pc lv (.int (gf_i y) :: .int (gf_i x) :: st) := by
  intro H locs ls hl hW hS
  have e := gf_i_le hx hy
  exact lv_icmp_le C.1 C.2.1 d ht (fun h => kt (e.mp h) H locs ls hl hW hS) (fun h => kf (fun z => h (e.mpr z)) H locs ls hl hW hS)
end GF1
