/-! rows of small library methods, copies, bits -/
def gf_min (a b : Int) : Int := if b < a then b else a
def gf_max (a b : Int) : Int := if a < b then b else a
def gf_abs (a : Int) : Int := if 0 ≤ a then a else 0 - a
def gf_shl (a k : Int) : Int := a * 2 ^ k.toNat
def gf_shr (a k : Int) : Int := a / 2 ^ k.toNat
def gf_and (a b : Int) : Int := ((a.toNat &&& b.toNat : Nat) : Int)
def gf_or (a b : Int) : Int := ((a.toNat ||| b.toNat : Nat) : Int)
theorem gf_wCp : Cond.native arraycopyName ∈ gf_tbl ∧ Cond.static arraycopyName ∈ gf_tbl ∧ Cond.initialized "java/lang/System" ∈ gf_tbl := ⟨gf_mem 335 (by decide +kernel) (by decide +kernel), gf_mem 334 (by decide +kernel) (by decide +kernel), gf_mem 81 (by decide +kernel) (by decide +kernel)⟩
theorem gf_iN {x : Int} (h : 0 ≤ x) : gf_i x = Int32.ofNat x.toNat := by
  rw [← Int32.ofInt_eq_ofNat]
  unfold gf_i
  congr 1
  omega
theorem gf_iandN (m n : Nat) : Int32.ofNat m &&& Int32.ofNat n = Int32.ofNat (m &&& n) := by
  apply Int32.toBitVec.inj
  apply BitVec.eq_of_toNat_eq
  simp [Nat.and_mod_two_pow]
theorem gf_iorN (m n : Nat) : Int32.ofNat m ||| Int32.ofNat n = Int32.ofNat (m ||| n) := by
  apply Int32.toBitVec.inj
  apply BitVec.eq_of_toNat_eq
  simp [Nat.or_mod_two_pow]
theorem gf_shlD : ∀ n : Nat, n < 31 → Int32.ofInt 1 <<< (Int32.ofInt n &&& 31) = Int32.ofInt (1 * 2 ^ n) := by decide +kernel
theorem gf_shrD : ∀ n : Nat, n < 32 → ((Int32.ofInt n &&& 31).toBitVec.smod 32).toNat = n := by decide +kernel
section GF6
variable {X : gf_X} {E : gf_E} {Q : State → Prop} {nL : Nat} {φ : gf_F} {μ : gf_M} {pc : Nat} {lv : List (Nat × Value)} {st : List Value} {cc : ByteArray} {own : String} {rm : Room} {index : Nat} {x y : Int}
theorem gf_iand (C : gf_C X E cc nL own rm) (d : decode cc pc = .ok (.iand, 1)) (h : 0 ≤ x ∧ 0 ≤ y) (kk : gf_G X E Q nL φ μ (pc + 1) lv (.int (gf_i (gf_and x y)) :: st)) : gf_G X E Q nL φ μ pc lv (.int (gf_i y) :: .int (gf_i x) :: st) := by
  intro H locs ls hl hW hS
  refine lv_iand C.1 C.2.1 d ?_
  have e : gf_i x &&& gf_i y = gf_i (gf_and x y) := by
    rw [gf_iN h.1, gf_iN h.2, gf_iandN, gf_iN (x := gf_and x y) (by unfold gf_and; omega)]
    rfl
  rw [e]
  exact kk H locs ls hl hW hS
theorem gf_ior (C : gf_C X E cc nL own rm) (d : decode cc pc = .ok (.ior, 1)) (h : 0 ≤ x ∧ 0 ≤ y) (kk : gf_G X E Q nL φ μ (pc + 1) lv (.int (gf_i (gf_or x y)) :: st)) : gf_G X E Q nL φ μ pc lv (.int (gf_i y) :: .int (gf_i x) :: st) := by
  intro H locs ls hl hW hS
  refine lv_ior C.1 C.2.1 d ?_
  have e : gf_i x ||| gf_i y = gf_i (gf_or x y) := by
    rw [gf_iN h.1, gf_iN h.2, gf_iorN, gf_iN (x := gf_or x y) (by unfold gf_or; omega)]
    rfl
  rw [e]
  exact kk H locs ls hl hW hS
theorem gf_ishl (C : gf_C X E cc nL own rm) (d : decode cc pc = .ok (.ishl, 1)) (h : x = 1 ∧ 0 ≤ y ∧ y ≤ 30) (kk : gf_G X E Q nL φ μ (pc + 1) lv (.int (gf_i (gf_shl x y)) :: st)) : gf_G X E Q nL φ μ pc lv (.int (gf_i y) :: .int (gf_i x) :: st) := by
  intro H locs ls hl hW hS
  obtain ⟨rfl, h0, h1⟩ := h
  refine lv_ishl C.1 C.2.1 d ?_
  have e := gf_shlD y.toNat (by omega)
  rw [show ((y.toNat : Nat) : Int) = y by omega] at e
  have e2 : gf_i 1 <<< (gf_i y &&& 31) = gf_i (gf_shl 1 y) := e
  rw [e2]
  exact kk H locs ls hl hW hS
theorem gf_ishr (C : gf_C X E cc nL own rm) (d : decode cc pc = .ok (.ishr, 1)) (h : 0 ≤ x ∧ x ≤ 2147483647 ∧ 0 ≤ y ∧ y ≤ 31) (kk : gf_G X E Q nL φ μ (pc + 1) lv (.int (gf_i (gf_shr x y)) :: st)) : gf_G X E Q nL φ μ pc lv (.int (gf_i y) :: .int (gf_i x) :: st) := by
  intro H locs ls hl hW hS
  refine lv_ishr C.1 C.2.1 d ?_
  have e0 := gf_shrD y.toNat (by omega)
  rw [show ((y.toNat : Nat) : Int) = y by omega] at e0
  have e : gf_i x >>> (gf_i y &&& 31) = gf_i (gf_shr x y) := by
    rw [gf_iN h.1]
    have := pk_shrN (n := x.toNat) (by omega) (gf_i y &&& 31) y.toNat e0
    have e3 : nI x.toNat = Int32.ofNat x.toNat := rfl
    rw [← e3, this]
    have hq : gf_shr x y = ((x.toNat / 2 ^ y.toNat : Nat) : Int) := by
      unfold gf_shr
      rw [Int.natCast_ediv]
      congr 1
      omega
    rw [hq, gf_iN (Int.natCast_nonneg _)]
    rfl
  rw [e]
  exact kk H locs ls hl hW hS
set_option maxRecDepth 100000 in
theorem gf_mmin (C : gf_C X E cc nL own rm) (hw : Cond.methodLink own index Lib.Math.min.name ∈ gf_tbl) (d : decode cc pc = .ok (.invokestatic index, 3)) (h : gf_R x ∧ gf_R y) (hr : 1 ≤ rm.frames ∧ (st.map fun v => v.category).sum + 15 ≤ rm.locals ∧ φ.1 = 0 ∧ φ.2.1 = 0) (kk : gf_G X E Q nL φ μ (pc + 3) lv (.int (gf_i (gf_min x y)) :: st)) : gf_G X E Q nL φ μ pc lv (.int (gf_i y) :: .int (gf_i x) :: st) := by
  intro H locs ls hl hW hS
  have hts := C.2.2.2.2.1
  refine va_mmin C.1 C.2.1 (by rw [C.2.2.1]; exact hl.1.symm) C.2.2.2.1 (hts _ hw) (hts _ (gf_mem 295 (by decide +kernel) (by decide +kernel))) (hts _ (gf_mem 80 (by decide +kernel) (by decide +kernel))) (hts _ (gf_mem 296 rfl (by decide +kernel))) (by rw [C.2.2.2.2.2.2.2.1]; exact hr.1) (by rw [C.2.2.2.2.2.2.2.1]; omega) (by rw [hr.2.2.1]; exact Nat.zero_le _) (by rw [hr.2.2.2]; exact Nat.zero_le _) d ?_
  have e : (if gf_i y < gf_i x then gf_i y else gf_i x) = gf_i (gf_min x y) := by
    unfold gf_min
    by_cases hlt : y < x
    · rw [if_pos ((gf_i_lt h.2 h.1).mpr hlt), if_pos hlt]
    · rw [if_neg (fun z => hlt ((gf_i_lt h.2 h.1).mp z)), if_neg hlt]
  rw [e]
  exact kk H locs ls hl hW hS
set_option maxRecDepth 100000 in
theorem gf_mmax (C : gf_C X E cc nL own rm) (hw : Cond.methodLink own index Lib.Math.max.name ∈ gf_tbl) (d : decode cc pc = .ok (.invokestatic index, 3)) (h : gf_R x ∧ gf_R y) (hr : 1 ≤ rm.frames ∧ (st.map fun v => v.category).sum + 15 ≤ rm.locals ∧ φ.1 = 0 ∧ φ.2.1 = 0) (kk : gf_G X E Q nL φ μ (pc + 3) lv (.int (gf_i (gf_max x y)) :: st)) : gf_G X E Q nL φ μ pc lv (.int (gf_i y) :: .int (gf_i x) :: st) := by
  intro H locs ls hl hW hS
  have hts := C.2.2.2.2.1
  refine va_mmax C.1 C.2.1 (by rw [C.2.2.1]; exact hl.1.symm) C.2.2.2.1 (hts _ hw) (hts _ (gf_mem 650 (by decide +kernel) (by decide +kernel))) (hts _ (gf_mem 80 (by decide +kernel) (by decide +kernel))) (hts _ (gf_mem 651 rfl (by decide +kernel))) (by rw [C.2.2.2.2.2.2.2.1]; exact hr.1) (by rw [C.2.2.2.2.2.2.2.1]; omega) (by rw [hr.2.2.1]; exact Nat.zero_le _) (by rw [hr.2.2.2]; exact Nat.zero_le _) d ?_
  have e : (if gf_i x < gf_i y then gf_i y else gf_i x) = gf_i (gf_max x y) := by
    unfold gf_max
    by_cases hlt : x < y
    · rw [if_pos ((gf_i_lt h.1 h.2).mpr hlt), if_pos hlt]
    · rw [if_neg (fun z => hlt ((gf_i_lt h.1 h.2).mp z)), if_neg hlt]
  rw [e]
  exact kk H locs ls hl hW hS
set_option maxRecDepth 100000 in
theorem gf_mabs (C : gf_C X E cc nL own rm) (hw : Cond.methodLink own index Lib.Math.abs.name ∈ gf_tbl) (d : decode cc pc = .ok (.invokestatic index, 3)) (h : gf_R x) (hr : 1 ≤ rm.frames ∧ (st.map fun v => v.category).sum + 15 ≤ rm.locals ∧ φ.1 = 0 ∧ φ.2.1 = 0) (kk : gf_G X E Q nL φ μ (pc + 3) lv (.int (gf_i (gf_abs x)) :: st)) : gf_G X E Q nL φ μ pc lv (.int (gf_i x) :: st) := by
  intro H locs ls hl hW hS
  have hts := C.2.2.2.2.1
  refine va_mabs C.1 C.2.1 (by rw [C.2.2.1]; exact hl.1.symm) C.2.2.2.1 (hts _ hw) (hts _ (gf_mem 466 (by decide +kernel) (by decide +kernel))) (hts _ (gf_mem 80 (by decide +kernel) (by decide +kernel))) (hts _ (gf_mem 467 rfl (by decide +kernel))) (by rw [C.2.2.2.2.2.2.2.1]; exact hr.1) (by rw [C.2.2.2.2.2.2.2.1]; omega) (by rw [hr.2.2.1]; exact Nat.zero_le _) (by rw [hr.2.2.2]; exact Nat.zero_le _) d ?_
  have e : (if 0 ≤ gf_i x then gf_i x else 0 - gf_i x) = gf_i (gf_abs x) := by
    unfold gf_abs
    by_cases hlt : 0 ≤ x
    · rw [if_pos (by rw [← gf_i0]; exact (gf_i_le gf_R0 h).mpr hlt), if_pos hlt]
    · rw [if_neg (fun z => hlt (by rw [← gf_i0] at z; exact (gf_i_le gf_R0 h).mp z)), if_neg hlt]
      unfold gf_i
      rw [Int32.ofInt_sub]
      rfl
  rw [e]
  exact kk H locs ls hl hW hS
set_option maxRecDepth 100000 in
theorem gf_mminl (C : gf_C X E cc nL own rm) (hw : Cond.methodLink own index Lib.MathLoose.min_long.x ∈ gf_tbl) (d : decode cc pc = .ok (.invokestatic index, 3)) (h : gf_RL x ∧ gf_RL y) (hr : 1 ≤ rm.frames ∧ (st.map fun v => v.category).sum + 15 ≤ rm.locals ∧ φ.1 = 0 ∧ φ.2.1 = 0) (kk : gf_G X E Q nL φ μ (pc + 3) lv (.long (gf_l (gf_min x y)) :: st)) : gf_G X E Q nL φ μ pc lv (.long (gf_l y) :: .long (gf_l x) :: st) := by
  intro H locs ls hl hW hS
  have hts := C.2.2.2.2.1
  refine va_mmin_long C.1 C.2.1 (by rw [C.2.2.1]; exact hl.1.symm) C.2.2.2.1 (hts _ hw) (hts _ (gf_mem 605 (by decide +kernel) (by decide +kernel))) (hts _ (gf_mem 80 (by decide +kernel) (by decide +kernel))) (hts _ (gf_mem 606 rfl (by decide +kernel))) (by rw [C.2.2.2.2.2.2.2.1]; exact hr.1) (by rw [C.2.2.2.2.2.2.2.1]; omega) (by rw [hr.2.2.1]; exact Nat.zero_le _) (by rw [hr.2.2.2]; exact Nat.zero_le _) d ?_
  have e : (if gf_l y < gf_l x then gf_l y else gf_l x) = gf_l (gf_min x y) := by
    unfold gf_min
    by_cases hlt : y < x
    · rw [if_pos ((gf_l_lt h.2 h.1).mpr hlt), if_pos hlt]
    · rw [if_neg (fun z => hlt ((gf_l_lt h.2 h.1).mp z)), if_neg hlt]
  rw [e]
  exact kk H locs ls hl hW hS
set_option maxRecDepth 100000 in
theorem gf_mmaxl (C : gf_C X E cc nL own rm) (hw : Cond.methodLink own index Lib.MathLoose.max_long.x ∈ gf_tbl) (d : decode cc pc = .ok (.invokestatic index, 3)) (h : gf_RL x ∧ gf_RL y) (hr : 1 ≤ rm.frames ∧ (st.map fun v => v.category).sum + 15 ≤ rm.locals ∧ φ.1 = 0 ∧ φ.2.1 = 0) (kk : gf_G X E Q nL φ μ (pc + 3) lv (.long (gf_l (gf_max x y)) :: st)) : gf_G X E Q nL φ μ pc lv (.long (gf_l y) :: .long (gf_l x) :: st) := by
  intro H locs ls hl hW hS
  have hts := C.2.2.2.2.1
  refine va_mmax_long C.1 C.2.1 (by rw [C.2.2.1]; exact hl.1.symm) C.2.2.2.1 (hts _ hw) (hts _ (gf_mem 670 (by decide +kernel) (by decide +kernel))) (hts _ (gf_mem 80 (by decide +kernel) (by decide +kernel))) (hts _ (gf_mem 671 rfl (by decide +kernel))) (by rw [C.2.2.2.2.2.2.2.1]; exact hr.1) (by rw [C.2.2.2.2.2.2.2.1]; omega) (by rw [hr.2.2.1]; exact Nat.zero_le _) (by rw [hr.2.2.2]; exact Nat.zero_le _) d ?_
  have e : (if gf_l y < gf_l x then gf_l x else gf_l y) = gf_l (gf_max x y) := by
    unfold gf_max
    by_cases hlt : x < y
    · rw [if_neg (fun z => by have := (gf_l_lt h.2 h.1).mp z; omega), if_pos hlt]
    · by_cases h2 : y < x
      · rw [if_pos ((gf_l_lt h.2 h.1).mpr h2), if_neg hlt]
      · rw [if_neg (fun z => h2 ((gf_l_lt h.2 h.1).mp z)), if_neg hlt, show y = x by omega]
  rw [e]
  exact kk H locs ls hl hW hS
/-- a long that may have run over is told cut -/
theorem gf_lretw {Po : Int → gf_M → Prop} (C : gf_C X E cc nL own rm) (hQ : gf_Rl X E Q φ Po) (d : decode cc pc = .ok (.lreturn, 1)) (hp : Po (gf_wl x) μ) : gf_G X E Q nL φ μ pc lv [.long (gf_l x)] := by
  rw [← gf_wl_l]
  exact gf_lret C hQ d (gf_wl_R x) hp
theorem gf_iastw {c N : Nat} {k v : Int} (C : gf_C X E cc nL own rm) (d : decode cc pc = .ok (.iastore, 1)) (hk : gf_is φ.2.2.1 k 1 c N) (hx : 0 ≤ x ∧ x < (N : Int)) (kk : gf_G X E Q nL φ (gf_up μ k x (gf_w v)) (pc + 1) lv st) : gf_G X E Q nL φ μ pc lv (.int (gf_i v) :: .int (gf_i x) :: .ref (gf_ad E k) :: st) := by
  rw [← gf_w_i]
  exact gf_iast C d hk hx (gf_w_R v) kk
end GF6
