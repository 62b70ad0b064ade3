/-! which guards notice -/
/-- the copy with a slip, with two figures that changed places -/
def pf_cps (f : Int → Int) (m : Int) : Int → Int := fun j => if j = m / 10 then m % 10 else f j
def pf_cpx (f : Int → Int) (k off : Int) : Int → Int := fun j => if j = k + off then f k else if j = k then f (k + off) else f j
/-- all things: mark and copy -/
def pf_T (f : Int → Int) (n : Int) : List (Int × (Int → Int)) := (pf_sl f n.toNat).map (fun m => (m, pf_cps f m)) ++ (pf_ex f 1 (n - 1).toNat).map (fun k => (k, pf_cpx f k 1)) ++ (pf_ex f 2 (n - 2).toNat).map (fun k => (k, pf_cpx f k 2))
theorem pf_T_fst (f : Int → Int) (n : Int) : (pf_T f n).map (fun q => q.1) = pf_sl f n.toNat ++ pf_ex f 1 (n - 1).toNat ++ pf_ex f 2 (n - 2).toNat := by
  simp [pf_T, Function.comp_def]
theorem pf_T_len (f : Int → Int) (n : Int) : (pf_T f n).length = (pf_sl f n.toNat).length + (pf_ex f 1 (n - 1).toNat).length + (pf_ex f 2 (n - 2).toNat).length := by simp only [pf_T, List.length_append, List.length_map]
theorem pf_T_lst {f : Int → Int} {n : Int} {m : gf_M} (h : gf_lst m 54 (pf_sl f n.toNat ++ pf_ex f 1 (n - 1).toNat ++ pf_ex f 2 (n - 2).toNat)) {t : Nat} {q : Int × (Int → Int)} (hq : (pf_T f n)[t]? = some q) : m 54 t = q.1 := by
  refine h t q.1 ?_
  rw [← pf_T_fst, List.getElem?_map, hq]
  rfl
/-- what kind of thing the t-th one is, by the ends of the sorts -/
theorem pf_T_at {f : Int → Int} {n : Int} {t : Nat} {q : Int × (Int → Int)} (hq : (pf_T f n)[t]? = some q) :
    (t < (pf_sl f n.toNat).length ∧ q.1 ∈ pf_sl f n.toNat ∧ q.2 = pf_cps f q.1) ∨ ((pf_sl f n.toNat).length ≤ t ∧ t < (pf_sl f n.toNat).length + (pf_ex f 1 (n - 1).toNat).length ∧ q.1 ∈ pf_ex f 1 (n - 1).toNat ∧ q.2 = pf_cpx f q.1 1) ∨ ((pf_sl f n.toNat).length + (pf_ex f 1 (n - 1).toNat).length ≤ t ∧ q.1 ∈ pf_ex f 2 (n - 2).toNat ∧ q.2 = pf_cpx f q.1 2) := by
  unfold pf_T at hq
  by_cases h1 : t < (pf_sl f n.toNat).length
  · left
    rw [List.append_assoc, List.getElem?_append_left (by simpa using h1), List.getElem?_map] at hq
    cases hz : (pf_sl f n.toNat)[t]? with
    | none => rw [hz] at hq; cases hq
    | some z => rw [hz] at hq; cases hq; exact ⟨h1, List.mem_of_getElem? hz, rfl⟩
  · right
    rw [List.append_assoc, List.getElem?_append_right (by simpa using Nat.not_lt.mp h1)] at hq
    by_cases h2 : t < (pf_sl f n.toNat).length + (pf_ex f 1 (n - 1).toNat).length
    · left
      rw [List.getElem?_append_left (by simp only [List.length_map]; omega), List.getElem?_map] at hq
      cases hz : (pf_ex f 1 (n - 1).toNat)[t - ((pf_sl f n.toNat).map (fun m => (m, pf_cps f m))).length]? with
      | none => rw [hz] at hq; cases hq
      | some z => rw [hz] at hq; cases hq; exact ⟨by omega, h2, List.mem_of_getElem? hz, rfl⟩
    · right
      rw [List.getElem?_append_right (by simp only [List.length_map]; omega), List.getElem?_map] at hq
      cases hz : (pf_ex f 2 (n - 2).toNat)[t - ((pf_sl f n.toNat).map (fun m => (m, pf_cps f m))).length - ((pf_ex f 1 (n - 1).toNat).map (fun k => (k, pf_cpx f k 1))).length]? with
      | none => rw [hz] at hq; cases hq
      | some z => rw [hz] at hq; cases hq; exact ⟨by omega, List.mem_of_getElem? hz, rfl⟩
theorem pf_slr_mem {x k : Int} : ∀ {v : Nat} {y : Int}, y ∈ pf_slr x k v → ∃ j : Int, 0 ≤ j ∧ j < v ∧ j ≠ x ∧ y = k * 10 + j
  | 0, y, h => by simp [pf_slr] at h
  | v + 1, y, h => by
    unfold pf_slr at h
    rcases List.mem_append.mp h with h | h
    · obtain ⟨j, h0, h1, h2, h3⟩ := pf_slr_mem h
      exact ⟨j, h0, by omega, h2, h3⟩
    · by_cases e : (v : Int) = x
      · rw [if_pos e] at h; simp at h
      · rw [if_neg e] at h; simp at h; exact ⟨v, by omega, by omega, e, h⟩
theorem pf_sl_mem {f : Int → Int} : ∀ {k : Nat} {y : Int}, y ∈ pf_sl f k → ∃ i j : Int, 0 ≤ i ∧ i < k ∧ 0 ≤ j ∧ j < 10 ∧ j ≠ f i ∧ y = i * 10 + j
  | 0, y, h => by simp [pf_sl] at h
  | k + 1, y, h => by
    unfold pf_sl at h
    rcases List.mem_append.mp h with h | h
    · obtain ⟨i, j, h0, h1, h2⟩ := pf_sl_mem h
      exact ⟨i, j, h0, by omega, h2⟩
    · obtain ⟨j, h0, h1, h2, h3⟩ := pf_slr_mem h
      exact ⟨k, j, by omega, by omega, h0, by omega, h2, h3⟩
theorem pf_ex_mem {f : Int → Int} {off : Int} : ∀ {k : Nat} {y : Int}, y ∈ pf_ex f off k → 0 ≤ y ∧ y < k ∧ f y ≠ f (y + off)
  | 0, y, h => by simp [pf_ex] at h
  | k + 1, y, h => by
    unfold pf_ex at h
    rcases List.mem_append.mp h with h | h
    · have := pf_ex_mem h
      exact ⟨this.1, by omega, this.2.2⟩
    · by_cases e : f k = f (k + off)
      · rw [if_pos e] at h; simp at h
      · rw [if_neg e] at h; simp at h; subst h; exact ⟨by omega, by omega, e⟩
/-- bits from a on, c of them -/
def pf_nb (P : Nat → Bool) (a : Nat) : Nat → Nat
  | 0 => 0
  | c + 1 => if P (a + c) = true then pf_nb P a c ||| 2 ^ (a + c) else pf_nb P a c
theorem pf_nb_bit (P : Nat → Bool) (a : Nat) : ∀ (c i : Nat), (pf_nb P a c).testBit i = (decide (a ≤ i ∧ i < a + c) && P i)
  | 0, i => by
    have : decide (a ≤ i ∧ i < a + 0) = false := by simp
    show (0 : Nat).testBit i = _
    rw [this]
    simp
  | c + 1, i => by
    have ih := pf_nb_bit P a c i
    unfold pf_nb
    by_cases hp : P (a + c) = true
    · rw [if_pos hp, Nat.testBit_or, ih, Nat.testBit_two_pow]
      by_cases e : a + c = i
      · subst e; simp [hp]
      · have e2 : decide (a + c = i) = false := by simp [e]
        rw [e2, Bool.or_false]
        congr 1
        have : (a ≤ i ∧ i < a + c) ↔ (a ≤ i ∧ i < a + (c + 1)) := by omega
        simp only [this]
    · rw [if_neg hp, ih]
      by_cases e : a + c = i
      · subst e
        have : P (a + c) = false := by simpa using hp
        simp [this]
      · congr 1
        have : (a ≤ i ∧ i < a + c) ↔ (a ≤ i ∧ i < a + (c + 1)) := by omega
        simp only [this]
theorem pf_nb_lt (P : Nat → Bool) (a : Nat) (c : Nat) : pf_nb P a c < 2 ^ (a + c) := by
  induction c with
  | zero => simp [pf_nb]; exact Nat.pow_pos (by decide)
  | succ c ih =>
    unfold pf_nb
    have h2 : 2 ^ (a + (c + 1)) = 2 ^ (a + c) * 2 := by rw [← Nat.add_assoc, Nat.pow_succ]
    split
    · exact Nat.or_lt_two_pow (by omega) (by rw [h2]; have : 0 < 2 ^ (a + c) := Nat.pow_pos (by decide); omega)
    · omega
theorem pf_pow7 {i : Nat} (h : i ≤ 7) : 2 ^ i ≤ 128 := by
  have : i = 0 ∨ i = 1 ∨ i = 2 ∨ i = 3 ∨ i = 4 ∨ i = 5 ∨ i = 6 ∨ i = 7 := by omega
  rcases this with rfl | rfl | rfl | rfl | rfl | rfl | rfl | rfl <;> decide
/-- the bit of one guard among those that noticed -/
theorem pf_and_bit (x i : Nat) : (x &&& 2 ^ i = 0) ↔ x.testBit i = false := by
  constructor
  · intro h
    have := congrArg (fun z => z.testBit i) h
    simpa [Nat.testBit_and, Nat.testBit_two_pow] using this
  · intro h
    apply Nat.eq_of_testBit_eq
    intro j
    simp only [Nat.testBit_and, Nat.testBit_two_pow, Nat.zero_testBit]
    by_cases e : i = j
    · subst e; simp [h]
    · simp [e]
/-- whether guard g notices a copy -/
def pf_no (μ : gf_M) (f : Int → Int) (n : Int) (c : Int → Int) (i : Nat) : Bool := decide (pf_reck (μ (24 + i) 0) (μ (24 + i) 1) (μ (24 + i) 2) c n ≠ pf_reck (μ (24 + i) 0) (μ (24 + i) 1) (μ (24 + i) 2) f n)
