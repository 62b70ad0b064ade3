/-! numbers: machine ints and longs as integers -/
def gf_i (x : Int) : Int32 := Int32.ofInt x
def gf_l (x : Int) : Int64 := Int64.ofInt x
abbrev gf_R (x : Int) : Prop := -2147483648 ≤ x ∧ x ≤ 2147483647
abbrev gf_RL (x : Int) : Prop := -9223372036854775808 ≤ x ∧ x ≤ 9223372036854775807
theorem gf_i_toInt {x : Int} (h : gf_R x) : (gf_i x).toInt = x := Int32.toInt_ofInt_of_le (by omega) (by omega)
theorem gf_l_toInt {x : Int} (h : gf_RL x) : (gf_l x).toInt = x := Int64.toInt_ofInt_of_le (by omega) (by omega)
theorem gf_i_of (v : Int32) : v = gf_i v.toInt := (Int32.ofInt_toInt v).symm
theorem gf_i_rng (v : Int32) : gf_R v.toInt := by
  have h1 := Int32.le_toInt v
  have h2 := Int32.toInt_lt v
  omega
theorem gf_i_lt {a b : Int} (ha : gf_R a) (hb : gf_R b) : gf_i a < gf_i b ↔ a < b := by rw [Int32.lt_iff_toInt_lt, gf_i_toInt ha, gf_i_toInt hb]
theorem gf_i_le {a b : Int} (ha : gf_R a) (hb : gf_R b) : gf_i a ≤ gf_i b ↔ a ≤ b := by rw [Int32.le_iff_toInt_le, gf_i_toInt ha, gf_i_toInt hb]
theorem gf_i_eq {a b : Int} (ha : gf_R a) (hb : gf_R b) : gf_i a = gf_i b ↔ a = b := by rw [← Int32.toInt_inj, gf_i_toInt ha, gf_i_toInt hb]
theorem gf_l_lt {a b : Int} (ha : gf_RL a) (hb : gf_RL b) : gf_l a < gf_l b ↔ a < b := by rw [Int64.lt_iff_toInt_lt, gf_l_toInt ha, gf_l_toInt hb]
theorem gf_l_eq {a b : Int} (ha : gf_RL a) (hb : gf_RL b) : gf_l a = gf_l b ↔ a = b := by rw [← Int64.toInt_inj, gf_l_toInt ha, gf_l_toInt hb]
theorem gf_i0 : gf_i 0 = 0 := by decide +kernel
theorem gf_i_nat {x : Int} (h0 : 0 ≤ x) (h1 : gf_R x) : (gf_i x).toNatClampNeg = x.toNat := Int32.toNatClampNeg_ofInt_of_le (by omega) (by omega)
theorem gf_i_neg {x : Int} (h1 : gf_R x) : gf_i x < 0 ↔ x < 0 := by rw [← gf_i0]; exact gf_i_lt h1 (by decide)
theorem gf_vin {x : Int} {n : Nat} (h0 : 0 ≤ x) (h1 : x < n) (hR : gf_R x) : vp_in (gf_i x) n := by
  intro h
  rcases h with h | h
  · have := (gf_i_neg hR).mp h
    omega
  · rw [gf_i_nat h0 hR] at h
    omega
theorem gf_i_div {a b : Int} (ha : gf_R a) (h0 : 0 ≤ a) (hb : 0 < b) (hb2 : gf_R b) : gf_i a / gf_i b = gf_i (a / b) := by
  have h1 : a / b ≤ a := Int.ediv_le_self b h0
  have h2 : 0 ≤ a / b := Int.ediv_nonneg h0 (by omega)
  rw [← Int32.toInt_inj, Int32.toInt_div, gf_i_toInt ha, gf_i_toInt hb2, gf_i_toInt (by omega), Int.tdiv_eq_ediv_of_nonneg h0]
  exact Int.bmod_eq_of_le (by omega) (by omega)
theorem gf_i_rem {a b : Int} (ha : gf_R a) (h0 : 0 ≤ a) (hb : 0 < b) (hb2 : gf_R b) : gf_i a - gf_i a / gf_i b * gf_i b = gf_i (a % b) := by
  rw [gf_i_div ha h0 hb hb2]
  unfold gf_i
  rw [← Int32.ofInt_mul, ← Int32.ofInt_sub]
  congr 1
  rw [Int.emod_def, Int.mul_comm]
theorem gf_l_tdiv {a b : Int} (ha : gf_RL a) (hb : 0 < b) (hb2 : gf_RL b) : gf_l a / gf_l b = gf_l (a.tdiv b) := by
  have h4 : (a.tdiv b).natAbs ≤ a.natAbs := by rw [Int.natAbs_tdiv]; exact Nat.div_le_self _ _
  have h3 : gf_RL (a.tdiv b) ∨ a.tdiv b = 9223372036854775808 := by omega
  rcases h3 with h3 | h3
  · rw [← Int64.toInt_inj, Int64.toInt_div, gf_l_toInt ha, gf_l_toInt hb2, gf_l_toInt h3]
    exact Int.bmod_eq_of_le (by omega) (by omega)
  · exfalso
    have h5 : 0 ≤ a ∨ a < 0 := by omega
    rcases h5 with h5 | h5
    · omega
    · have h6 : 0 ≤ (-a).tdiv b := Int.tdiv_nonneg (by omega) (by omega)
      rw [Int.neg_tdiv] at h6
      omega
theorem gf_l_div {a b : Int} (ha : gf_RL a) (h0 : 0 ≤ a) (hb : 0 < b) (hb2 : gf_RL b) : gf_l a / gf_l b = gf_l (a / b) := by
  rw [gf_l_tdiv ha hb hb2, Int.tdiv_eq_ediv_of_nonneg h0]
theorem gf_l_rem {a b : Int} (ha : gf_RL a) (h0 : 0 ≤ a) (hb : 0 < b) (hb2 : gf_RL b) : gf_l a - gf_l a / gf_l b * gf_l b = gf_l (a % b) := by
  rw [gf_l_div ha h0 hb hb2]
  unfold gf_l
  rw [← Int64.ofInt_mul, ← Int64.ofInt_sub]
  congr 1
  rw [Int.emod_def, Int.mul_comm]
theorem gf_i2l {a : Int} (ha : gf_R a) : (gf_i a).toInt64 = gf_l a := Int32.toInt64_ofInt (by rw [Int32.toInt_minValue]; omega) (by rw [Int32.toInt_maxValue]; omega)
theorem gf_l2i (a : Int) : (gf_l a).toInt32 = gf_i a := Int64.toInt32_ofInt
/-- an integer cut to an int -/
def gf_w (x : Int) : Int := (Int32.ofInt x).toInt
theorem gf_w_i (x : Int) : gf_i (gf_w x) = gf_i x := by unfold gf_i gf_w; exact Int32.ofInt_toInt _
theorem gf_w_R (x : Int) : gf_R (gf_w x) := gf_i_rng _
theorem gf_w_id {x : Int} (h : gf_R x) : gf_w x = x := gf_i_toInt h
def gf_wl (x : Int) : Int := (Int64.ofInt x).toInt
theorem gf_wl_l (x : Int) : gf_l (gf_wl x) = gf_l x := by unfold gf_l gf_wl; exact Int64.ofInt_toInt _
theorem gf_wl_R (x : Int) : gf_RL (gf_wl x) := by
  have h1 := Int64.le_toInt (Int64.ofInt x)
  have h2 := Int64.toInt_lt (Int64.ofInt x)
  unfold gf_wl
  omega
def gf_b (x : Int) : Int := (Int8.ofInt x).toInt
theorem gf_b_i (x : Int) : (gf_i x).toInt8.toInt32 = gf_i (gf_b x) := by
  unfold gf_i gf_b
  rw [Int32.toInt8_ofInt]
  exact (Int32.ofInt_int8ToInt _).symm
theorem gf_b_R (x : Int) : -128 ≤ gf_b x ∧ gf_b x ≤ 127 := by
  have h1 := Int8.le_toInt (Int8.ofInt x)
  have h2 := Int8.toInt_lt (Int8.ofInt x)
  unfold gf_b
  omega
/-! the world: cell k of the run stands at the address base + k; its slots are integers -/
abbrev gf_M : Type := Int → Int → Int
/-- base, classes and slots, array classes (int, long, byte, Row, Guard, Writing), the addresses of LETTERS and ABOVE -/
abbrev gf_E : Type := Nat × va_G × (Nat → ClassId) × Nat × Nat
def gf_A (E : gf_E) : Nat → Prop := fun q => E.1 ≤ q
def gf_up (μ : gf_M) (k j v : Int) : gf_M := fun a b => if a = k ∧ b = j then v else μ a b
theorem gf_up_s {μ : gf_M} {k j v : Int} : gf_up μ k j v k j = v := by simp [gf_up]
theorem gf_up_k {μ : gf_M} {k j v a b : Int} (h : a ≠ k) : gf_up μ k j v a b = μ a b := by simp [gf_up, h]
theorem gf_up_j {μ : gf_M} {k j v a b : Int} (h : b ≠ j) : gf_up μ k j v a b = μ a b := by simp [gf_up, h]
theorem gf_up_row {μ : gf_M} {k j v a : Int} (h : a ≠ k) : gf_up μ k j v a = μ a := by funext b; exact gf_up_k h
def gf_ad (E : gf_E) (k : Int) : Nat := E.1 + k.toNat
def gf_rf (E : gf_E) (x : Int) : Option Nat := if x < 0 then none else some (gf_ad E x)
def gf_sh (k : Int) : Nat × Nat × Nat := gf_shL.getD k.toNat (9, 0, 0)
def gf_ref (k j : Int) : Int := (gf_rfL.getD k.toNat []).getD j.toNat (-1)
def gf_ft (c j : Nat) : Nat := (gf_ftL.getD c []).getD j 0
def gf_fv (E : gf_E) (t : Nat) (r m : Int) : Value := match t with
  | 0 => .int (gf_i m)
  | 1 => .long (gf_l m)
  | _ => va_rf (gf_rf E r)
def gf_cell (E : gf_E) (sh : Nat × Nat × Nat) (r m : Int → Int) : va_E := match sh with
  | (0, c, N) => .inr (c, (List.range N).map fun j => gf_fv E (gf_ft c j) (r j) (m j))
  | (1, _, N) => .inl (E.2.2.1 0, N, .inl fun j => gf_i (m j))
  | (2, _, N) => .inl (E.2.2.1 1, N, .inr (.inl fun j => gf_l (m j)))
  | (3, _, N) => .inl (E.2.2.1 2, N, .inl fun j => gf_i (m j))
  | (_, c, N) => .inl (E.2.2.1 c, N, .inr (.inr (.inr (.inr fun j => gf_rf E (r j)))))
def gf_ws (E : gf_E) (n : Nat) (ρ μ : gf_M) : va_W := (List.range n).map fun k => (E.1 + k, gf_cell E (gf_sh k) (ρ k) (μ k))
def gf_tys (E : gf_E) : List (ClassId × FieldType) := [(E.2.2.1 0, .int), (E.2.2.1 1, .long), (E.2.2.1 2, .byte), (E.2.2.1 3, .object "GuardFigures$Row"), (E.2.2.1 4, .object "GuardFigures$Guard"), (E.2.2.1 5, .object "GuardFigures$Writing")]
/-- whether the slot holds a long -/
def gf_lg (k j : Int) : Bool := match gf_sh k with
  | (0, c, _) => gf_ft c j.toNat == 1
  | (2, _, _) => true
  | _ => false
def gf_rg (k j x : Int) : Prop := if gf_lg k j = true then gf_RL x else gf_R x
/-- while cells are still made, the next one's address is known -/
def gf_W (E : gf_E) (n : Nat) (ρ μ : gf_M) (H : Heap) : Prop := (n < 81 → H.size = E.1 + n) ∧ va_P E.2.1 gf_cls (gf_ws E n ρ μ) H ∧ ∀ k j : Int, gf_rg k j (μ k j)
theorem gf_ws_get {E : gf_E} {n : Nat} {ρ μ : gf_M} {k : Int} (h0 : 0 ≤ k) (h1 : k < n) : (gf_ws E n ρ μ)[k.toNat]? = some (gf_ad E k, gf_cell E (gf_sh k) (ρ k) (μ k)) := by
  have h2 : k.toNat < n := by omega
  have h3 : ((k.toNat : Nat) : Int) = k := by omega
  simp only [gf_ws, List.getElem?_map, List.getElem?_range h2, Option.map_some, h3, gf_ad]
theorem gf_ws_len {E : gf_E} {n : Nat} {ρ μ : gf_M} : (gf_ws E n ρ μ).length = n := by simp [gf_ws]
theorem gf_ws_at {E : gf_E} {n i : Nat} {ρ μ : gf_M} {q : Nat × va_E} (h : (gf_ws E n ρ μ)[i]? = some q) : i < n ∧ q = (E.1 + i, gf_cell E (gf_sh i) (ρ i) (μ i)) := by
  have hl : i < n := by have := (List.getElem?_eq_some_iff.mp h).1; rwa [gf_ws_len] at this
  refine ⟨hl, ?_⟩
  simp only [gf_ws, List.getElem?_map, List.getElem?_range hl, Option.map_some] at h
  exact (Option.some.inj h).symm
theorem gf_D {E : gf_E} {n : Nat} {ρ μ : gf_M} : va_D (gf_A E) (gf_ws E n ρ μ) := by
  refine ⟨fun i j x y hi hj hxy => ?_, fun k q hk => ?_⟩
  · rw [(gf_ws_at hi).2, (gf_ws_at hj).2] at hxy
    have : E.1 + i = E.1 + j := hxy
    omega
  · rw [(gf_ws_at hk).2]
    exact Nat.le_add_right _ _
theorem gf_ws_set {E : gf_E} {n : Nat} {ρ μ ρ' μ' : gf_M} {k : Int} {e : va_E} (h0 : 0 ≤ k) (h1 : k < n) (he : e = gf_cell E (gf_sh k) (ρ' k) (μ' k)) (hm : ∀ a : Int, a ≠ k → μ' a = μ a) (hr : ∀ a : Int, a ≠ k → ρ' a = ρ a) : (gf_ws E n ρ μ).set k.toNat (gf_ad E k, e) = gf_ws E n ρ' μ' := by
  apply List.ext_getElem?
  intro i
  by_cases hi : i = k.toNat
  · subst hi
    rw [List.getElem?_set_self (by rw [gf_ws_len]; omega), gf_ws_get h0 h1, he]
  · rw [List.getElem?_set_ne (Ne.symm hi)]
    have hik : (i : Int) ≠ k := by omega
    simp only [gf_ws, List.getElem?_map]
    by_cases hl : i < n
    · simp only [List.getElem?_range hl, Option.map_some, hm _ hik, hr _ hik]
    · have : (List.range n)[i]? = none := by simp; omega
      simp [this]
theorem gf_rg_up {μ : gf_M} {k j v : Int} (h : ∀ a b : Int, gf_rg a b (μ a b)) (hv : gf_rg k j v) : ∀ a b : Int, gf_rg a b (gf_up μ k j v a b) := by
  intro a b
  by_cases hab : a = k ∧ b = j
  · obtain ⟨rfl, rfl⟩ := hab
    rw [gf_up_s]
    exact hv
  · have : gf_up μ k j v a b = μ a b := by simp [gf_up, hab]
    rw [this]
    exact h a b
theorem gf_rg_R {k j x : Int} (h : gf_R x) : gf_rg k j x := by
  unfold gf_rg
  split
  · omega
  · exact h
