/-! what a guard reckons, as integers -/
abbrev gf_rm (f L : Nat) : Room := { frames := f, cells := 0, slots := 0, locals := L }
theorem gf_pm {X : gf_X} {E : gf_E} {Q : State → Prop} {nL : Nat} {φ : gf_F} {μ m : gf_M} {pc : Nat} {lv : List (Nat × Value)} {st : List Value} (h : m = μ) (kk : gf_G X E Q nL φ μ pc lv st) : gf_G X E Q nL φ m pc lv st := h ▸ kk
theorem pf_mulb {a b A B : Int} (ha : 0 ≤ a ∧ a ≤ A) (hb : 0 ≤ b ∧ b ≤ B) : 0 ≤ a * b ∧ a * b ≤ A * B :=
  ⟨Int.mul_nonneg ha.1 hb.1, Int.mul_le_mul ha.2 hb.2 hb.1 (Int.le_trans ha.1 ha.2)⟩
def pf_wt (first step p : Int) : Int := (first + p * step) % 10
theorem pf_wt_R (first step p : Int) : 0 ≤ pf_wt first step p ∧ pf_wt first step p ≤ 9 := by unfold pf_wt; omega
def pf_cs (x : Int) : Int := x / 10 + x % 10
def pf_fol (kind first step sofar place figure size : Int) : Int :=
  if kind = 1 then (sofar + figure * pf_wt first step place) % 11
  else if kind = 2 ∨ kind = 5 then (sofar + pf_cs (figure * pf_wt first step place)) % 10
  else if kind = 3 then (sofar * first + figure + step) % 10
  else if kind = 4 then (sofar + figure * pf_wt first step (size - 1 - place)) % 11
  else (sofar + figure * pf_wt first step place) % 10
theorem pf_fol_R (kind first step sofar place figure size : Int) : 0 ≤ pf_fol kind first step sofar place figure size ∧ pf_fol kind first step sofar place figure size ≤ 10 := by
  unfold pf_fol
  repeat' split
  all_goals omega
def pf_fin (kind sofar size : Int) : Int := if kind = 5 then (2 * sofar + size) % 10 else sofar
/-- what it has so far behind n figures -/
def pf_rec (kind first step : Int) (f : Int → Int) (size : Int) : Nat → Int
  | 0 => 0
  | n + 1 => pf_fol kind first step (pf_rec kind first step f size n) n (f n) size
theorem pf_rec_R (kind first step : Int) (f : Int → Int) (size : Int) (n : Nat) : 0 ≤ pf_rec kind first step f size n ∧ pf_rec kind first step f size n ≤ 10 := by
  cases n with
  | zero => unfold pf_rec; omega
  | succ n => unfold pf_rec; exact pf_fol_R _ _ _ _ _ _ _
def pf_reck (kind first step : Int) (f : Int → Int) (size : Int) : Int := pf_fin kind (pf_rec kind first step f size size.toNat) size
theorem pf_fin_R {kind sofar size : Int} (h : 0 ≤ sofar ∧ sofar ≤ 10) : 0 ≤ pf_fin kind sofar size ∧ pf_fin kind sofar size ≤ 10 := by
  unfold pf_fin
  split <;> omega
theorem pf_reck_R (kind first step : Int) (f : Int → Int) (size : Int) : 0 ≤ pf_reck kind first step f size ∧ pf_reck kind first step f size ≤ 10 := pf_fin_R (pf_rec_R _ _ _ _ _ _)
theorem pf_rec_congr {kind first step : Int} {f g : Int → Int} {size : Int} : ∀ (n : Nat), (∀ j : Int, 0 ≤ j → j < n → f j = g j) → pf_rec kind first step f size n = pf_rec kind first step g size n
  | 0, _ => rfl
  | n + 1, h => by
    unfold pf_rec
    rw [pf_rec_congr n (fun j h0 h1 => h j h0 (by omega)), h n (by omega) (by omega)]
theorem pf_reck_congr {kind first step : Int} {f g : Int → Int} {size : Int} (h : ∀ j : Int, 0 ≤ j → j < size → f j = g j) : pf_reck kind first step f size = pf_reck kind first step g size := by
  unfold pf_reck
  rw [pf_rec_congr size.toNat (fun j h0 h1 => h j h0 (by omega))]
/-- a guard's cells hold a kind, a first weight, a step -/
def gf_okG (μ : gf_M) (g : Int) : Prop := (0 ≤ μ g 0 ∧ μ g 0 ≤ 5) ∧ (0 ≤ μ g 1 ∧ μ g 1 ≤ 9) ∧ (0 ≤ μ g 2 ∧ μ g 2 ≤ 9)
/-- row k has figures at its first n places -/
def gf_okF (μ : gf_M) (k n : Int) : Prop := ∀ j : Int, 0 ≤ j → j < n → 0 ≤ μ k j ∧ μ k j ≤ 9
/-- a guard of kind k is of kind w, too -/
def pf_is (k w : Int) : Prop := k = w ∨ (0 < k ∧ w = 0) ∨ (k = 4 ∧ w = 1) ∨ (k = 5 ∧ w = 2)
theorem pf_above {x : Int} (h : 0 ≤ x ∧ x < 6) : (x = 0 → ([-1, 0, 0, 0, 1, 2] : List Int).getD x.toNat 0 = -1) ∧ (1 ≤ x ∧ x ≤ 3 → ([-1, 0, 0, 0, 1, 2] : List Int).getD x.toNat 0 = 0) ∧ (x = 4 → ([-1, 0, 0, 0, 1, 2] : List Int).getD x.toNat 0 = 1) ∧ (x = 5 → ([-1, 0, 0, 0, 1, 2] : List Int).getD x.toNat 0 = 2) := by
  have : x = 0 ∨ x = 1 ∨ x = 2 ∨ x = 3 ∨ x = 4 ∨ x = 5 := by omega
  rcases this with rfl | rfl | rfl | rfl | rfl | rfl <;> decide
