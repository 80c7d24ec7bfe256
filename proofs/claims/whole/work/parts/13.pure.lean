/-! THE FIELD AS NUMBERS. D: what stays (row 0: houses, facts, brook; rows 1 .. 6: Y, WIDE, HIGH, KIND of each house, walls and paths of each row as bits); P: the X of all houses, four bits each -/
abbrev FD : Type := Nat → Nat → Nat
def dn (D : FD) : Nat := D 0 0
def dtr (D : FD) : Nat := D 0 1
def dbr (D : FD) : Nat := D 0 2
def dY (D : FD) (h : Nat) : Nat := D 1 h
def dW (D : FD) (h : Nat) : Nat := D 2 h
def dH (D : FD) (h : Nat) : Nat := D 3 h
def dK (D : FD) (h : Nat) : Nat := D 4 h
def dwl (D : FD) (y : Nat) : Nat := D 5 y
def dpt (D : FD) (y : Nat) : Nat := D 6 y
def px (P h : Nat) : Nat := P / 2 ^ (4 * h) % 16
theorem px_lt (P h : Nat) : px P h < 16 := Nat.mod_lt _ (by decide)
theorem and15 (a : Nat) : a &&& 15 = a % 16 := Nat.and_two_pow_sub_one_eq_mod a 4
theorem and1 (a : Nat) : a &&& 1 = a % 2 := Nat.and_two_pow_sub_one_eq_mod a 1
/-- is (x, y) a wall, a path -/
def wallAt (D : FD) (x y : Nat) : Prop := dwl D y / 2 ^ x % 2 = 1
def pathAt (D : FD) (x y : Nat) : Prop := dpt D y / 2 ^ x % 2 = 1
def drowned (D : FD) (P h : Nat) : Prop := dbr D < px P h + dW D h
/-- does house h have the cell (x, y) -/
def inH (D : FD) (P h : Nat) (x : Int32) (y : Nat) : Prop := nI (px P h) ≤ x ∧ x < nI (px P h + dW D h) ∧ dY D h ≤ y ∧ y < dY D h + dH D h
noncomputable def decP (p : Prop) : Bool := @decide p (Classical.propDecidable p)
theorem decP_t {p : Prop} (h : p) : decP p = true := by unfold decP; exact @decide_eq_true p (Classical.propDecidable p) h
theorem decP_f {p : Prop} (h : ¬ p) : decP p = false := by unfold decP; exact @decide_eq_false p (Classical.propDecidable p) h
theorem decP_iff {p : Prop} : decP p = true ↔ p := ⟨fun h => Classical.byContradiction (fun q => by rw [decP_f q] at h; exact absurd h (by decide)), decP_t⟩
/-- the first house that has the cell; how many there are if none -/
noncomputable def hAt (D : FD) (P : Nat) (x : Int32) (y : Nat) : Nat := fa_first (fun h => decP (inH D P h x y)) (dn D)
theorem first_at {p : Nat → Bool} {k n : Nat} (h0 : ∀ j, j < k → p j = false) (h1 : p k = true) (hk : k < n) : fa_first p n = k := by
  have a := fa_first_le p n
  have b := fa_first_no p n
  have c := fa_first_yes p n
  rcases Nat.lt_trichotomy (fa_first p n) k with h | h | h
  · have := h0 _ h
    rw [c (by omega)] at this
    cases this
  · exact h
  · have := b k h
    rw [h1] at this
    cases this
theorem first_none {p : Nat → Bool} {n : Nat} (h0 : ∀ j, j < n → p j = false) : fa_first p n = n := by
  have a := fa_first_le p n
  have c := fa_first_yes p n
  rcases Nat.lt_or_ge (fa_first p n) n with h | h
  · have := h0 _ h
    rw [c h] at this
    cases this
  · omega
theorem hAt_at {D : FD} {P k y : Nat} {x : Int32} (h0 : ∀ j, j < k → ¬ inH D P j x y) (h1 : inH D P k x y) (hk : k < dn D) : hAt D P x y = k := first_at (fun j hj => decP_f (h0 j hj)) (decP_t h1) hk
theorem hAt_none {D : FD} {P y : Nat} {x : Int32} (h0 : ∀ j, j < dn D → ¬ inH D P j x y) : hAt D P x y = dn D := first_none (fun j hj => decP_f (h0 j hj))
theorem hAt_le (D : FD) (P y : Nat) (x : Int32) : hAt D P x y ≤ dn D := fa_first_le _ _
theorem hAt_in {D : FD} {P y : Nat} {x : Int32} (h : hAt D P x y < dn D) : inH D P (hAt D P x y) x y := decP_iff.mp (fa_first_yes _ _ h)
theorem hAt_no {D : FD} {P y j : Nat} {x : Int32} (h : j < hAt D P x y) : ¬ inH D P j x y := fun q => by
  have := fa_first_no _ _ j h
  rw [decP_t q] at this
  cases this
/-- the same as an answer: -1 if none -/
noncomputable def hV (D : FD) (P : Nat) (x : Int32) (y : Nat) : Int32 := if hAt D P x y < dn D then nI (hAt D P x y) else -1
theorem hV_neg {D : FD} {P y : Nat} {x : Int32} (hn : dn D ≤ 6) : hV D P x y < 0 ↔ ¬ hAt D P x y < dn D := by
  unfold hV
  split
  · rename_i h
    exact ⟨fun q => absurd q (nI_pos (by omega)), fun q => absurd h q⟩
  · rename_i h
    exact ⟨fun _ => h, fun _ => by decide⟩
noncomputable def rentN (D : FD) (P h : Nat) : Nat := if decP (drowned D P h) then 0 else px P h * dW D h * dH D h
/-- what stands in a cell, as cell() tells it -/
noncomputable def cellV (D : FD) (P x y : Nat) : Int32 := if hAt D P (nI x) y < dn D then nI (hAt D P (nI x) y) else if decP (wallAt D x y) then -1 else if decP (pathAt D x y) then -2 else if dbr D ≤ x then -3 else -4
def openH (D : FD) (P h : Nat) : Prop := dY D h + dH D h < 8 ∧ pathAt D (px P h) (dY D h + dH D h) ∧ ¬ wallAt D (px P h) (dY D h + dH D h) ∧ ¬ hAt D P (nI (px P h)) (dY D h + dH D h) < dn D
def boxedH (D : FD) (P h : Nat) : Prop := ∀ y, dY D h ≤ y → y < dY D h + dH D h → hAt D P (nI (px P h) - 1) y < dn D ∧ hAt D P (nI (px P h + dW D h)) y < dn D
/-- a lie of house h is stopped there: the end of the field, or a wall, is just east of it -/
def stopH (D : FD) (P h : Nat) : Prop := 16 ≤ px P h + dW D h ∨ ∃ y, dY D h ≤ y ∧ y < dY D h + dH D h ∧ wallAt D (px P h + dW D h) y
def shareH (D : FD) (a b : Nat) : Prop := dY D a < dY D b + dH D b ∧ dY D b < dY D a + dH D a
/-- house b has a cell just east of house a -/
def pushH (D : FD) (P a b : Nat) : Prop := (px P b ≤ px P a + dW D a ∧ px P a + dW D a < px P b + dW D b) ∧ shareH D a b
/-- the Field object at cell f holds D -/
def FCS (M : XM) (f : Nat) (D : FD) : Prop :=
  dn D ≤ 6 ∧ (M.1 f 0 = nI (dtr D) ∧ dtr D < 256) ∧ (M.1 f 1 = nI (dbr D) ∧ dbr D ≤ 15) ∧ M.1 f 2 = nI (dn D) ∧
  (∀ y, y < 8 → M.1 (f + 1) y = nI (dwl D y)) ∧ (∀ y, y < 8 → dwl D y < 65536) ∧ (∀ y, y < 8 → M.1 (f + 2) y = nI (dpt D y)) ∧ (∀ y, y < 8 → dpt D y < 65536) ∧
  (∀ h, h < dn D → M.1 (f + 3) h = nI (dK D h)) ∧ (∀ h, h < dn D → M.1 (f + 4) h = nI (dY D h)) ∧ (∀ h, h < dn D → M.1 (f + 5) h = nI (dW D h)) ∧ (∀ h, h < dn D → M.1 (f + 6) h = nI (dH D h)) ∧
  (∀ h, h < dn D → dK D h ≤ 5 ∧ 1 ≤ dW D h ∧ dW D h ≤ 4 ∧ 1 ≤ dH D h ∧ dH D h ≤ 3 ∧ dY D h + dH D h ≤ 8)
