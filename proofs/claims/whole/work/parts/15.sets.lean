/-! sets of houses as bits -/
theorem tb_or (n j i : Nat) : (n ||| 1 * 2 ^ j).testBit i = (n.testBit i || decide (i = j)) := by rw [Nat.one_mul]; exact fb_bit_set n j i
theorem tb_div (n j : Nat) : n / 2 ^ j % 2 = 1 ↔ n.testBit j = true := by
  rw [Nat.testBit_eq_decide_div_mod_eq]; simp
noncomputable def pset (p : Nat → Prop) : Nat → Nat
  | 0 => 0
  | k + 1 => if decP (p k) then pset p k ||| 1 * 2 ^ k else pset p k
theorem pset_bit (p : Nat → Prop) : ∀ (n i : Nat), (pset p n).testBit i = true ↔ i < n ∧ p i
  | 0, i => by simp [pset]
  | n + 1, i => by
    have ih := pset_bit p n i
    unfold pset
    by_cases h : p n
    · rw [if_pos (decP_t h), tb_or, Bool.or_eq_true, ih, decide_eq_true_eq]
      constructor
      · rintro (⟨a, b⟩ | rfl)
        · exact ⟨by omega, b⟩
        · exact ⟨by omega, h⟩
      · rintro ⟨a, b⟩
        rcases Nat.lt_or_ge i n with z | z
        · exact Or.inl ⟨z, b⟩
        · exact Or.inr (by omega)
    · rw [decP_f h, if_neg (by decide), ih]
      constructor
      · rintro ⟨a, b⟩
        exact ⟨by omega, b⟩
      · rintro ⟨a, b⟩
        rcases Nat.lt_or_ge i n with z | z
        · exact ⟨z, b⟩
        · have z : i = n := by omega
          subst z
          exact absurd b h
theorem bits_lt {s n : Nat} (h : ∀ i, s.testBit i = true → i < n) : s < 2 ^ n := Nat.lt_pow_two_of_testBit s (fun i hi => by
  rcases hb : s.testBit i with _ | _
  · rfl
  · exact absurd (h i hb) (by omega))
theorem bits_eq {s t : Nat} (h : ∀ i, s.testBit i = true ↔ t.testBit i = true) : s = t := Nat.eq_of_testBit_eq (fun i => by
  have := h i
  cases hs : s.testBit i <;> cases ht : t.testBit i <;> simp_all)
theorem pset_lt (p : Nat → Prop) (n : Nat) : pset p n < 2 ^ n := bits_lt (fun i hi => ((pset_bit p n i).mp hi).1)
theorem pset_eq {p : Nat → Prop} {n s : Nat} (h : ∀ i, s.testBit i = true ↔ i < n ∧ p i) : s = pset p n := bits_eq (fun i => (h i).trans (pset_bit p n i).symm)
theorem lt64 {s n : Nat} (h : s < 2 ^ n) (hn : n ≤ 6) : s < 64 := Nat.lt_of_lt_of_le h (Nat.le_trans (Nat.pow_le_pow_right (by decide) hn) (by decide))
theorem p2_lt {k : Nat} (h : k < 6) : 1 * 2 ^ k < 64 := by
  rcases (show k = 0 ∨ k = 1 ∨ k = 2 ∨ k = 3 ∨ k = 4 ∨ k = 5 by omega) with rfl | rfl | rfl | rfl | rfl | rfl <;> decide
theorem or_lt64 {a b : Nat} (ha : a < 64) (hb : b < 64) : a ||| b < 64 := Nat.or_lt_two_pow (n := 6) ha hb
/-- the test 'sliding & ~looked & 1 << h' -/
theorem bits_new {s k h : Nat} (hh : h < 31) : (nI s &&& (nI k ^^^ (-1))) &&& nI (1 * 2 ^ h) = 0 ↔ ¬ (s.testBit h = true ∧ k.testBit h = false) := by
  have e1 : (-1 : Int32) = nI (2 ^ 32 - 1) := by decide
  rw [e1, fb_xorI, fa_and, Nat.one_mul, fa_bit hh, Nat.testBit_and, Nat.testBit_xor, Nat.testBit_two_pow_sub_one]
  have e2 : decide (h < 32) = true := by simp; omega
  rw [e2]
  cases s.testBit h <;> cases k.testBit h <;> simp
/-! what a lie of h0 pushes: the least set that has h0 and, with a, all that a pushes -/
def Rch (D : FD) (P h0 b : Nat) : Prop := ∀ S : Nat → Prop, S h0 → (∀ a b, a < dn D → b < dn D → S a → pushH D P a b → S b) → S b
theorem Rch.self {D : FD} {P h0 : Nat} : Rch D P h0 h0 := fun _ h _ => h
theorem Rch.step {D : FD} {P h0 a b : Nat} (h : Rch D P h0 a) (ha : a < dn D) (hb : b < dn D) (hp : pushH D P a b) : Rch D P h0 b := fun S h1 h2 => h2 a b ha hb (h S h1 h2) hp
theorem Rch.lt {D : FD} {P h0 b : Nat} (h0' : h0 < dn D) (h : Rch D P h0 b) : b < dn D := h (fun b => b < dn D) h0' (fun _ _ _ hb _ _ => hb)
def isStp (D : FD) (P h0 : Nat) : Prop := ∃ a, a < dn D ∧ Rch D P h0 a ∧ stopH D P a
/-- the houses (bits) that slide by a lie of h0 -/
noncomputable def slV (D : FD) (P h0 : Nat) : Nat := if decP (isStp D P h0) then 0 else pset (Rch D P h0) (dn D)
theorem slV_lt (D : FD) (P h0 : Nat) (hn : dn D ≤ 6) : slV D P h0 < 64 := by
  unfold slV
  split
  · decide
  · exact lt64 (pset_lt _ _) hn
theorem slV_stop {D : FD} {P h0 : Nat} (h : isStp D P h0) : slV D P h0 = 0 := by unfold slV; rw [if_pos (decP_t h)]
theorem slV_go {D : FD} {P h0 : Nat} (h : ¬ isStp D P h0) : slV D P h0 = pset (Rch D P h0) (dn D) := by unfold slV; rw [decP_f h]; rfl
theorem slV_bit {D : FD} {P h0 i : Nat} (h : (slV D P h0).testBit i = true) : i < dn D ∧ Rch D P h0 i ∧ ¬ isStp D P h0 := by
  by_cases q : isStp D P h0
  · rw [slV_stop q] at h; simp at h
  · rw [slV_go q] at h
    have := (pset_bit _ _ i).mp h
    exact ⟨this.1, this.2, q⟩
/-- count of bits below n -/
def cntB (s : Nat) : Nat → Nat | 0 => 0 | k + 1 => cntB s k + (if s.testBit k then 1 else 0)
theorem cntB_le (s : Nat) : ∀ n, cntB s n ≤ n | 0 => Nat.le_refl _ | n + 1 => by have := cntB_le s n; unfold cntB; split <;> omega
theorem cntB_mono {s t : Nat} : ∀ {n : Nat}, (∀ i, i < n → s.testBit i = true → t.testBit i = true) → cntB s n ≤ cntB t n
  | 0, _ => Nat.le_refl _
  | n + 1, h => by
    have ih := cntB_mono (n := n) (fun i hi => h i (by omega))
    have h1 := h n (by omega)
    unfold cntB
    split <;> split <;> simp_all <;> omega
theorem cntB_lt {s t i : Nat} : ∀ {n : Nat}, (∀ j, j < n → s.testBit j = true → t.testBit j = true) → i < n → s.testBit i = false → t.testBit i = true → cntB s n < cntB t n
  | 0, _, hi, _, _ => absurd hi (by omega)
  | n + 1, h, hi, h1, h2 => by
    have h3 := h n (by omega)
    rcases Nat.lt_or_ge i n with z | z
    · have ih := cntB_lt (n := n) (fun j hj => h j (by omega)) z h1 h2
      unfold cntB
      split <;> split <;> simp_all <;> omega
    · have z : i = n := by omega
      subst z
      have ih := cntB_mono (s := s) (t := t) (n := i) (fun j hj => h j (by omega))
      unfold cntB
      rw [h1, h2]
      simp
      omega
theorem cntB_all {s : Nat} : ∀ {n : Nat}, n ≤ cntB s n → ∀ i, i < n → s.testBit i = true
  | 0, _, i, hi => absurd hi (by omega)
  | n + 1, h, i, hi => by
    have h1 := cntB_le s n
    unfold cntB at h
    have h2 : s.testBit n = true := by
      rcases hb : s.testBit n with _ | _
      · rw [hb] at h; simp at h; omega
      · rfl
    rw [h2] at h
    simp at h
    rcases Nat.lt_or_ge i n with z | z
    · exact cntB_all (n := n) (by omega) i z
    · rw [show i = n by omega]; exact h2
/-! four bits each -/
def addS (s : Nat) : Nat → Nat | 0 => 0 | k + 1 => addS s k + (s / 2 ^ k % 2) * 2 ^ (4 * k)
theorem k6 {k : Nat} (h : k < 6) : k = 0 ∨ k = 1 ∨ k = 2 ∨ k = 3 ∨ k = 4 ∨ k = 5 := by omega
theorem nib_add {Q b k h : Nat} (hk : k < 6) (hh : h < 6) (hb : px Q k + b < 16) : px (Q + b * 2 ^ (4 * k)) h = px Q h + (if h = k then b else 0) := by
  rcases k6 hk with rfl | rfl | rfl | rfl | rfl | rfl <;> rcases k6 hh with rfl | rfl | rfl | rfl | rfl | rfl <;> simp [px] at hb ⊢ <;> omega
theorem nib_lt {Q b k : Nat} (hQ : Q < 2 ^ 24) (hk : k < 6) (hb : px Q k + b < 16) : Q + b * 2 ^ (4 * k) < 2 ^ 24 := by
  rcases k6 hk with rfl | rfl | rfl | rfl | rfl | rfl <;> simp [px] at hb ⊢ <;> omega
theorem sh_lt (a : Nat) {k : Nat} (hk : k < 6) : (a &&& 1) * 2 ^ (4 * k) < 2 ^ 32 := by
  have h1 : a &&& 1 ≤ 1 := Nat.and_le_right
  rcases k6 hk with rfl | rfl | rfl | rfl | rfl | rfl <;> simp <;> omega
theorem addS_px {P s : Nat} (hP : P < 2 ^ 24) : ∀ (k : Nat), k ≤ 6 → (∀ i, i < k → s.testBit i = true → px P i < 15) → P + addS s k < 2 ^ 24 ∧ ∀ h, h < 6 → px (P + addS s k) h = px P h + (if h < k ∧ s.testBit h = true then 1 else 0)
  | 0, _, _ => ⟨by simpa [addS] using hP, fun h _ => by simp [addS]⟩
  | k + 1, hk, hb => by
    obtain ⟨i1, i2⟩ := addS_px hP k (by omega) (fun i hi => hb i (by omega))
    have e : P + addS s (k + 1) = P + addS s k + (s / 2 ^ k % 2) * 2 ^ (4 * k) := by rw [addS, Nat.add_assoc]
    have hm := Nat.mod_lt (s / 2 ^ k) (show 2 > 0 by decide)
    have hpk := i2 k (by omega)
    have hq := px_lt P k
    have hbk := hb k (by omega)
    have ht := tb_div s k
    rw [if_neg (by omega)] at hpk
    have hlt : px (P + addS s k) k + s / 2 ^ k % 2 < 16 := by
      rcases (show s / 2 ^ k % 2 = 0 ∨ s / 2 ^ k % 2 = 1 by omega) with z | z
      · omega
      · have := hbk (ht.mp z)
        omega
    rw [e]
    refine ⟨nib_lt i1 (by omega) hlt, fun h hh => ?_⟩
    rw [nib_add (by omega) hh hlt, i2 h hh]
    rcases Nat.lt_trichotomy h k with z | z | z
    · by_cases q : s.testBit h = true
      · rw [if_pos ⟨z, q⟩, if_neg (by omega), if_pos ⟨by omega, q⟩]
      · rw [if_neg (fun w => q w.2), if_neg (by omega), if_neg (fun w => q w.2)]
    · subst z
      rw [if_pos rfl, if_neg (by omega)]
      by_cases q : s.testBit h = true
      · rw [if_pos ⟨by omega, q⟩, ht.mpr q]
      · rw [if_neg (fun w => q w.2)]
        have : s / 2 ^ h % 2 ≠ 1 := fun w => q (ht.mp w)
        omega
    · rw [if_neg (by omega), if_neg (by omega), if_neg (by omega)]
