/-! THE REFERENCE's field: the array of cell a holds D; the X of all houses by P -/
def FMS (M : XM) (a : Nat) (D : FD) : Prop :=
  dn D ≤ 6 ∧ (M.1 a 1 = nI (dtr D) ∧ dtr D < 256) ∧ (M.1 a 2 = nI (dbr D) ∧ dbr D ≤ 15) ∧ M.1 a 3 = nI (dn D) ∧
  (∀ x y, x < 16 → y < 8 → M.1 a (40 + x + 16 * y) = nI (dwl D y / 2 ^ x % 2 + 2 * (dpt D y / 2 ^ x % 2))) ∧
  (∀ h, h < dn D → M.1 a (4 + h) = nI (dK D h)) ∧ (∀ h, h < dn D → M.1 a (16 + h) = nI (dY D h)) ∧ (∀ h, h < dn D → M.1 a (22 + h) = nI (dW D h)) ∧ (∀ h, h < dn D → M.1 a (28 + h) = nI (dH D h)) ∧
  (∀ h, h < dn D → dK D h ≤ 5 ∧ 1 ≤ dW D h ∧ dW D h ≤ 4 ∧ 1 ≤ dH D h ∧ dH D h ≤ 3 ∧ dY D h + dH D h ≤ 8)
def XMP (M : XM) (a P : Nat) : Prop := ∀ h, h < 6 → M.1 a (10 + h) = nI (px P h)
theorem k7 {k : Nat} (h : k ≤ 6) : k = 0 ∨ k = 1 ∨ k = 2 ∨ k = 3 ∨ k = 4 ∨ k = 5 ∨ k = 6 := by omega
/-- no X of a house that isn't there -/
theorem uz_px {n P h : Nat} (hP : P < 2 ^ (4 * n)) (hn : n ≤ 6) (h1 : n ≤ h) (h2 : h < 6) : px P h = 0 := by
  rcases k7 hn with rfl | rfl | rfl | rfl | rfl | rfl | rfl <;> rcases k6 h2 with rfl | rfl | rfl | rfl | rfl | rfl <;> simp [px] at hP ⊢ <;> omega
theorem uz_of {n P : Nat} (hP : P < 2 ^ 24) (hn : n ≤ 6) (h : ∀ h, n ≤ h → h < 6 → px P h = 0) : P < 2 ^ (4 * n) := by
  have a0 := h 0
  have a1 := h 1
  have a2 := h 2
  have a3 := h 3
  have a4 := h 4
  have a5 := h 5
  rcases k7 hn with rfl | rfl | rfl | rfl | rfl | rfl | rfl <;> simp [px] at a0 a1 a2 a3 a4 a5 hP ⊢ <;> omega
/-- houses are within the field and apart -/
def GW (D : FD) (P : Nat) : Prop := (∀ h, h < dn D → px P h + dW D h ≤ 16) ∧ (∀ a b, a < dn D → b < dn D → a ≠ b → shareH D a b → px P a + dW D a ≤ px P b ∨ px P b + dW D b ≤ px P a) ∧ P < 2 ^ (4 * dn D)
def meetH (D : FD) (P a b : Nat) : Prop := (px P b < px P a + 1 + dW D a ∧ px P a + 1 < px P b + dW D b) ∧ dY D b < dY D a + dH D a ∧ dY D a < dY D b + dH D b
theorem push_meet {D : FD} {P a b : Nat} (hg : GW D P) (ha : a < dn D) (hb : b < dn D) (hab : a ≠ b) (hw : 1 ≤ dW D b) (hwa : 1 ≤ dW D a) : pushH D P a b ↔ meetH D P a b := by
  have h := hg.2.1 a b ha hb hab
  unfold pushH meetH shareH at *
  constructor
  · rintro ⟨⟨h1, h2⟩, h3, h4⟩
    have := h ⟨h3, h4⟩
    exact ⟨⟨by omega, by omega⟩, by omega, by omega⟩
  · rintro ⟨⟨h1, h2⟩, h3, h4⟩
    have := h ⟨by omega, by omega⟩
    exact ⟨⟨by omega, by omega⟩, by omega, by omega⟩
theorem push_self {D : FD} {P a : Nat} : ¬ pushH D P a a := fun h => absurd h.1.2 (by omega)
/-- the memory when the houses of s are a yard more east -/
def mvX (M : XM) (s n : Nat) : XM := xum M 54 (fun i => if 10 ≤ i ∧ i < 10 + n then M.1 54 i + (if s.testBit (i - 10) = true then 1 else 0) else M.1 54 i)
theorem mvX_0 (M : XM) (n : Nat) : mvX M 0 n = M := by
  refine xm_ext (fun a b => ?_) (fun _ _ => rfl)
  unfold mvX
  rw [xum_at]
  split
  · rename_i e
    subst e
    simp
  · rfl
/-- what slide has so far -/
def Ksl (D : FD) (P h0 s : Nat) : Prop := (∀ i, s.testBit i = true → i < dn D ∧ Rch D P h0 i) ∧ s.testBit h0 = true
theorem Ksl.lt {D : FD} {P h0 s : Nat} (h : Ksl D P h0 s) (hn : dn D ≤ 6) : s < 64 := lt64 (bits_lt fun i hi => (h.1 i hi).1) hn
theorem Ksl.add {D : FD} {P h0 s a b : Nat} (h : Ksl D P h0 s) (ha : s.testBit a = true) (hb : b < dn D) (hp : pushH D P a b) : Ksl D P h0 (s ||| 1 * 2 ^ b) := by
  refine ⟨fun i hi => ?_, ?_⟩
  · rw [tb_or, Bool.or_eq_true, decide_eq_true_eq] at hi
    rcases hi with z | rfl
    · exact h.1 i z
    · exact ⟨hb, (h.1 a ha).2.step (h.1 a ha).1 hb hp⟩
  · rw [tb_or, h.2]; rfl
theorem Ksl.all {D : FD} {P h0 s : Nat} (h : Ksl D P h0 s) (hc : ∀ i, Rch D P h0 i → s.testBit i = true) : s = pset (Rch D P h0) (dn D) := pset_eq (fun i => ⟨fun z => h.1 i z, fun z => hc i z.2⟩)
theorem mod2and (a b : Nat) : (a % 2 + 2 * b) &&& 1 = a % 2 := by rw [and1]; omega
/-- behind a slide the X are those of P + addS -/
theorem slV_room {D : FD} {P h0 : Nat} (hg : GW D P) (hw : ∀ h, h < dn D → 1 ≤ dW D h) : ∀ i, i < dn D → (slV D P h0).testBit i = true → px P i < 15 := by
  intro i hi hb
  obtain ⟨h1, h2, h3⟩ := slV_bit hb
  have h4 : ¬ stopH D P i := fun z => h3 ⟨i, h1, h2, z⟩
  have h5 := hw i hi
  have h6 : ¬ 16 ≤ px P i + dW D i := fun z => h4 (Or.inl z)
  omega
noncomputable def slP (D : FD) (P h0 : Nat) : Nat := P + addS (slV D P h0) (dn D)
theorem slP_px {D : FD} {P h0 : Nat} (hP : P < 2 ^ 24) (hn : dn D ≤ 6) (hg : GW D P) (hw : ∀ h, h < dn D → 1 ≤ dW D h) : slP D P h0 < 2 ^ 24 ∧ ∀ h, h < 6 → px (slP D P h0) h = px P h + (if h < dn D ∧ (slV D P h0).testBit h = true then 1 else 0) :=
  addS_px hP (dn D) hn (fun i hi hb => slV_room hg hw i hi hb)
theorem slP_GW {D : FD} {P h0 : Nat} (hP : P < 2 ^ 24) (hn : dn D ≤ 6) (hh : h0 < dn D) (hg : GW D P) (hw : ∀ h, h < dn D → 1 ≤ dW D h) : GW D (slP D P h0) := by
  obtain ⟨hP2, hx⟩ := slP_px (h0 := h0) hP hn hg hw
  have key : ∀ a, a < dn D → (slV D P h0).testBit a = true → px P a + dW D a < 16 ∧ ∀ b, b < dn D → pushH D P a b → (slV D P h0).testBit b = true := by
    intro a ha hb
    obtain ⟨h1, h2, h3⟩ := slV_bit hb
    refine ⟨Nat.lt_of_not_le fun z => h3 ⟨a, h1, h2, Or.inl z⟩, fun b hb2 hp => ?_⟩
    rw [slV_go h3, pset_bit]
    exact ⟨hb2, h2.step h1 hb2 hp⟩
  refine ⟨fun h hh2 => ?_, fun a b ha hb hab hs => ?_, uz_of hP2 hn (fun h h1 h2 => by rw [hx h h2, if_neg (by omega), uz_px hg.2.2 hn h1 h2])⟩
  · rw [hx h (by omega)]
    by_cases q : (slV D P h0).testBit h = true
    · rw [if_pos ⟨hh2, q⟩]; have := (key h hh2 q).1; omega
    · rw [if_neg (fun w => q w.2)]; have := hg.1 h hh2; omega
  · have h1 := hg.2.1 a b ha hb hab hs
    have hs2 : shareH D b a := ⟨hs.2, hs.1⟩
    rw [hx a (by omega), hx b (by omega)]
    have wa := hw a ha
    have wb := hw b hb
    by_cases qa : (slV D P h0).testBit a = true <;> by_cases qb : (slV D P h0).testBit b = true
    · rw [if_pos ⟨ha, qa⟩, if_pos ⟨hb, qb⟩]; omega
    · rw [if_pos ⟨ha, qa⟩, if_neg (fun w => qb w.2)]
      have h2 : ¬ pushH D P a b := fun z => qb ((key a ha qa).2 b hb z)
      have h3 : ¬ (px P b ≤ px P a + dW D a ∧ px P a + dW D a < px P b + dW D b) := fun z => h2 ⟨z, hs⟩
      omega
    · rw [if_neg (fun w => qa w.2), if_pos ⟨hb, qb⟩]
      have h2 : ¬ pushH D P b a := fun z => qa ((key b hb qb).2 a ha z)
      have h3 : ¬ (px P a ≤ px P b + dW D b ∧ px P b + dW D b < px P a + dW D a) := fun z => h2 ⟨z, hs2⟩
      omega
    · rw [if_neg (fun w => qa w.2), if_neg (fun w => qb w.2)]; omega
theorem mvX_XMP {M : XM} {D : FD} {P h0 : Nat} (hX : XMP M 54 P) (hP : P < 2 ^ 24) (hn : dn D ≤ 6) (hg : GW D P) (hw : ∀ h, h < dn D → 1 ≤ dW D h) : XMP (mvX M (slV D P h0) (dn D)) 54 (slP D P h0) := by
  intro h hh
  rw [(slP_px hP hn hg hw).2 h hh]
  unfold mvX
  rw [xum_at, if_pos rfl]
  have e := hX h hh
  have e2 : 10 + h - 10 = h := by omega
  by_cases q : h < dn D
  · rw [if_pos ⟨by omega, by omega⟩, e, e2]
    by_cases w : (slV D P h0).testBit h = true
    · rw [if_pos w, if_pos ⟨q, w⟩]; exact nI_1 _
    · rw [if_neg w, if_neg (fun z => w z.2)]; simp
  · rw [if_neg (by omega), if_neg (by omega), e]; rfl
theorem mvX_at {M : XM} {s n a b : Nat} (h : a ≠ 54 ∨ b < 10 ∨ 16 ≤ b) (hn : n ≤ 6) : (mvX M s n).1 a b = M.1 a b := by
  unfold mvX
  rw [xum_at]
  split
  · rename_i e; subst e; rw [if_neg (by omega)]
  · rfl
theorem FMS.keep {M M' : XM} {a : Nat} {D : FD} (h : FMS M a D) (hk : ∀ b, (b < 10 ∨ 16 ≤ b) → b < 168 → M'.1 a b = M.1 a b) : FMS M' a D := by
  obtain ⟨h1, ⟨h2, h2b⟩, ⟨h3, h3b⟩, h4, h5, h6, h7, h8, h9, h10⟩ := h
  refine ⟨h1, ⟨by rw [hk 1 (by omega) (by omega)]; exact h2, h2b⟩, ⟨by rw [hk 2 (by omega) (by omega)]; exact h3, h3b⟩, by rw [hk 3 (by omega) (by omega)]; exact h4, fun x y hx hy => by rw [hk _ (by omega) (by omega)]; exact h5 x y hx hy, fun h hh => by rw [hk _ (by omega) (by omega)]; exact h6 h hh, fun h hh => by rw [hk _ (by omega) (by omega)]; exact h7 h hh, fun h hh => by rw [hk _ (by omega) (by omega)]; exact h8 h hh, fun h hh => by rw [hk _ (by omega) (by omega)]; exact h9 h hh, h10⟩
theorem cntB_0 : ∀ n, cntB 0 n = 0 | 0 => rfl | n + 1 => by rw [cntB, cntB_0 n]; simp
