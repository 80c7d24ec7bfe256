/-! GROUND AND HISTORY: P (the X), L (lies told), K sayings that can be undone, H: the i-th of them, the latest first: the X ahead of it, and who lied (his number and 1; 0: nobody) -/
abbrev FA : Type := Nat × (Nat → Int32) × Nat × (Nat → Nat × Nat)
theorem FCS.keep {M M' : XM} {f : Nat} {D : FD} (h : FCS M f D) (h0 : ∀ b, b < 3 → M'.1 f b = M.1 f b) (h1 : ∀ c b, f + 1 ≤ c → c ≤ f + 6 → M'.1 c b = M.1 c b) : FCS M' f D := by
  obtain ⟨hn6, ⟨hT, hT2⟩, ⟨hB, hB2⟩, hN, hwl, hwl2, hpt, hpt2, hK, hY, hW, hH, hG⟩ := h
  exact ⟨hn6, ⟨by rw [h0 0 (by omega)]; exact hT, hT2⟩, ⟨by rw [h0 1 (by omega)]; exact hB, hB2⟩, by rw [h0 2 (by omega)]; exact hN, fun y hy => by rw [h1 _ _ (by omega) (by omega)]; exact hwl y hy, hwl2, fun y hy => by rw [h1 _ _ (by omega) (by omega)]; exact hpt y hy, hpt2, fun y hy => by rw [h1 _ _ (by omega) (by omega)]; exact hK y hy, fun y hy => by rw [h1 _ _ (by omega) (by omega)]; exact hY y hy, fun y hy => by rw [h1 _ _ (by omega) (by omega)]; exact hW y hy, fun y hy => by rw [h1 _ _ (by omega) (by omega)]; exact hH y hy, hG⟩
def liarC (u : Nat) : Int32 := if u = 0 then -1 else nI (u - 1)
def liarM (u : Nat) : Int32 := if u = 0 then -1000000 else nI (u - 1)
def HC (M : XM) (K : Nat) (H : Nat → Nat × Nat) : Prop := ∃ nx, nx < 24 ∧ M.1 40 2 = nI nx ∧ M.1 40 3 = nI K ∧ K ≤ 24 ∧ ∀ i, i < K → M.1 41 ((nx + 23 - i) % 24) = nI (H i).1 ∧ M.1 42 ((nx + 23 - i) % 24) = liarC (H i).2
def HM (M : XM) (K : Nat) (H : Nat → Nat × Nat) : Prop := M.1 49 17 = nI K ∧ K ≤ 24 ∧ ∀ i, i < K → (∀ a, a < 6 → M.1 58 (7 * (K - 1 - i) + a) = nI (px (H i).1 a)) ∧ M.1 58 (7 * (K - 1 - i) + 6) = liarM (H i).2
def CRep (M : XM) (D : FD) (A : FA) : Prop := FCS M 8 D ∧ M.1 8 3 = nI A.1 ∧ A.1 < 2 ^ 24 ∧ (∀ h, h < dn D → M.1 15 h = A.2.1 h) ∧ HC M A.2.2.1 A.2.2.2
def MRep (M : XM) (D : FD) (A : FA) : Prop := FMS M 54 D ∧ XMP M 54 A.1 ∧ (∀ h, h < dn D → M.1 54 (34 + h) = A.2.1 h) ∧ HM M A.2.2.1 A.2.2.2
def WFA (D : FD) (A : FA) : Prop := GW D A.1 ∧ A.1 < 2 ^ 24 ∧ A.2.2.1 ≤ 24 ∧ ∀ i, i < A.2.2.1 → (A.2.2.2 i).1 < 2 ^ 24 ∧ GW D (A.2.2.2 i).1 ∧ (A.2.2.2 i).2 ≤ dn D
def consH (e : Nat × Nat) (H : Nat → Nat × Nat) : Nat → Nat × Nat := fun i => match i with
  | 0 => e
  | i + 1 => H i
def upL (L : Nat → Int32) (h : Nat) (x : Int32) : Nat → Int32 := fun i => if i = h then x else L i
noncomputable def stepLie (D : FD) (A : FA) (h : Nat) : FA := (slP D A.1 h, upL A.2.1 h (A.2.1 h + 1), min (A.2.2.1 + 1) 24, consH (A.1, h + 1) A.2.2.2)
def stepTrue (A : FA) : FA := (A.1, A.2.1, min (A.2.2.1 + 1) 24, consH (A.1, 0) A.2.2.2)
def isLieN (D : FD) (c : Nat) : Prop := dtr D / 2 ^ (c / 2) % 2 ≠ c % 2
noncomputable def stepSay (D : FD) (A : FA) (h c : Nat) : FA := if decP (isLieN D c) then stepLie D A h else stepTrue A
noncomputable def sayV (D : FD) (A : FA) (h c : Nat) : Nat := if decP (isLieN D c) then slV D A.1 h else 0
def stepUndo (A : FA) : FA := ((A.2.2.2 0).1, if (A.2.2.2 0).2 = 0 then A.2.1 else upL A.2.1 ((A.2.2.2 0).2 - 1) (A.2.1 ((A.2.2.2 0).2 - 1) - 1), A.2.2.1 - 1, fun i => A.2.2.2 (i + 1))
/-- a class's, a reference's saying leaves all other cells -/
def FrC (M M' : XM) : Prop := (∀ a b, ¬ (a = 8 ∧ b = 3) → a ≠ 15 → a ≠ 40 → a ≠ 41 → a ≠ 42 → M'.1 a b = M.1 a b) ∧ M'.2 = M.2
def FrM (M M' : XM) : Prop := (∀ a b, ¬ (a = 49 ∧ b = 17) → a ≠ 54 → a ≠ 58 → M'.1 a b = M.1 a b) ∧ M'.1 54 0 = M.1 54 0 ∧ M'.2 = M.2
theorem FrC.rf (M : XM) : FrC M M := ⟨fun _ _ _ _ _ _ _ => rfl, rfl⟩
theorem FrM.rf (M : XM) : FrM M M := ⟨fun _ _ _ _ _ => rfl, rfl, rfl⟩
theorem FrC.tr {M M1 M2 : XM} (h : FrC M M1) (h2 : FrC M1 M2) : FrC M M2 := ⟨fun a b q1 q2 q3 q4 q5 => (h2.1 a b q1 q2 q3 q4 q5).trans (h.1 a b q1 q2 q3 q4 q5), h2.2.trans h.2⟩
theorem FrM.tr {M M1 M2 : XM} (h : FrM M M1) (h2 : FrM M1 M2) : FrM M M2 := ⟨fun a b q1 q2 q3 => (h2.1 a b q1 q2 q3).trans (h.1 a b q1 q2 q3), h2.2.1.trans h.2.1, h2.2.2.trans h.2.2⟩
theorem stepSay_WF {D : FD} {A : FA} {h c : Nat} (hA : WFA D A) (hn : dn D ≤ 6) (hh : h < dn D) (hw : ∀ h, h < dn D → 1 ≤ dW D h) : WFA D (stepSay D A h c) := by
  obtain ⟨h1, h2, h3, h4⟩ := hA
  unfold stepSay
  split
  · refine ⟨slP_GW h2 hn hh h1 hw, (slP_px h2 hn h1 hw).1, Nat.min_le_right _ _, fun i hi => ?_⟩
    cases i with
    | zero => exact ⟨h2, h1, hh⟩
    | succ i => exact h4 i (by have hi : i + 1 < min (A.2.2.1 + 1) 24 := hi; omega)
  · refine ⟨h1, h2, Nat.min_le_right _ _, fun i hi => ?_⟩
    cases i with
    | zero => exact ⟨h2, h1, Nat.zero_le _⟩
    | succ i => exact h4 i (by have hi : i + 1 < min (A.2.2.1 + 1) 24 := hi; omega)
theorem stepUndo_WF {D : FD} {A : FA} (hA : WFA D A) (hk : 0 < A.2.2.1) : WFA D (stepUndo A) := by
  obtain ⟨h1, h2, h3, h4⟩ := hA
  have h5 := h4 0 hk
  exact ⟨h5.2.1, h5.1, by show A.2.2.1 - 1 ≤ 24; omega, fun i hi => h4 (i + 1) (by have hi : i < A.2.2.1 - 1 := hi; omega)⟩
theorem hist_mod {nx i : Nat} (hn : nx < 24) (hi : i + 1 < 24) : ((nx + 1) % 24 + 23 - (i + 1)) % 24 = (nx + 23 - i) % 24 ∧ ((nx + 1) % 24 + 23 - (i + 1)) % 24 ≠ nx := by omega
/-- the history, one more -/
theorem HC.keep {M M' : XM} {K nx P u : Nat} {H : Nat → Nat × Nat} (hnx : nx < 24) (hK : K ≤ 24) (h : ∀ i, i < K → M.1 41 ((nx + 23 - i) % 24) = nI (H i).1 ∧ M.1 42 ((nx + 23 - i) % 24) = liarC (H i).2)
    (h2 : M'.1 40 2 = nI ((nx + 1) % 24)) (h3 : M'.1 40 3 = nI (min (K + 1) 24)) (h4 : ∀ b, M'.1 41 b = if b = nx then nI P else M.1 41 b) (h5 : ∀ b, M'.1 42 b = if b = nx then liarC u else M.1 42 b) : HC M' (min (K + 1) 24) (consH (P, u) H) := by
  refine ⟨(nx + 1) % 24, Nat.mod_lt _ (by decide), h2, h3, Nat.min_le_right _ _, fun i hi => ?_⟩
  cases i with
  | zero =>
    have e : ((nx + 1) % 24 + 23 - 0) % 24 = nx := by omega
    rw [e, h4, h5, if_pos rfl, if_pos rfl]
    exact ⟨rfl, rfl⟩
  | succ i =>
    obtain ⟨e1, e2⟩ := hist_mod (i := i) hnx (by omega)
    rw [h4, h5, if_neg e2, if_neg e2, e1]
    exact h i (by omega)
theorem HC.undo {M M' : XM} {K nx : Nat} {H : Nat → Nat × Nat} (hnx : nx < 24) (hK : K ≤ 24) (hK0 : 0 < K) (h : ∀ i, i < K → M.1 41 ((nx + 23 - i) % 24) = nI (H i).1 ∧ M.1 42 ((nx + 23 - i) % 24) = liarC (H i).2)
    (h2 : M'.1 40 2 = nI ((nx + 23) % 24)) (h3 : M'.1 40 3 = nI (K - 1)) (h4 : ∀ b, M'.1 41 b = M.1 41 b) (h5 : ∀ b, M'.1 42 b = M.1 42 b) : HC M' (K - 1) (fun i => H (i + 1)) := by
  refine ⟨(nx + 23) % 24, Nat.mod_lt _ (by decide), h2, h3, by omega, fun i hi => ?_⟩
  have e : ((nx + 23) % 24 + 23 - i) % 24 = (nx + 23 - (i + 1)) % 24 := by omega
  rw [h4, h5, e]
  exact h (i + 1) (by omega)
