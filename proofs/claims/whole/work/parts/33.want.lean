/-! BROOK: by how many lies of h alone it is drowned -/
noncomputable def brV (D : FD) (h : Nat) : Nat → Nat → Nat → Int32
  | 0, _, _ => -1000000
  | f + 1, P, k => if decP (drowned D P h) then nI k else if slV D P h = 0 then -1000000 else brV D h f (slP D P h) (k + 1)
theorem slV_self {D : FD} {P h : Nat} (hh : h < dn D) (h0 : ¬ slV D P h = 0) : (slV D P h).testBit h = true := by
  by_cases q : isStp D P h
  · exact absurd (slV_stop q) h0
  · rw [slV_go q, pset_bit]; exact ⟨hh, Rch.self⟩
theorem slP_0 {D : FD} {P h : Nat} (h0 : slV D P h = 0) : slP D P h = P := by
  unfold slP
  rw [h0]
  have : ∀ n, addS 0 n = 0 := fun n => by
    induction n with
    | zero => rfl
    | succ n ih => rw [addS, ih]; simp
  rw [this]
  rfl
theorem slP_self {D : FD} {P h : Nat} (hP : P < 2 ^ 24) (hn : dn D ≤ 6) (hg : GW D P) (hw : ∀ h, h < dn D → 1 ≤ dW D h) (hh : h < dn D) (h0 : ¬ slV D P h = 0) : px (slP D P h) h = px P h + 1 := by
  rw [(slP_px hP hn hg hw).2 h (by omega), if_pos ⟨hh, slV_self hh h0⟩]
theorem brV_dr {D : FD} {h f P k : Nat} (q : drowned D P h) : brV D h (f + 1) P k = nI k := by rw [brV, if_pos (decP_t q)]
theorem brV_no {D : FD} {h f P k : Nat} (q : ¬ drowned D P h) (q2 : slV D P h = 0) : brV D h (f + 1) P k = -1000000 := by rw [brV, decP_f q]; simp [q2]
theorem brV_go {D : FD} {h f P k : Nat} (q : ¬ drowned D P h) (q2 : ¬ slV D P h = 0) : brV D h (f + 1) P k = brV D h f (slP D P h) (k + 1) := by
  show (if decP (drowned D P h) then nI k else if slV D P h = 0 then -1000000 else brV D h f (slP D P h) (k + 1)) = _
  rw [decP_f q, if_neg (by decide), if_neg q2]
/-! WANTED: of codes of n places to the base 6 the first by which h has x or more -/
def okD (D : FD) (h x c : Nat) : Nat → Nat → Prop
  | 0, P => x ≤ px P h
  | j + 1, P => (c / 6 ^ j % 6 < dn D ∧ ¬ drowned D P (c / 6 ^ j % 6)) ∧ okD D h x c j (slP D P (c / 6 ^ j % 6))
theorem dig_same {j i c c2 : Nat} (h : c % 6 ^ j = c2 % 6 ^ j) (hi : i < j) : c / 6 ^ i % 6 = c2 / 6 ^ i % 6 := by
  have e : ∀ z, z / 6 ^ i % 6 = z % 6 ^ (i + 1) / 6 ^ i := fun z => by rw [Nat.pow_succ, Nat.mod_mul_right_div_self]
  have e2 : ∀ z, z % 6 ^ (i + 1) = z % 6 ^ j % 6 ^ (i + 1) := fun z => (Nat.mod_mod_of_dvd z (Nat.pow_dvd_pow 6 (by omega))).symm
  rw [e, e, e2 c, e2 c2, h]
theorem okD_same {D : FD} {h x c c2 : Nat} : ∀ (j P : Nat), c % 6 ^ j = c2 % 6 ^ j → (okD D h x c j P ↔ okD D h x c2 j P)
  | 0, _, _ => Iff.rfl
  | j + 1, P, e => by
    have e1 : c / 6 ^ j % 6 = c2 / 6 ^ j % 6 := dig_same e (by omega)
    have e2 : c % 6 ^ j = c2 % 6 ^ j := by
      rw [← Nat.mod_mod_of_dvd c (Nat.pow_dvd_pow 6 (show j ≤ j + 1 by omega)), e, Nat.mod_mod_of_dvd c2 (Nat.pow_dvd_pow 6 (show j ≤ j + 1 by omega))]
    rw [okD, okD, e1, okD_same j _ e2]
/-- is there a code of j places -/
def exD (D : FD) (h x j P : Nat) : Prop := ∃ c, c < 6 ^ j ∧ okD D h x c j P
/-- c is the first code of j places -/
def fsD (D : FD) (h x j P c : Nat) : Prop := c < 6 ^ j ∧ okD D h x c j P ∧ ∀ c2, c2 < c → ¬ okD D h x c2 j P
theorem fsD_one {D : FD} {h x j P c c2 : Nat} (h1 : fsD D h x j P c) (h2 : fsD D h x j P c2) : c = c2 := by
  rcases Nat.lt_trichotomy c c2 with z | z | z
  · exact absurd h1.2.1 (h2.2.2 c z)
  · exact z
  · exact absurd h2.2.1 (h1.2.2 c2 z)
theorem dig_top {j g c : Nat} (hg : g < 6) (hc : c < 6 ^ j) : (g * 6 ^ j + c) / 6 ^ j % 6 = g ∧ (g * 6 ^ j + c) % 6 ^ j = c % 6 ^ j := by
  have hp : 0 < 6 ^ j := Nat.pos_of_ne_zero (by simp)
  refine ⟨?_, ?_⟩
  · rw [Nat.add_comm, Nat.add_mul_div_right _ _ hp, Nat.div_eq_of_lt hc, Nat.zero_add, Nat.mod_eq_of_lt hg]
  · rw [Nat.add_comm, Nat.add_mul_mod_self_right]
theorem exD_step {D : FD} {h x j P : Nat} (hn : dn D ≤ 6) : exD D h x (j + 1) P ↔ ∃ g, g < dn D ∧ ¬ drowned D P g ∧ exD D h x j (slP D P g) := by
  have hp : 0 < 6 ^ j := Nat.pos_of_ne_zero (by simp)
  constructor
  · rintro ⟨c, hc, ⟨h1, h2⟩, h3⟩
    exact ⟨_, h1, h2, c % 6 ^ j, Nat.mod_lt _ hp, (okD_same j _ (Nat.mod_mod _ _)).mpr h3⟩
  · rintro ⟨g, h1, h2, c, h3, h4⟩
    obtain ⟨e1, e2⟩ := dig_top (j := j) (g := g) (c := c) (by omega) h3
    refine ⟨g * 6 ^ j + c, ?_, ?_⟩
    · have : (g + 1) * 6 ^ j ≤ 6 * 6 ^ j := Nat.mul_le_mul_right _ (by omega)
      rw [Nat.pow_succ, Nat.mul_comm (6 ^ j) 6]
      rw [Nat.add_mul] at this
      omega
    · rw [okD, e1]
      exact ⟨⟨h1, h2⟩, (okD_same j _ e2).mpr h4⟩
theorem fsD_step {D : FD} {h x j P g c : Nat} (hn : dn D ≤ 6) (hg : g < dn D) (hd : ¬ drowned D P g) (hc : fsD D h x j (slP D P g) c) (h0 : ∀ g2, g2 < g → ¬ drowned D P g2 → ¬ exD D h x j (slP D P g2)) : fsD D h x (j + 1) P (g * 6 ^ j + c) := by
  have hp : 0 < 6 ^ j := Nat.pos_of_ne_zero (by simp)
  obtain ⟨e1, e2⟩ := dig_top (j := j) (g := g) (c := c) (by omega) hc.1
  have hlt : g * 6 ^ j + c < 6 ^ (j + 1) := by
    have : (g + 1) * 6 ^ j ≤ 6 * 6 ^ j := Nat.mul_le_mul_right _ (by omega)
    rw [Nat.pow_succ, Nat.mul_comm (6 ^ j) 6]
    rw [Nat.add_mul] at this
    have := hc.1
    omega
  refine ⟨hlt, ?_, fun c2 h2 h3 => ?_⟩
  · rw [okD, e1]; exact ⟨⟨hg, hd⟩, (okD_same j _ e2).mpr hc.2.1⟩
  · obtain ⟨⟨h4, h5⟩, h6⟩ := h3
    have hdm := Nat.div_add_mod c2 (6 ^ j)
    have hml := Nat.mod_lt c2 hp
    have hd6 : c2 / 6 ^ j < 6 := by
      rw [Nat.div_lt_iff_lt_mul hp, Nat.mul_comm 6, ← Nat.pow_succ]; omega
    rw [Nat.mod_eq_of_lt hd6] at h4 h5 h6
    have h7 := (okD_same (c2 := c2 % 6 ^ j) j _ (Nat.mod_mod _ _).symm).mp h6
    rcases Nat.lt_trichotomy (c2 / 6 ^ j) g with z | z | z
    · exact h0 _ z h5 ⟨_, hml, h7⟩
    · rw [z] at h7 hdm
      exact hc.2.2 _ (by rw [Nat.mul_comm] at hdm; omega) h7
    · have : (g + 1) * 6 ^ j ≤ c2 / 6 ^ j * 6 ^ j := Nat.mul_le_mul_right _ z
      rw [Nat.add_mul] at this
      rw [Nat.mul_comm] at hdm
      have := hc.1
      omega
theorem okD_far {D : FD} {h x c : Nat} (hn : dn D ≤ 6) (hw : ∀ h, h < dn D → 1 ≤ dW D h) (hh : h < dn D) : ∀ (j P : Nat), P < 2 ^ 24 → GW D P → okD D h x c j P → x ≤ px P h + j
  | 0, _, _, _, hk => hk
  | j + 1, P, hP, hg, hk => by
    obtain ⟨⟨h1, h2⟩, h3⟩ := hk
    have h4 := okD_far hn hw hh j _ (slP_px hP hn hg hw).1 (slP_GW hP hn h1 hg hw) h3
    have h5 := (slP_px (h0 := c / 6 ^ j % 6) hP hn hg hw).2 h (by omega)
    rw [h5] at h4
    split at h4 <;> omega
