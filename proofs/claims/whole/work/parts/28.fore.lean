/-! FORETOLD. stB: the X when of the first k sayings those of the set were lies -/
noncomputable def stB (D : FD) (it : Nat → Nat) (P : Nat) : Nat → Nat → Nat
  | 0, _ => P
  | k + 1, s => if s.testBit k = true then slP D (stB D it P k s) (it k) else stB D it P k s
theorem stB_ok {D : FD} {it : Nat → Nat} {P : Nat} (hn : dn D ≤ 6) (hw : ∀ h, h < dn D → 1 ≤ dW D h) (hP : P < 2 ^ 24) (hg : GW D P) : ∀ (k s : Nat), (∀ j, j < k → it j < dn D) → stB D it P k s < 2 ^ 24 ∧ GW D (stB D it P k s)
  | 0, _, _ => ⟨hP, hg⟩
  | k + 1, s, h => by
    obtain ⟨i1, i2⟩ := stB_ok hn hw hP hg k s (fun j hj => h j (by omega))
    unfold stB
    split
    · exact ⟨(slP_px i1 hn i2 hw).1, slP_GW i1 hn (h k (by omega)) i2 hw⟩
    · exact ⟨i1, i2⟩
theorem stB_cong {D : FD} {it : Nat → Nat} {P : Nat} : ∀ (k s t : Nat), (∀ j, j < k → s.testBit j = t.testBit j) → stB D it P k s = stB D it P k t
  | 0, _, _, _ => rfl
  | k + 1, s, t, h => by rw [stB, stB, h k (by omega), stB_cong k s t (fun j hj => h j (by omega))]
theorem tb_high {s k j : Nat} (hs : s < 2 ^ k) (hj : j < k) : (s + 2 ^ k).testBit j = s.testBit j := by
  rw [Nat.add_comm]
  exact Nat.testBit_two_pow_add_gt hj s
theorem tb_top {s k : Nat} (hs : s < 2 ^ k) : (s + 2 ^ k).testBit k = true := by
  rw [Nat.add_comm, Nat.testBit_two_pow_add_eq, Nat.testBit_lt_two_pow hs]; rfl
theorem stB_high {D : FD} {it : Nat → Nat} {P s k : Nat} (hs : s < 2 ^ k) : stB D it P (k + 1) (s + 2 ^ k) = slP D (stB D it P k s) (it k) := by
  rw [stB, if_pos (tb_top hs), stB_cong k (s + 2 ^ k) s (fun j hj => tb_high hs hj)]
theorem stB_low {D : FD} {it : Nat → Nat} {P s k : Nat} (hs : s < 2 ^ k) : stB D it P (k + 1) s = stB D it P k s := by
  rw [stB, Nat.testBit_lt_two_pow hs]; simp
/-- a set fits: all houses stand where the row v tells -/
def fitS (D : FD) (it : Nat → Nat) (P n : Nat) (v : Nat → Int32) (s : Nat) : Prop := ∀ h, h < dn D → nI (px (stB D it P n s) h) = v h
noncomputable def ctF (p : Nat → Prop) : Nat → Nat | 0 => 0 | s + 1 => ctF p s + (if decP (p s) then 1 else 0)
theorem ctF_t {p : Nat → Prop} {s : Nat} (h : p s) : ctF p (s + 1) = ctF p s + 1 := by rw [ctF, if_pos (decP_t h)]
theorem ctF_f {p : Nat → Prop} {s : Nat} (h : ¬ p s) : ctF p (s + 1) = ctF p s := by rw [ctF, decP_f h]; rfl
theorem ctF_le (p : Nat → Prop) : ∀ s, ctF p s ≤ s | 0 => Nat.le_refl _ | s + 1 => by have := ctF_le p s; unfold ctF; split <;> omega
theorem ctF_mono (p : Nat → Prop) : ∀ (d s : Nat), ctF p s ≤ ctF p (s + d)
  | 0, _ => Nat.le_refl _
  | d + 1, s => by
    have h1 := ctF_mono p d s
    show _ ≤ ctF p (s + d + 1)
    by_cases q : p (s + d)
    · rw [ctF_t q]; omega
    · rw [ctF_f q]; exact h1
theorem ctF_lt {p : Nat → Prop} {s t : Nat} (hs : p s) (h : s < t) : ctF p s < ctF p t := by
  have h1 := ctF_mono p (t - (s + 1)) (s + 1)
  rw [show s + 1 + (t - (s + 1)) = t by omega, ctF_t hs] at h1
  omega
theorem ctF_kth {p : Nat → Prop} {k : Nat} : ∀ {n : Nat}, k < ctF p n → ∃ s, s < n ∧ p s ∧ ctF p s = k
  | 0, h => absurd h (by unfold ctF; omega)
  | n + 1, h => by
    by_cases q : p n
    · rw [ctF_t q] at h
      rcases Nat.lt_or_ge k (ctF p n) with z | z
      · obtain ⟨s, h1, h2⟩ := ctF_kth z
        exact ⟨s, by omega, h2⟩
      · exact ⟨n, by omega, q, by omega⟩
    · rw [ctF_f q] at h
      obtain ⟨s, h1, h2⟩ := ctF_kth h
      exact ⟨s, by omega, h2⟩
theorem ctF_one {p : Nat → Prop} {s t : Nat} (hs : p s) (ht : p t) (e : ctF p s = ctF p t) : s = t := by
  rcases Nat.lt_trichotomy s t with z | z | z
  · have := ctF_lt hs z; omega
  · exact z
  · have := ctF_lt ht z; omega
/-- a fold over the sets that fit -/
noncomputable def ffF {α : Type} (p : Nat → Prop) (F : Nat → α → α) (a : α) : Nat → α | 0 => a | s + 1 => if decP (p s) then F s (ffF p F a s) else ffF p F a s
theorem ffF_t {α : Type} {p : Nat → Prop} {F : Nat → α → α} {a : α} {s : Nat} (h : p s) : ffF p F a (s + 1) = F s (ffF p F a s) := by rw [ffF, if_pos (decP_t h)]
theorem ffF_f {α : Type} {p : Nat → Prop} {F : Nat → α → α} {a : α} {s : Nat} (h : ¬ p s) : ffF p F a (s + 1) = ffF p F a s := by rw [ffF, decP_f h]; rfl
theorem ffF_ge {α : Type} {p : Nat → Prop} {F : Nat → α → α} {a : α} : ∀ (d s : Nat), ctF p (s + d) = ctF p s → ffF p F a (s + d) = ffF p F a s
  | 0, _, _ => rfl
  | d + 1, s, h => by
    have h1 := ctF_mono p d s
    have h2 := ctF_mono p 1 (s + d)
    have h3 : ctF p (s + d + 1) = ctF p s := h
    have h4 : ¬ p (s + d) := fun z => by rw [ctF_t z] at h3; omega
    show ffF p F a (s + d + 1) = _
    rw [ffF_f h4, ffF_ge d s (by omega)]
theorem ffF_ct {α : Type} {p : Nat → Prop} {F : Nat → α → α} {a : α} {s t : Nat} (h : ctF p s = ctF p t) : ffF p F a s = ffF p F a t := by
  rcases Nat.le_total s t with z | z
  · have := ffF_ge (p := p) (F := F) (a := a) (t - s) s (by rw [show s + (t - s) = t by omega]; exact h.symm)
    rw [show s + (t - s) = t by omega] at this
    exact this.symm
  · have := ffF_ge (p := p) (F := F) (a := a) (s - t) t (by rw [show t + (s - t) = s by omega]; exact h)
    rw [show t + (s - t) = s by omega] at this
    exact this
/-- what lies() answers -/
def isAns (p : Nat → Prop) (N : Nat) (i r : Int32) : Prop := (i = -1 ∧ r = nI (ctF p N)) ∨ (∃ s, s < N ∧ p s ∧ i = nI (ctF p s) ∧ r = nI s) ∨ (i ≠ -1 ∧ (∀ s, s < N → p s → i ≠ nI (ctF p s)) ∧ r = -1000000)
theorem nI_ne_m1 {n : Nat} (h : n < 2 ^ 31) : nI n ≠ -1 := fun z => absurd (z ▸ nI_pos' (n := n) h) (by decide)
theorem isAns_one {p : Nat → Prop} {N : Nat} {i r r' : Int32} (hN : N ≤ 256) (h : isAns p N i r) (h' : isAns p N i r') : r = r' := by
  have hl := ctF_le p
  rcases h with ⟨a1, a2⟩ | ⟨s, a1, a2, a3, a4⟩ | ⟨a1, a2, a3⟩ <;> rcases h' with ⟨b1, b2⟩ | ⟨t, b1, b2, b3, b4⟩ | ⟨b1, b2, b3⟩
  · rw [a2, b2]
  · rw [a1] at b3; exact absurd b3.symm (nI_ne_m1 (by have := hl t; omega))
  · exact absurd a1 b1
  · rw [b1] at a3; exact absurd a3.symm (nI_ne_m1 (by have := hl s; omega))
  · have e : ctF p s = ctF p t := (nI_eq (by have := hl s; omega) (by have := hl t; omega)).mp (a3.symm.trans b3)
    rw [a4, b4, ctF_one a2 b2 e]
  · exact absurd a3 (b2 s a1 a2)
  · exact absurd b1 a1
  · exact absurd b3 (a2 t b1 b2)
  · rw [a3, b3]
/-- the fewest lies: 0 none yet, else the set and 1 -/
noncomputable def fewF (s b : Nat) : Nat := if b = 0 ∨ popc s < popc (b - 1) then s + 1 else b
def encF (b : Nat) : Int32 := if b = 0 then -1000000 else nI (b - 1)
theorem encF_none {b : Nat} (h : b ≤ 256) : encF b = -1000000 ↔ b = 0 := by
  unfold encF
  split
  · rename_i z; exact ⟨fun _ => z, fun _ => rfl⟩
  · rename_i z; exact ⟨fun q => absurd (q ▸ nI_pos' (n := b - 1) (by omega)) (by decide), fun q => absurd q z⟩
theorem fewF_le (p : Nat → Prop) : ∀ s, ffF p fewF 0 s ≤ s
  | 0 => Nat.le_refl _
  | s + 1 => by
    have := fewF_le p s
    by_cases q : p s
    · rw [ffF_t q, fewF]; split <;> omega
    · rw [ffF_f q]; omega
def surF (s b : Nat) : Nat := b &&& s
theorem surF_le (p : Nat → Prop) : ∀ s, ffF p surF 255 s ≤ 255
  | 0 => Nat.le_refl _
  | s + 1 => by
    have := surF_le p s
    by_cases q : p s
    · rw [ffF_t q]; exact Nat.le_trans Nat.and_le_left this
    · rw [ffF_f q]; exact this
def witF (k s b : Nat) : Nat := b + s / 2 ^ k % 2
theorem witF_le (p : Nat → Prop) (k : Nat) : ∀ s, ffF p (witF k) 0 s ≤ ctF p s
  | 0 => Nat.le_refl _
  | s + 1 => by
    have := witF_le p k s
    have hm := Nat.mod_lt (s / 2 ^ k) (show 2 > 0 by decide)
    by_cases q : p s
    · rw [ffF_t q, ctF_t q, witF]; omega
    · rw [ffF_f q, ctF_f q]; exact this
/-- the best question among the first k: (which and 1, 0 none; the greater part) -/
def bqF (w : Nat → Nat) (m : Nat) : Nat → Nat × Nat
  | 0 => (0, m)
  | k + 1 => if max (w k) (m - w k) < (bqF w m k).2 then (k + 1, max (w k) (m - w k)) else bqF w m k
theorem bqF_le (w : Nat → Nat) (m : Nat) : ∀ k, (bqF w m k).1 ≤ k ∧ (bqF w m k).2 ≤ m
  | 0 => ⟨Nat.le_refl _, Nat.le_refl _⟩
  | k + 1 => by
    have := bqF_le w m k
    unfold bqF
    split
    · exact ⟨Nat.le_refl _, by simp only; omega⟩
    · exact ⟨by omega, this.2⟩
theorem bqF_0 (w : Nat → Nat) (k : Nat) : bqF w 0 k = (0, 0) := by
  induction k with
  | zero => rfl
  | succ k ih => unfold bqF; rw [ih]; simp
/-! the row of stands as one number -/
def pkV (v : Nat → Nat) : Nat → Nat | 0 => 0 | k + 1 => pkV v k ||| v k * 2 ^ (4 * k)
theorem pkV_px {v : Nat → Nat} : ∀ (k : Nat), k ≤ 6 → (∀ j, j < k → v j < 16) → pkV v k < 2 ^ (4 * k) ∧ ∀ h, h < k → px (pkV v k) h = v h
  | 0, _, _ => ⟨by simp [pkV], fun h hh => absurd hh (by omega)⟩
  | k + 1, hk, hv => by
    obtain ⟨i1, i2⟩ := pkV_px (v := v) k (by omega) (fun j hj => hv j (by omega))
    have h3 := hv k (by omega)
    have e : pkV v (k + 1) = pkV v k + v k * 2 ^ (4 * k) := by
      rw [pkV]
      have := Nat.two_pow_add_eq_or_of_lt (i := 4 * k) i1 (v k)
      rw [Nat.or_comm, Nat.mul_comm (v k), ← this, Nat.add_comm]
    rw [e]
    have e0 : px (pkV v k) k = 0 := uz_px i1 (by omega) (Nat.le_refl _) (by omega)
    have i1b : pkV v k < 2 ^ 24 := Nat.lt_of_lt_of_le i1 (Nat.pow_le_pow_right (by decide) (by omega))
    have hadd := fun h (hh : h < 6) => nib_add (Q := pkV v k) (b := v k) (k := k) (h := h) (by omega) hh (by omega)
    have hlt := nib_lt (Q := pkV v k) (b := v k) (k := k) i1b (by omega) (by omega)
    refine ⟨uz_of hlt (by omega) (fun h h1 h2 => ?_), fun h hh => ?_⟩
    · rw [hadd h h2, if_neg (by omega), uz_px i1 (by omega) (by omega) h2]
    · rw [hadd h (by omega)]
      rcases Nat.lt_or_ge h k with z | z
      · rw [if_neg (by omega), i2 h z]; omega
      · have z : h = k := by omega
        subst z
        rw [if_pos rfl, e0]; omega
theorem px_ext {P Q n : Nat} (hn : n ≤ 6) (hP : P < 2 ^ (4 * n)) (hQ : Q < 2 ^ (4 * n)) (h : ∀ k, k < n → px P k = px Q k) : P = Q := by
  have a0 := h 0
  have a1 := h 1
  have a2 := h 2
  have a3 := h 3
  have a4 := h 4
  have a5 := h 5
  rcases k7 hn with rfl | rfl | rfl | rfl | rfl | rfl | rfl <;> simp [px] at a0 a1 a2 a3 a4 a5 hP hQ <;> omega
theorem popc_le (a : Nat) : popc a ≤ 16 := by
  unfold popc
  omega
