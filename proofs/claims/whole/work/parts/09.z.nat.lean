theorem nv_pl (i n : Int32) {s : Nat} (hs : s ≤ 40) : (¬ (nI s).toInt64 < i.toInt64 + n.toInt64) ↔ i.toInt + n.toInt ≤ (s : Int) := by
  have h1 := fb_rng i
  have h2 := fb_rng n
  have e : (i.toInt64 + n.toInt64).toInt = i.toInt + n.toInt := by
    rw [fb_addL] <;> rw [Int32.toInt_toInt64, Int32.toInt_toInt64] <;> omega
  rw [fa_lt64, e, Int32.toInt_toInt64, nI_toInt (by omega)]
  omega
theorem xw_acopyN {g : XG} {l : Launch} {y : XY} {d pc : Nat} {lx : List (Option XV)} {M : XM} {Q : Option XV → XM → Prop} {idx k0 k1 n0 n1 sp dp n : Nat} {rest : List XV} (hd : decode y.2.1 pc = .ok (.invokestatic idx, 3)) (hl : Cond.methodLink y.1.cls idx arraycopyName ∈ xTB) (hz : Cond.native arraycopyName ∈ xTB ∧ Cond.static arraycopyName ∈ xTB ∧ Cond.initialized "java/lang/System" ∈ xTB) (hw : Nat.ble (xcs rest) 8 = true) (hs0 : xsh[k0]? = some (.inr (0, n0))) (hs1 : xsh[k1]? = some (.inr (0, n1))) (hn0 : Nat.ble n0 1000 = true) (hn1 : Nat.ble n1 1000 = true)
    (h4 : sp + n ≤ n0) (h5 : dp + n ≤ n1) (h : XW g l y (d + 1) (pc + 3) lx rest (xum M k1 (va_cpy (M.1 k0) (M.1 k1) sp dp n)) Q) : XW g l y (d + 1) pc lx (xi (nI n) :: xi (nI dp) :: xr k1 :: xi (nI sp) :: xr k0 :: rest) M Q := by
  have e0 := Nat.le_of_ble_eq_true hn0
  have e1 := Nat.le_of_ble_eq_true hn1
  refine xw_acopy hd hl hz hw hs0 hs1 (nI_pos (by omega)) (nI_pos (by omega)) (nI_pos (by omega)) ?_ ?_ ?_ <;> rw [nI_clamp (by omega), nI_clamp (by omega)]
  · exact h4
  · exact h5
  · rw [nI_clamp (by omega)]
    exact h
theorem cp_f0 (M : XM) (c a b : Nat) (f : Nat → Int32) (h : b ≤ a) : xum M c (fun i => if a ≤ i ∧ i < b then f i else M.1 c i) = M :=
  xm_ext (fun x y => by rw [xum_at]; by_cases e : x = c <;> grind) (fun _ _ => rfl)
theorem cp_f1 (M : XM) (c a b : Nat) (f f' : Nat → Int32) (h : a < b) (hf : ∀ i, a < i → i < b → f' i = f i) : xum (xup M c a (f a)) c (fun i => if a + 1 ≤ i ∧ i < b then f' i else (xup M c a (f a)).1 c i) = xum M c (fun i => if a ≤ i ∧ i < b then f i else M.1 c i) :=
  xm_ext (fun x y => by simp only [xum_at, xup_at]; by_cases e : x = c <;> grind) (fun _ _ => rfl)
/-- the shape of a Field at cell f -/
def XF (f : Nat) : Prop := xsh[f]? = some (.inl (1, [none, none, none, none, some (some (f + 1)), some (some (f + 2)), some (some (f + 3)), some (some (f + 4)), some (some (f + 5)), some (some (f + 6)), some (some (f + 7))])) ∧ xsh[f + 1]? = some (.inr (0, 8)) ∧ xsh[f + 2]? = some (.inr (0, 8)) ∧ xsh[f + 3]? = some (.inr (0, 6)) ∧ xsh[f + 4]? = some (.inr (0, 6)) ∧ xsh[f + 5]? = some (.inr (0, 6)) ∧ xsh[f + 6]? = some (.inr (0, 6)) ∧ xsh[f + 7]? = some (.inr (0, 6))
theorem xf_8 : XF 8 := ⟨rfl, rfl, rfl, rfl, rfl, rfl, rfl, rfl⟩
theorem xf_16 : XF 16 := ⟨rfl, rfl, rfl, rfl, rfl, rfl, rfl, rfl⟩
theorem xf_im {k : Nat} (h : k < 2) : XF (24 + 8 * k) := by
  rcases (show k = 0 ∨ k = 1 by omega) with rfl | rfl <;> exact ⟨rfl, rfl, rfl, rfl, rfl, rfl, rfl, rfl⟩
theorem xw_iushrN {g : XG} {l : Launch} {y : XY} {d pc : Nat} {lx : List (Option XV)} {st : List XV} {M : XM} {Q : Option XV → XM → Prop} {a s : Nat} (hd : decode y.2.1 pc = .ok (.iushr, 1)) (hs : s < 32) (ha : a < 2 ^ 32) (h : XW g l y d (pc + 1) lx (xi (nI (a / 2 ^ s)) :: st) M Q) : XW g l y d pc lx (xi (nI s) :: xi (nI a) :: st) M Q :=
  xw_iushr hd (by rw [pk_ushrN ha (nI s) s ((show ∀ s, s < 32 → (((nI s).toUInt32 &&& Int32.toUInt32 31).toBitVec % 32).toNat = s by decide) s hs)]; exact h)
