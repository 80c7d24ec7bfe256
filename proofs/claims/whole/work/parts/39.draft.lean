/-! THE DRAFT: what a reading writes -/
def DC (M : XM) (D : FD) (P : Nat) : Prop := FCS M 16 D ∧ M.1 16 3 = nI P ∧ ∀ h, h < dn D → M.1 23 h = 0
def DM (M : XM) (D : FD) (P : Nat) : Prop := FMS M 55 D ∧ XMP M 55 P ∧ (∀ h, h < dn D → M.1 55 (34 + h) = 0) ∧ M.1 55 0 = 1
def WD (D : FD) (P : Nat) : Prop := GW D P ∧ P < 2 ^ 24 ∧ (∀ h, h < dn D → 1 ≤ dK D h) ∧ dn D ≤ 6
def d0 : FD := fun _ _ => 0
theorem WD_0 (t r : Nat) : WD (adF d0 t r) 0 := ⟨⟨fun h z => absurd z (Nat.not_lt_zero h), fun a _ z => absurd z (Nat.not_lt_zero a), show 0 < 2 ^ (4 * 0) by decide⟩, by decide, fun h z => absurd z (Nat.not_lt_zero h), show 0 ≤ 6 by decide⟩
theorem WD_W {D : FD} {P x y : Nat} (h : WD D P) : WD (adW D x y) P := h
theorem WD_P {D : FD} {P y f k : Nat} (h : WD D P) : WD (adP D y f k) P := h
theorem or_bit (a b j : Nat) : (a ||| b) / 2 ^ j % 2 = if a / 2 ^ j % 2 = 1 ∨ b / 2 ^ j % 2 = 1 then 1 else 0 := by
  have h := Nat.testBit_or a b j
  rw [Nat.testBit_eq_decide_div_mod_eq, Nat.testBit_eq_decide_div_mod_eq, Nat.testBit_eq_decide_div_mod_eq] at h
  have h2 : (a ||| b) / 2 ^ j % 2 < 2 := Nat.mod_lt _ (by decide)
  have h3 : (decide (a / 2 ^ j % 2 = 1) || decide (b / 2 ^ j % 2 = 1)) = decide (a / 2 ^ j % 2 = 1 ∨ b / 2 ^ j % 2 = 1) := by simp
  rw [h3, decide_eq_decide] at h
  by_cases q : a / 2 ^ j % 2 = 1 ∨ b / 2 ^ j % 2 = 1
  · rw [if_pos q]; exact h.mpr q
  · rw [if_neg q]
    have := mt h.mp q
    omega
theorem pw_bit : ∀ x, x < 16 → ∀ j, j < 16 → 2 ^ x / 2 ^ j % 2 = if j = x then 1 else 0 := by decide +kernel
theorem pr_bit : ∀ k, k ≤ 16 → ∀ f, f ≤ k → ∀ j, j < 16 → (2 ^ k - 2 ^ f) / 2 ^ j % 2 = if f ≤ j ∧ j < k then 1 else 0 := by decide +kernel
theorem pr_le : ∀ k, k ≤ 16 → ∀ f, f ≤ k → 2 ^ k - 2 ^ f < 2 ^ 16 := by decide +kernel
theorem pw_lt {x : Nat} (h : x < 16) : 2 ^ x < 2 ^ 16 := Nat.pow_lt_pow_right (by decide) h
theorem adW_at (D : FD) (x y v : Nat) : dwl (adW D x y) v = if v = y then dwl D y ||| 2 ^ x else dwl D v := by simp [dwl, adW, du]
theorem adP_at (D : FD) (y f k v : Nat) : dpt (adP D y f k) v = if v = y then dpt D y ||| (2 ^ k - 2 ^ f) else dpt D v := by simp [dpt, adP, du]
theorem FCS_W {M : XM} {D : FD} {x y : Nat} (h : FCS M 16 D) (hx : x < 16) (hy : y < 8) : FCS (xup M 17 y (nI (dwl D y ||| 2 ^ x))) 16 (adW D x y) := by
  obtain ⟨h1, h2, h3, h4, h5, h6, h7, h8, h9, h10, h11, h12, h13⟩ := h
  refine ⟨h1, ⟨(xup_cell _ _ (by decide)).trans h2.1, h2.2⟩, ⟨(xup_cell _ _ (by decide)).trans h3.1, h3.2⟩, (xup_cell _ _ (by decide)).trans h4, fun v hv => ?_, fun v hv => ?_, fun v hv => (xup_cell _ _ (by decide)).trans (h7 v hv), h8, fun v hv => (xup_cell _ _ (by decide)).trans (h9 v hv), fun v hv => (xup_cell _ _ (by decide)).trans (h10 v hv), fun v hv => (xup_cell _ _ (by decide)).trans (h11 v hv), fun v hv => (xup_cell _ _ (by decide)).trans (h12 v hv), h13⟩
  · rw [xup_at, adW_at]
    by_cases q : v = y
    · rw [if_pos ⟨rfl, q⟩, if_pos q]
    · rw [if_neg (fun z => q z.2), if_neg q]; exact h5 v hv
  · rw [adW_at]
    by_cases q : v = y
    · rw [if_pos q]; exact Nat.or_lt_two_pow (n := 16) (h6 y hy) (pw_lt hx)
    · rw [if_neg q]; exact h6 v hv
theorem FCS_P {M : XM} {D : FD} {y f k : Nat} (h : FCS M 16 D) (hf : f ≤ k) (hk : k ≤ 16) (hy : y < 8) : FCS (xup M 18 y (nI (dpt D y ||| (2 ^ k - 2 ^ f)))) 16 (adP D y f k) := by
  obtain ⟨h1, h2, h3, h4, h5, h6, h7, h8, h9, h10, h11, h12, h13⟩ := h
  refine ⟨h1, ⟨(xup_cell _ _ (by decide)).trans h2.1, h2.2⟩, ⟨(xup_cell _ _ (by decide)).trans h3.1, h3.2⟩, (xup_cell _ _ (by decide)).trans h4, fun v hv => (xup_cell _ _ (by decide)).trans (h5 v hv), h6, fun v hv => ?_, fun v hv => ?_, fun v hv => (xup_cell _ _ (by decide)).trans (h9 v hv), fun v hv => (xup_cell _ _ (by decide)).trans (h10 v hv), fun v hv => (xup_cell _ _ (by decide)).trans (h11 v hv), fun v hv => (xup_cell _ _ (by decide)).trans (h12 v hv), h13⟩
  · rw [xup_at, adP_at]
    by_cases q : v = y
    · rw [if_pos ⟨rfl, q⟩, if_pos q]
    · rw [if_neg (fun z => q z.2), if_neg q]; exact h7 v hv
  · rw [adP_at]
    by_cases q : v = y
    · rw [if_pos q]; exact Nat.or_lt_two_pow (n := 16) (h8 y hy) (pr_le k hk f hf)
    · rw [if_neg q]; exact h8 v hv
theorem FMS_W {M : XM} {D : FD} {x y : Nat} (h : FMS M 55 D) (hx : x < 16) (hy : y < 8) : FMS (xup M 55 (40 + x + 16 * y) (M.1 55 (40 + x + 16 * y) ||| 1)) 55 (adW D x y) := by
  obtain ⟨h1, h2, h3, h4, h5, h6, h7, h8, h9, h10⟩ := h
  refine ⟨h1, ⟨(xup_place _ _ (by omega)).trans h2.1, h2.2⟩, ⟨(xup_place _ _ (by omega)).trans h3.1, h3.2⟩, (xup_place _ _ (by omega)).trans h4, fun u v hu hv => ?_, fun v hv => (xup_place _ _ (by have : dn D ≤ 6 := h1; have : v < dn D := hv; omega)).trans (h6 v hv), fun v hv => (xup_place _ _ (by have : dn D ≤ 6 := h1; have : v < dn D := hv; omega)).trans (h7 v hv), fun v hv => (xup_place _ _ (by have : dn D ≤ 6 := h1; have : v < dn D := hv; omega)).trans (h8 v hv), fun v hv => (xup_place _ _ (by have : dn D ≤ 6 := h1; have : v < dn D := hv; omega)).trans (h9 v hv), h10⟩
  rw [xup_at, adW_at]
  show (if _ then _ else _) = nI ((if v = y then dwl D y ||| 2 ^ x else dwl D v) / 2 ^ u % 2 + 2 * (dpt D v / 2 ^ u % 2))
  by_cases q : v = y
  · subst q
    rw [if_pos rfl, or_bit, pw_bit x hx u hu]
    have e1 : dwl D v / 2 ^ u % 2 < 2 := Nat.mod_lt _ (by decide)
    have e2 : dpt D v / 2 ^ u % 2 < 2 := Nat.mod_lt _ (by decide)
    by_cases q2 : u = x
    · subst q2
      rw [if_pos ⟨rfl, rfl⟩, h5 u v hu hv, if_pos (Or.inr (if_pos rfl)), show (1 : Int32) = nI 1 from rfl, fa_or]
      rcases (show dwl D v / 2 ^ u % 2 = 0 ∨ dwl D v / 2 ^ u % 2 = 1 by omega) with z | z <;> rcases (show dpt D v / 2 ^ u % 2 = 0 ∨ dpt D v / 2 ^ u % 2 = 1 by omega) with z2 | z2 <;> rw [z, z2] <;> rfl
    · rw [if_neg (by omega), h5 u v hu hv, if_neg q2]
      rcases (show dwl D v / 2 ^ u % 2 = 0 ∨ dwl D v / 2 ^ u % 2 = 1 by omega) with z | z <;> rw [z] <;> simp
  · rw [if_neg (by omega), if_neg q]; exact h5 u v hu hv
theorem FMS_P {M : XM} {D : FD} {y f k : Nat} (h : FMS M 55 (adP D y f k)) (hf : f ≤ k) (hk : k < 16) (hy : y < 8) : FMS (xup M 55 (40 + k + 16 * y) (M.1 55 (40 + k + 16 * y) ||| 2)) 55 (adP D y f (k + 1)) := by
  obtain ⟨h1, h2, h3, h4, h5, h6, h7, h8, h9, h10⟩ := h
  refine ⟨h1, ⟨(xup_place _ _ (by omega)).trans h2.1, h2.2⟩, ⟨(xup_place _ _ (by omega)).trans h3.1, h3.2⟩, (xup_place _ _ (by omega)).trans h4, fun u v hu hv => ?_, fun v hv => (xup_place _ _ (by have : dn D ≤ 6 := h1; have : v < dn D := hv; omega)).trans (h6 v hv), fun v hv => (xup_place _ _ (by have : dn D ≤ 6 := h1; have : v < dn D := hv; omega)).trans (h7 v hv), fun v hv => (xup_place _ _ (by have : dn D ≤ 6 := h1; have : v < dn D := hv; omega)).trans (h8 v hv), fun v hv => (xup_place _ _ (by have : dn D ≤ 6 := h1; have : v < dn D := hv; omega)).trans (h9 v hv), h10⟩
  have h5 := h5 u v hu hv
  rw [adP_at] at h5
  rw [xup_at, adP_at]
  have h5 : M.1 55 (40 + u + 16 * v) = nI (dwl D v / 2 ^ u % 2 + 2 * ((if v = y then dpt D y ||| (2 ^ k - 2 ^ f) else dpt D v) / 2 ^ u % 2)) := h5
  show (if _ then _ else _) = nI (dwl D v / 2 ^ u % 2 + 2 * ((if v = y then dpt D y ||| (2 ^ (k + 1) - 2 ^ f) else dpt D v) / 2 ^ u % 2))
  by_cases q : v = y
  · subst q
    rw [if_pos rfl, or_bit, pr_bit k (by omega) f hf u hu] at h5
    rw [if_pos rfl, or_bit, pr_bit (k + 1) (by omega) f (by omega) u hu]
    have e1 : dwl D v / 2 ^ u % 2 < 2 := Nat.mod_lt _ (by decide)
    by_cases q2 : u = k
    · subst q2
      have g0 : (if f ≤ u ∧ u < u + 1 then 1 else 0) = 1 := if_pos ⟨hf, by omega⟩
      rw [if_pos ⟨rfl, rfl⟩, h5, g0, show (2 : Int32) = nI 2 from rfl, fa_or, show (if dpt D v / 2 ^ u % 2 = 1 ∨ 1 = 1 then 1 else 0) = 1 from if_pos (Or.inr rfl)]
      rcases (show dwl D v / 2 ^ u % 2 = 0 ∨ dwl D v / 2 ^ u % 2 = 1 by omega) with z | z <;> rw [z] <;> (repeat' split) <;> rfl
    · rw [if_neg (by omega), h5]
      have e : (f ≤ u ∧ u < k) ↔ (f ≤ u ∧ u < k + 1) := by omega
      simp only [e]
  · rw [if_neg q] at h5
    rw [if_neg (by omega), if_neg q]; exact h5
theorem adX_px {D : FD} {P x h : Nat} (hP : P < 2 ^ (4 * dn D)) (hn : dn D < 6) (hx : x < 16) (hh : h < 6) : px (adX D P x) h = if h = dn D then x else px P h := by
  unfold adX
  generalize dn D = n at *
  rw [show P ||| x * 2 ^ (4 * n) = x * 2 ^ (4 * n) + P by rw [Nat.or_comm, Nat.mul_comm, Nat.two_pow_add_eq_or_of_lt hP]]
  rcases k6 hn with rfl | rfl | rfl | rfl | rfl | rfl <;> rcases k6 hh with rfl | rfl | rfl | rfl | rfl | rfl <;> simp [px] at hP ⊢ <;> omega
theorem adX_lt {D : FD} {P x : Nat} (hP : P < 2 ^ (4 * dn D)) (hx : x < 16) : adX D P x < 2 ^ (4 * (dn D + 1)) := by
  unfold adX
  refine Nat.or_lt_two_pow (Nat.lt_of_lt_of_le hP (Nat.pow_le_pow_right (by decide) (by omega))) ?_
  rw [show 4 * (dn D + 1) = 4 + 4 * dn D by omega, Nat.pow_add]
  exact Nat.mul_lt_mul_of_pos_right hx (Nat.two_pow_pos _)
theorem adH_n (D : FD) (k y w h : Nat) : dn (adH D k y w h) = dn D + 1 := by simp [dn, adH]
theorem adH_Y (D : FD) (k y w h j : Nat) : dY (adH D k y w h) j = if j = dn D then y else dY D j := by
  unfold dY adH; by_cases q : j = dn D <;> simp [q]
theorem adH_W (D : FD) (k y w h j : Nat) : dW (adH D k y w h) j = if j = dn D then w else dW D j := by
  unfold dW adH; by_cases q : j = dn D <;> simp [q]
theorem adH_H (D : FD) (k y w h j : Nat) : dH (adH D k y w h) j = if j = dn D then h else dH D j := by
  unfold dH adH; by_cases q : j = dn D <;> simp [q]
theorem adH_K (D : FD) (k y w h j : Nat) : dK (adH D k y w h) j = if j = dn D then k else dK D j := by
  unfold dK adH; by_cases q : j = dn D <;> simp [q]
theorem adH_wl (D : FD) (k y w h j : Nat) : dwl (adH D k y w h) j = dwl D j := by
  unfold dwl adH; by_cases q : j = dn D <;> simp [q]
theorem adH_pt (D : FD) (k y w h j : Nat) : dpt (adH D k y w h) j = dpt D j := by
  unfold dpt adH; by_cases q : j = dn D <;> simp [q]
theorem adH_tr (D : FD) (k y w h : Nat) : dtr (adH D k y w h) = dtr D := by
  unfold dtr adH; simp
theorem adH_br (D : FD) (k y w h : Nat) : dbr (adH D k y w h) = dbr D := by
  unfold dbr adH; simp
theorem nI_le2 {a b : Nat} (h : a ≤ b) (hb : b < 2 ^ 31) : nI a ≤ nI b := by rw [fa_le, nI_toInt (by omega), nI_toInt hb]; omega
theorem room_in {D : FD} {P x y w h a : Nat} (hr : roomP D P x y w h) (hw : 1 ≤ w) (hh : 1 ≤ h) (ha : a < dn D) (hw4 : w ≤ 4) (hs : dY D a < y + h ∧ y < dY D a + dH D a) (hWa : 1 ≤ dW D a ∧ 1 ≤ dH D a) (hg : px P a + dW D a ≤ 16) : px P a + dW D a ≤ x ∨ x + w ≤ px P a := by
  by_cases q : px P a + dW D a ≤ x ∨ x + w ≤ px P a
  · exact q
  · exfalso
    have hp := px_lt P a
    have e := (hr.2.2 (max (px P a) x) (max (dY D a) y) (by omega) (by omega) (by omega) (by omega)).2
    have hle := hAt_le D P (max (dY D a) y) (nI (max (px P a) x))
    refine hAt_no (D := D) (P := P) (x := nI (max (px P a) x)) (y := max (dY D a) y) (j := a) (by omega) ⟨nI_le2 (by omega) (by omega), nI_lt (by omega) (by omega), by omega, by omega⟩
theorem WD_H {D : FD} {P x y w h kd : Nat} (hd : WD D P) (hn : dn D < 6) (hr : roomP D P x y w h) (hx : x < 16) (hw : 1 ≤ w) (hw4 : w ≤ 4) (hh : 1 ≤ h) (hk : 1 ≤ kd) (hhs : ∀ j, j < dn D → 1 ≤ dW D j ∧ 1 ≤ dH D j) : WD (adH D kd y w h) (adX D P x) := by
  obtain ⟨⟨g1, g2, g3⟩, hP, hK, hn6⟩ := hd
  have hpx : ∀ j, j < 6 → px (adX D P x) j = if j = dn D then x else px P j := fun j hj => adX_px g3 hn hx hj
  have hlt := adX_lt (D := D) (P := P) (x := x) g3 hx
  refine ⟨⟨fun j hj => ?_, fun a b ha hb hab hs => ?_, by rw [adH_n]; exact hlt⟩, Nat.lt_of_lt_of_le hlt (Nat.pow_le_pow_right (by decide) (by omega)), fun j hj => ?_, by rw [adH_n]; omega⟩
  · rw [adH_n] at hj
    rw [hpx j (by omega), adH_W]
    by_cases q : j = dn D
    · rw [if_pos q, if_pos q]; exact hr.1
    · rw [if_neg q, if_neg q]; exact g1 j (by omega)
  · rw [adH_n] at ha hb
    unfold shareH at hs
    rw [adH_Y, adH_Y, adH_H, adH_H] at hs
    rw [hpx a (by omega), hpx b (by omega), adH_W, adH_W]
    by_cases qa : a = dn D
    · have qb : ¬ b = dn D := by omega
      simp only [if_pos qa, if_neg qb] at hs ⊢
      have := room_in hr hw hh (a := b) (by omega) hw4 ⟨hs.2, hs.1⟩ (hhs b (by omega)) (g1 b (by omega))
      omega
    · by_cases qb : b = dn D
      · simp only [if_neg qa, if_pos qb] at hs ⊢
        have := room_in hr hw hh (a := a) (by omega) hw4 hs (hhs a (by omega)) (g1 a (by omega))
        omega
      · simp only [if_neg qa, if_neg qb] at hs ⊢
        exact g2 a b (by omega) (by omega) hab hs
  · rw [adH_n] at hj
    rw [adH_K]
    by_cases q : j = dn D
    · rw [if_pos q]; exact hk
    · rw [if_neg q]; exact hK j (by omega)
/-- what addHouse writes -/
def ahM (M : XM) (n : Nat) (kd y w h x2 : Int32) : XM := xup (xup (xup (xup (xup (xup (xup M 19 n kd) 20 n y) 21 n w) 22 n h) 23 n 0) 16 3 x2) 16 2 (nI (n + 1))
theorem DC_H {M : XM} {D : FD} {P x y w h kd : Nat} (hd : DC M D P) (hn : dn D < 6) (hw : 1 ≤ w ∧ w ≤ 4) (hh : 1 ≤ h ∧ h ≤ 3) (hk : kd ≤ 5) (hy : y + h ≤ 8) : DC (ahM M (dn D) (nI kd) (nI y) (nI w) (nI h) (nI (adX D P x))) (adH D kd y w h) (adX D P x) := by
  obtain ⟨⟨h1, h2, h3, h4, h5, h6, h7, h8, h9, h10, h11, h12, h13⟩, hX, hL⟩ := hd
  unfold ahM
  have sp : ∀ j, j < dn (adH D kd y w h) → ¬ j = dn D → j < dn D := fun j hj q => by rw [adH_n] at hj; omega
  refine ⟨⟨by rw [adH_n]; omega, ⟨by rw [adH_tr]; simp only [xup_at]; simpa using h2.1, by rw [adH_tr]; exact h2.2⟩, ⟨by rw [adH_br]; simp only [xup_at]; simpa using h3.1, by rw [adH_br]; exact h3.2⟩, by rw [adH_n]; simp [xup_at], fun v hv => by rw [adH_wl]; simp only [xup_at]; simpa using h5 v hv, fun v hv => by rw [adH_wl]; exact h6 v hv, fun v hv => by rw [adH_pt]; simp only [xup_at]; simpa using h7 v hv, fun v hv => by rw [adH_pt]; exact h8 v hv, fun j hj => ?_, fun j hj => ?_, fun j hj => ?_, fun j hj => ?_, fun j hj => ?_⟩, by simp [xup_at], fun j hj => ?_⟩
  · rw [adH_K]; by_cases q : j = dn D
    · simp [xup_at, q]
    · simp [xup_at, q]; exact h9 j (sp j hj q)
  · rw [adH_Y]; by_cases q : j = dn D
    · simp [xup_at, q]
    · simp [xup_at, q]; exact h10 j (sp j hj q)
  · rw [adH_W]; by_cases q : j = dn D
    · simp [xup_at, q]
    · simp [xup_at, q]; exact h11 j (sp j hj q)
  · rw [adH_H]; by_cases q : j = dn D
    · simp [xup_at, q]
    · simp [xup_at, q]; exact h12 j (sp j hj q)
  · rw [adH_K, adH_W, adH_H, adH_Y]; by_cases q : j = dn D
    · simp only [if_pos q]; omega
    · simp only [if_neg q]; exact h13 j (sp j hj q)
  · by_cases q : j = dn D
    · simp [xup_at, q]
    · simp [xup_at, q]; exact hL j (sp j hj q)
theorem DM_H {M M' : XM} {D : FD} {P x y w h kd : Nat} (hM : FMS M 55 D) (hX : XMP M 55 P) (hL : ∀ h, h < dn D → M.1 55 (34 + h) = 0) (hO : M.1 55 0 = 1) (hP : P < 2 ^ (4 * dn D)) (hn : dn D < 6) (hx : x < 16) (hw : 1 ≤ w ∧ w ≤ 4) (hh : 1 ≤ h ∧ h ≤ 3) (hk : kd ≤ 5) (hy : y + h ≤ 8)
    (e : ∀ b, M'.1 55 b = if b = 3 then nI (dn D + 1) else if b = 28 + dn D then nI h else if b = 22 + dn D then nI w else if b = 16 + dn D then nI y else if b = 10 + dn D then nI x else if b = 34 + dn D then 0 else if b = 4 + dn D then nI kd else M.1 55 b) : DM M' (adH D kd y w h) (adX D P x) := by
  obtain ⟨h1, h2, h3, h4, h5, h6, h7, h8, h9, h10⟩ := hM
  have sp : ∀ j, j < dn (adH D kd y w h) → ¬ j = dn D → j < dn D := fun j hj q => by rw [adH_n] at hj; omega
  have sp2 : ∀ j, j < dn (adH D kd y w h) → j < 6 := fun j hj => by rw [adH_n] at hj; omega
  have ke : ∀ b, b ≠ 3 → b ≠ 28 + dn D → b ≠ 22 + dn D → b ≠ 16 + dn D → b ≠ 10 + dn D → b ≠ 34 + dn D → b ≠ 4 + dn D → M'.1 55 b = M.1 55 b := fun b q1 q2 q3 q4 q5 q6 q7 => by rw [e, if_neg q1, if_neg q2, if_neg q3, if_neg q4, if_neg q5, if_neg q6, if_neg q7]
  refine ⟨⟨by rw [adH_n]; omega, ⟨by rw [adH_tr, ke 1 (by omega) (by omega) (by omega) (by omega) (by omega) (by omega) (by omega)]; exact h2.1, by rw [adH_tr]; exact h2.2⟩, ⟨by rw [adH_br, ke 2 (by omega) (by omega) (by omega) (by omega) (by omega) (by omega) (by omega)]; exact h3.1, by rw [adH_br]; exact h3.2⟩, by rw [adH_n, e, if_pos rfl], fun u v hu hv => by rw [adH_wl, adH_pt, ke _ (by omega) (by omega) (by omega) (by omega) (by omega) (by omega) (by omega)]; exact h5 u v hu hv, fun j hj => ?_, fun j hj => ?_, fun j hj => ?_, fun j hj => ?_, fun j hj => ?_⟩, fun j hj => ?_, fun j hj => ?_, by rw [ke 0 (by omega) (by omega) (by omega) (by omega) (by omega) (by omega) (by omega)]; exact hO⟩
  · have := sp2 j hj
    rw [adH_K]; by_cases q : j = dn D
    · rw [if_pos q, q, e, if_neg (by omega), if_neg (by omega), if_neg (by omega), if_neg (by omega), if_neg (by omega), if_neg (by omega), if_pos rfl]
    · rw [if_neg q, ke _ (by omega) (by omega) (by omega) (by omega) (by omega) (by omega) (by omega)]; exact h6 j (sp j hj q)
  · have := sp2 j hj
    rw [adH_Y]; by_cases q : j = dn D
    · rw [if_pos q, q, e, if_neg (by omega), if_neg (by omega), if_neg (by omega), if_pos rfl]
    · rw [if_neg q, ke _ (by omega) (by omega) (by omega) (by omega) (by omega) (by omega) (by omega)]; exact h7 j (sp j hj q)
  · have := sp2 j hj
    rw [adH_W]; by_cases q : j = dn D
    · rw [if_pos q, q, e, if_neg (by omega), if_neg (by omega), if_pos rfl]
    · rw [if_neg q, ke _ (by omega) (by omega) (by omega) (by omega) (by omega) (by omega) (by omega)]; exact h8 j (sp j hj q)
  · have := sp2 j hj
    rw [adH_H]; by_cases q : j = dn D
    · rw [if_pos q, q, e, if_neg (by omega), if_pos rfl]
    · rw [if_neg q, ke _ (by omega) (by omega) (by omega) (by omega) (by omega) (by omega) (by omega)]; exact h9 j (sp j hj q)
  · rw [adH_K, adH_W, adH_H, adH_Y]; by_cases q : j = dn D
    · simp only [if_pos q]; omega
    · simp only [if_neg q]; exact h10 j (sp j hj q)
  · rw [adX_px hP hn hx hj]
    by_cases q : j = dn D
    · rw [if_pos q, q, e, if_neg (by omega), if_neg (by omega), if_neg (by omega), if_neg (by omega), if_pos rfl]
    · rw [if_neg q, ke _ (by omega) (by omega) (by omega) (by omega) (by omega) (by omega) (by omega)]; exact hX j hj
  · have := sp2 j hj
    by_cases q : j = dn D
    · rw [q, e, if_neg (by omega), if_neg (by omega), if_neg (by omega), if_neg (by omega), if_neg (by omega), if_pos rfl]
    · rw [ke _ (by omega) (by omega) (by omega) (by omega) (by omega) (by omega) (by omega)]; exact hL j (sp j hj q)
