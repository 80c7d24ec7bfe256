/-! THE TEXT: a text is its bytes and how many they are; its tokens, its names, its numbers -/
abbrev TX : Type := (Nat → Nat) × Nat
def skW (T : TX) : Nat → Nat → Nat
  | 0, p => p
  | f + 1, p => if T.1 p = 32 ∨ T.1 p = 10 then skW T f (p + 1) else p
def rnE (T : TX) (lo hi : Nat) : Nat → Nat → Nat
  | 0, p => p
  | f + 1, p => if lo ≤ T.1 p ∧ T.1 p ≤ hi then rnE T lo hi f (p + 1) else p
abbrev isLt (T : TX) (s : Nat) : Prop := 97 ≤ T.1 s ∧ T.1 s ≤ 122
abbrev isDg (T : TX) (s : Nat) : Prop := 48 ≤ T.1 s ∧ T.1 s ≤ 57
def tkS (T : TX) (p : Nat) : Nat := skW T (T.2 - p) p
def enT (T : TX) (s : Nat) : Nat := if s = T.2 then s else if isLt T s then rnE T 97 122 (T.2 - s) s else if isDg T s then rnE T 48 57 (T.2 - s) s else s + 1
def tkE (T : TX) (p : Nat) : Nat := enT T (tkS T p)
def kdT (T : TX) (s : Nat) : Nat := if s = T.2 then 0 else if isLt T s then 1 else if isDg T s then (if enT T s - s ≤ 3 then 2 else 4) else if T.1 s = 59 then 3 else 4
def tkK (T : TX) (p : Nat) : Nat := kdT T (tkS T p)
def nuV (T : TX) (s : Nat) : Nat → Nat
  | 0 => 0
  | k + 1 => 10 * nuV T s k + (T.1 (s + k) - 48)
def tkV (T : TX) (p : Nat) : Nat := nuV T (tkS T p) (min 3 (tkE T p - tkS T p))
def naF (f : Nat → Nat) : Nat → Nat
  | 0 => 0
  | k + 1 => 27 * naF f k + (f k - 96)
theorem skW_le (T : TX) : ∀ (f p : Nat), p ≤ skW T f p ∧ skW T f p ≤ p + f
  | 0, p => ⟨Nat.le_refl _, Nat.le_refl _⟩
  | f + 1, p => by
    have := skW_le T f (p + 1)
    rw [skW]
    split <;> omega
theorem rnE_le (T : TX) (lo hi : Nat) : ∀ (f p : Nat), p ≤ rnE T lo hi f p ∧ rnE T lo hi f p ≤ p + f
  | 0, p => ⟨Nat.le_refl _, Nat.le_refl _⟩
  | f + 1, p => by
    have := rnE_le T lo hi f (p + 1)
    rw [rnE]
    split <;> omega
theorem rnE_run {T : TX} {lo hi i : Nat} : ∀ (f p : Nat), p ≤ i → i < rnE T lo hi f p → lo ≤ T.1 i ∧ T.1 i ≤ hi
  | 0, p, h1, h2 => absurd h2 (by rw [rnE]; omega)
  | f + 1, p, h1, h2 => by
    rw [rnE] at h2
    split at h2
    · rename_i h
      rcases Nat.eq_or_lt_of_le h1 with rfl | h3
      · exact h
      · exact rnE_run f (p + 1) h3 h2
    · omega
theorem rnE_1 {T : TX} {lo hi f p : Nat} (hf : 0 < f) : p < rnE T lo hi f p ↔ (lo ≤ T.1 p ∧ T.1 p ≤ hi) := by
  cases f with
  | zero => omega
  | succ f =>
    rw [rnE]
    have := rnE_le T lo hi f (p + 1)
    split
    · rename_i h
      exact ⟨fun _ => h, fun _ => by omega⟩
    · rename_i h
      exact ⟨fun z => absurd z (Nat.lt_irrefl _), fun z => absurd z h⟩
theorem tkS_le {T : TX} {p : Nat} (h : p ≤ T.2) : p ≤ tkS T p ∧ tkS T p ≤ T.2 := by
  have := skW_le T (T.2 - p) p
  unfold tkS
  omega
theorem enT_end {T : TX} {s : Nat} (h : s = T.2) : enT T s = s := by rw [enT, if_pos h]
theorem enT_lt {T : TX} {s : Nat} (h : ¬ s = T.2) (h2 : isLt T s) : enT T s = rnE T 97 122 (T.2 - s) s := by rw [enT, if_neg h, if_pos h2]
theorem enT_dg {T : TX} {s : Nat} (h : ¬ s = T.2) (h2 : ¬ isLt T s) (h3 : isDg T s) : enT T s = rnE T 48 57 (T.2 - s) s := by rw [enT, if_neg h, if_neg h2, if_pos h3]
theorem enT_ot {T : TX} {s : Nat} (h : ¬ s = T.2) (h2 : ¬ isLt T s) (h3 : ¬ isDg T s) : enT T s = s + 1 := by rw [enT, if_neg h, if_neg h2, if_neg h3]
theorem kdT_end {T : TX} {s : Nat} (h : s = T.2) : kdT T s = 0 := by rw [kdT, if_pos h]
theorem kdT_lt {T : TX} {s : Nat} (h : ¬ s = T.2) (h2 : isLt T s) : kdT T s = 1 := by rw [kdT, if_neg h, if_pos h2]
theorem kdT_dg {T : TX} {s : Nat} (h : ¬ s = T.2) (h2 : ¬ isLt T s) (h3 : isDg T s) : kdT T s = if enT T s - s ≤ 3 then 2 else 4 := by rw [kdT, if_neg h, if_neg h2, if_pos h3]
theorem kdT_ot {T : TX} {s : Nat} (h : ¬ s = T.2) (h2 : ¬ isLt T s) (h3 : ¬ isDg T s) : kdT T s = if T.1 s = 59 then 3 else 4 := by rw [kdT, if_neg h, if_neg h2, if_neg h3]
theorem enT_le {T : TX} {s : Nat} (h : s ≤ T.2) : s ≤ enT T s ∧ enT T s ≤ T.2 := by
  have h1 := rnE_le T 97 122 (T.2 - s) s
  have h2 := rnE_le T 48 57 (T.2 - s) s
  unfold enT
  repeat' split
  all_goals omega
theorem tkE_le {T : TX} {p : Nat} (h : p ≤ T.2) : p ≤ tkE T p ∧ tkE T p ≤ T.2 ∧ tkS T p ≤ tkE T p := by
  have h1 := tkS_le h
  have h2 := enT_le h1.2
  unfold tkE
  omega
theorem kdT_le (T : TX) (s : Nat) : kdT T s ≤ 4 := by
  unfold kdT
  repeat' split
  all_goals omega
theorem kd_1 {T : TX} {s : Nat} (h : kdT T s = 1) : ¬ s = T.2 ∧ isLt T s := by
  unfold kdT at h
  repeat' split at h
  all_goals first | omega | exact ⟨by assumption, by assumption⟩
theorem kd_2 {T : TX} {s : Nat} (h : kdT T s = 2) : ¬ s = T.2 ∧ ¬ isLt T s ∧ isDg T s ∧ enT T s - s ≤ 3 := by
  unfold kdT at h
  repeat' split at h
  all_goals first | omega | exact ⟨by assumption, by assumption, by assumption, by assumption⟩
theorem nuV_lt {T : TX} {s : Nat} : ∀ k : Nat, (∀ i, i < k → T.1 (s + i) ≤ 57) → nuV T s k < 10 ^ k
  | 0, _ => by rw [nuV]; decide
  | k + 1, h => by
    have h1 := nuV_lt k (fun i hi => h i (by omega))
    have h2 := h k (by omega)
    rw [nuV, Nat.pow_succ]
    omega
theorem tkV_lt {T : TX} {p : Nat} (hk : tkK T p = 2) : tkV T p < 1000 := by
  obtain ⟨h1, h2, h3, h4⟩ := kd_2 hk
  have h5 : ∀ i, i < min 3 (tkE T p - tkS T p) → T.1 (tkS T p + i) ≤ 57 := fun i hi => by
    have e : tkE T p = rnE T 48 57 (T.2 - tkS T p) (tkS T p) := enT_dg h1 h2 h3
    exact (rnE_run (lo := 48) (hi := 57) (i := tkS T p + i) (T.2 - tkS T p) (tkS T p) (by omega) (by omega)).2
  refine Nat.lt_of_lt_of_le (nuV_lt _ h5) ?_
  exact Nat.le_trans (Nat.pow_le_pow_right (by decide) (Nat.min_le_left 3 _)) (by decide)
/-! names -/
def wby : List (List Nat) := [[102, 97, 99, 116, 115], [119, 97, 108, 108], [112, 97, 116, 104], [104, 111, 117, 115, 101], [106, 117, 100, 103, 101], [105, 110, 110], [109, 105, 108, 108], [115, 104, 111, 112], [104, 117, 116]]
def wch (i k : Nat) : Nat := (wby.getD i []).getD k 0
def wln (i : Nat) : Nat := xln.getD i 0
def wcd (i : Nat) : Int64 := [3211075, 453774, 316205, 4562600, 5730863, 6953, 262776, 380230, 6419].getD i 0
theorem wch_ok : ∀ i, i < 9 → ∀ k, k < wln i → 97 ≤ wch i k ∧ wch i k ≤ 122 := by decide +kernel
theorem wcd_ok : ∀ i, i < 9 → wcd i = Int64.ofNat (naF (wch i) (wln i)) ∧ naF (wch i) (wln i) < 10000000 ∧ wln i ≤ 5 := by decide +kernel
theorem wby_ok : ∀ i, i < 9 → ∀ k, k < wln i → (xby.getD i []).getD k 0 = nI (wch i k) := by decide +kernel
def isWd (T : TX) (i p : Nat) : Prop := tkK T p = 1 ∧ tkE T p - tkS T p = wln i ∧ ∀ k, k < wln i → T.1 (tkS T p + k) = wch i k
theorem naF_inj {f g : Nat → Nat} : ∀ (n m : Nat), (∀ j, j < n → 97 ≤ f j ∧ f j ≤ 122) → (∀ j, j < m → 97 ≤ g j ∧ g j ≤ 122) → (naF f n = naF g m ↔ n = m ∧ ∀ j, j < n → f j = g j)
  | 0, 0, _, _ => ⟨fun _ => ⟨rfl, fun _ z => absurd z (by omega)⟩, fun _ => rfl⟩
  | 0, m + 1, _, hg => by
    have := hg m (by omega)
    constructor
    · intro h; rw [naF, naF] at h; omega
    · intro h; omega
  | n + 1, 0, hf, _ => by
    have := hf n (by omega)
    constructor
    · intro h; rw [naF, naF] at h; omega
    · intro h; omega
  | n + 1, m + 1, hf, hg => by
    have h1 := hf n (by omega)
    have h2 := hg m (by omega)
    have ih := naF_inj n m (fun j hj => hf j (by omega)) (fun j hj => hg j (by omega))
    rw [naF, naF]
    constructor
    · intro h
      obtain ⟨rfl, h3⟩ := ih.mp (by omega)
      refine ⟨rfl, fun j hj => ?_⟩
      rcases Nat.lt_or_ge j n with z | z
      · exact h3 j z
      · rw [show j = n by omega]; omega
    · rintro ⟨h, h3⟩
      have e : n = m := by omega
      subst e
      rw [ih.mpr ⟨rfl, fun j hj => h3 j (by omega)⟩, h3 n (by omega)]
theorem naF_lt {f : Nat → Nat} : ∀ n : Nat, (∀ j, j < n → f j ≤ 122) → naF f n < 27 ^ n
  | 0, _ => by rw [naF]; decide
  | n + 1, h => by
    have h1 := naF_lt n (fun j hj => h j (by omega))
    have h2 := h n (by omega)
    rw [naF, Nat.pow_succ]
    omega
/-- the code of a name of n letters from s on -/
def naL (T : TX) (s n : Nat) : Int64 := if n ≤ 9 then Int64.ofNat (naF (fun j => T.1 (s + j)) n) else -1
theorem i64_inj {a b : Nat} (ha : a < 2 ^ 63) (hb : b < 2 ^ 63) : Int64.ofNat a = Int64.ofNat b ↔ a = b := by
  constructor
  · intro h
    have h2 := congrArg Int64.toInt h
    rw [Int64.toInt_ofNat_of_lt ha, Int64.toInt_ofNat_of_lt hb] at h2
    omega
  · intro h; rw [h]
theorem isWd_na {T : TX} {i p : Nat} (hi : i < 9) : isWd T i p ↔ (tkK T p = 1 ∧ naL T (tkS T p) (tkE T p - tkS T p) = wcd i) := by
  obtain ⟨w1, w2, w3⟩ := wcd_ok i hi
  constructor
  · rintro ⟨h1, h2, h3⟩
    refine ⟨h1, ?_⟩
    rw [naL, if_pos (by omega), w1, h2]
    congr 1
    exact (naF_inj (f := fun j => T.1 (tkS T p + j)) (wln i) (wln i) (fun j hj => by show 97 ≤ T.1 (tkS T p + j) ∧ T.1 (tkS T p + j) ≤ 122; rw [h3 j hj]; exact wch_ok i hi j hj) (wch_ok i hi)).mpr ⟨rfl, h3⟩
  · rintro ⟨h1, h2⟩
    obtain ⟨k1, k2⟩ := kd_1 h1
    have e : tkE T p = rnE T 97 122 (T.2 - tkS T p) (tkS T p) := enT_lt k1 k2
    have hr : ∀ j, j < tkE T p - tkS T p → 97 ≤ T.1 (tkS T p + j) ∧ T.1 (tkS T p + j) ≤ 122 := fun j hj => rnE_run (i := tkS T p + j) (T.2 - tkS T p) (tkS T p) (by omega) (by omega)
    by_cases h9 : tkE T p - tkS T p ≤ 9
    · rw [naL, if_pos h9, w1, i64_inj (Nat.lt_of_lt_of_le (naF_lt _ (fun j hj => (hr j hj).2)) (Nat.le_trans (Nat.pow_le_pow_right (by decide) h9) (by decide))) (by omega)] at h2
      obtain ⟨q1, q2⟩ := (naF_inj (f := fun j => T.1 (tkS T p + j)) _ _ hr (wch_ok i hi)).mp h2
      exact ⟨h1, q1, fun k hk => q2 k (by omega)⟩
    · rw [naL, if_neg h9, w1] at h2
      have h3 := congrArg Int64.toInt h2
      rw [Int64.toInt_ofNat_of_lt (by omega)] at h3
      have : (-1 : Int64).toInt = -1 := by decide
      omega
/-! THE GRAMMAR -/
abbrev PR (α : Type) : Type := (Nat × Nat) ⊕ α
def pb {α β : Type} (x : PR α) (f : α → PR β) : PR β := match x with
  | .inl e => .inl e
  | .inr a => f a
theorem pb_l {α β : Type} {x : PR α} {f : α → PR β} {e : Nat × Nat} (h : x = .inl e) : pb x f = .inl e := by rw [h]; rfl
theorem pb_r {α β : Type} {x : PR α} {f : α → PR β} {a : α} (h : x = .inr a) : pb x f = f a := by rw [h]; rfl
abbrev DP : Type := FD × Nat
def nuP (T : TX) (lo hi p : Nat) : PR (Nat × Nat) := if ¬ tkK T p = 2 then .inl (1, tkS T p) else if lo ≤ tkV T p ∧ tkV T p ≤ hi then .inr (tkV T p, tkE T p) else .inl (2, tkS T p)
def seP (T : TX) (p : Nat) : PR Nat := if ¬ tkK T p = 3 then .inl (1, tkS T p) else .inr (tkE T p)
def du (D : FD) (i j v : Nat) : FD := fun a b => if a = i ∧ b = j then v else D a b
def adF (D : FD) (t r : Nat) : FD := du (du D 0 1 t) 0 2 r
def adW (D : FD) (x y : Nat) : FD := du D 5 y (dwl D y ||| 2 ^ x)
def adP (D : FD) (y f k : Nat) : FD := du D 6 y (dpt D y ||| (2 ^ k - 2 ^ f))
def adH (D : FD) (k y w h : Nat) : FD := fun a b => if a = 0 ∧ b = 0 then dn D + 1 else if b = dn D then (if a = 1 then y else if a = 2 then w else if a = 3 then h else if a = 4 then k else D a b) else D a b
def adX (D : FD) (P x : Nat) : Nat := P ||| x * 2 ^ (4 * dn D)
def roomP (D : FD) (P x y w h : Nat) : Prop := x + w ≤ 16 ∧ y + h ≤ 8 ∧ ∀ u v, x ≤ u → u < x + w → y ≤ v → v < y + h → ¬ wallAt D u v ∧ ¬ hAt D P (nI u) v < dn D
noncomputable def knW (T : TX) (p : Nat) : Nat := if decP (isWd T 4 p) then 1 else if decP (isWd T 5 p) then 2 else if decP (isWd T 6 p) then 3 else if decP (isWd T 7 p) then 4 else if decP (isWd T 8 p) then 5 else 0
noncomputable def facP (T : TX) (p : Nat) : PR (Nat × DP) := if decP (isWd T 0 p) then pb (nuP T 0 255 (tkE T p)) fun a => pb (nuP T 8 15 a.2) fun c => pb (seP T c.2) fun q => .inr (q, adF (fun _ _ => 0) a.1 c.1, 0) else .inl (1, tkS T p)
def walP (T : TX) (p : Nat) (D : DP) : PR (Nat × DP) := pb (nuP T 0 15 p) fun a => pb (nuP T 0 7 a.2) fun c => pb (seP T c.2) fun q => .inr (q, adW D.1 a.1 c.1, D.2)
def patP (T : TX) (p : Nat) (D : DP) : PR (Nat × DP) := pb (nuP T 0 7 p) fun a => pb (nuP T 0 15 a.2) fun c => pb (nuP T c.1 15 c.2) fun e => pb (seP T e.2) fun q => .inr (q, adP D.1 a.1 c.1 (e.1 + 1), D.2)
noncomputable def endH (T : TX) (p q kd x y w h : Nat) (D : DP) : PR (Nat × DP) := if decP (roomP D.1 D.2 x y w h) then pb (seP T q) fun q => .inr (q, adH D.1 kd y w h, adX D.1 D.2 x) else .inl (2, tkS T p)
noncomputable def houP (T : TX) (p : Nat) (D : DP) : PR (Nat × DP) := if knW T p = 0 then .inl (1, tkS T p) else pb (nuP T 0 15 (tkE T p)) fun a => pb (nuP T 0 7 a.2) fun c => pb (nuP T 1 4 c.2) fun e => pb (nuP T 1 3 e.2) fun h => endH T e.2 h.2 (knW T p) a.1 c.1 e.1 h.1 D
noncomputable def itP (T : TX) (w : Nat) (one : Nat → DP → PR (Nat × DP)) : Nat → Nat → DP → PR (Nat × DP)
  | 0, p, D => if decP (isWd T w p) then .inl (3, tkS T p) else .inr (p, D)
  | f + 1, p, D => if decP (isWd T w p) then pb (one (tkE T p) D) fun a => itP T w one f a.1 a.2 else .inr (p, D)
noncomputable def enP (T : TX) (a : Nat × DP) : PR (Nat × DP) := if tkK T a.1 = 0 ∧ 0 < dn a.2.1 then .inr a else .inl (1, tkS T a.1)
noncomputable def fiP (T : TX) : PR (Nat × DP) := pb (facP T 0) fun a => pb (itP T 1 (walP T) 12 a.1 a.2) fun c => pb (itP T 2 (patP T) 8 c.1 c.2) fun e => pb (itP T 3 (houP T) 6 e.1 e.2) (enP T)
theorem nuP_1 {T : TX} {lo hi p : Nat} (h : ¬ tkK T p = 2) : nuP T lo hi p = .inl (1, tkS T p) := by rw [nuP, if_pos h]
theorem nuP_2 {T : TX} {lo hi p : Nat} (h : tkK T p = 2) (h2 : ¬ (lo ≤ tkV T p ∧ tkV T p ≤ hi)) : nuP T lo hi p = .inl (2, tkS T p) := by rw [nuP, if_neg (fun z => z h), if_neg h2]
theorem nuP_3 {T : TX} {lo hi p : Nat} (h : tkK T p = 2) (h2 : lo ≤ tkV T p ∧ tkV T p ≤ hi) : nuP T lo hi p = .inr (tkV T p, tkE T p) := by rw [nuP, if_neg (fun z => z h), if_pos h2]
theorem seP_1 {T : TX} {p : Nat} (h : ¬ tkK T p = 3) : seP T p = .inl (1, tkS T p) := by rw [seP, if_pos h]
theorem seP_2 {T : TX} {p : Nat} (h : tkK T p = 3) : seP T p = .inr (tkE T p) := by rw [seP, if_neg (fun z => z h)]
theorem itP_no {T : TX} {w f p : Nat} {one : Nat → DP → PR (Nat × DP)} {D : DP} (h : ¬ isWd T w p) : itP T w one f p D = .inr (p, D) := by
  cases f <;> rw [itP, decP_f h] <;> rfl
theorem itP_0 {T : TX} {w p : Nat} {one : Nat → DP → PR (Nat × DP)} {D : DP} (h : isWd T w p) : itP T w one 0 p D = .inl (3, tkS T p) := by
  rw [itP, decP_t h]; rfl
theorem itP_s {T : TX} {w f p : Nat} {one : Nat → DP → PR (Nat × DP)} {D : DP} (h : isWd T w p) : itP T w one (f + 1) p D = pb (one (tkE T p) D) fun a => itP T w one f a.1 a.2 := by
  rw [itP, decP_t h]; rfl
theorem facP_no {T : TX} {p : Nat} (h : ¬ isWd T 0 p) : facP T p = .inl (1, tkS T p) := by rw [facP, decP_f h]; rfl
theorem facP_go {T : TX} {p : Nat} (h : isWd T 0 p) : facP T p = pb (nuP T 0 255 (tkE T p)) fun a => pb (nuP T 8 15 a.2) fun c => pb (seP T c.2) fun q => .inr (q, adF (fun _ _ => 0) a.1 c.1, 0) := by rw [facP, decP_t h]; rfl
theorem houP_no {T : TX} {p : Nat} {D : DP} (h : knW T p = 0) : houP T p D = .inl (1, tkS T p) := by rw [houP, if_pos h]
theorem houP_go {T : TX} {p : Nat} {D : DP} (h : ¬ knW T p = 0) : houP T p D = pb (nuP T 0 15 (tkE T p)) fun a => pb (nuP T 0 7 a.2) fun c => pb (nuP T 1 4 c.2) fun e => pb (nuP T 1 3 e.2) fun h => endH T e.2 h.2 (knW T p) a.1 c.1 e.1 h.1 D := by rw [houP, if_neg h]
theorem endH_no {T : TX} {p q kd x y w h : Nat} {D : DP} (hr : ¬ roomP D.1 D.2 x y w h) : endH T p q kd x y w h D = .inl (2, tkS T p) := by rw [endH, decP_f hr]; rfl
theorem endH_go {T : TX} {p q kd x y w h : Nat} {D : DP} (hr : roomP D.1 D.2 x y w h) : endH T p q kd x y w h D = pb (seP T q) fun q => .inr (q, adH D.1 kd y w h, adX D.1 D.2 x) := by rw [endH, decP_t hr]; rfl
theorem knW_le (T : TX) (p : Nat) : knW T p ≤ 5 := by
  unfold knW
  repeat' split
  all_goals omega
