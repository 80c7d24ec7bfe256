/-! THE WORLD AS A PURE MEMORY: all objects are made by the two constructors; afterwards the shape stays, only numbers change.
A value: an int, a long, or the number of a cell. Memory: per cell and place an int (fields and elements alike), and a long. -/
abbrev XV : Type := Int32 ⊕ (Int64 ⊕ Nat)
abbrev xi (v : Int32) : XV := Sum.inl v
abbrev xl (v : Int64) : XV := Sum.inr (Sum.inl v)
abbrev xr (k : Nat) : XV := Sum.inr (Sum.inr k)
abbrev XM : Type := (Nat → Nat → Int32) × (Nat → Nat → Int64)
/-- classes' numbers and slots; addresses of the cells; array classes; the first address that may be written; the script -/
abbrev XG : Type := va_G × (Nat → Nat) × (Nat → ClassId) × Nat × Nat × (Nat → Int32)
/-- a method: name, code, locals, answer -/
abbrev XY : Type := MethodName × ByteArray × Nat × Option FieldType
/-- a cell's shape: an object (class, fields: none an int, some none a long, some (some k) the cell k), or an array (0 ints, 1 bytes, 2 booleans, 3 cells; length) -/
abbrev XK : Type := (Nat × List (Option (Option Nat))) ⊕ (Nat × Nat)
def xcv (g : XG) : XV → Value
  | .inl v => .int v
  | .inr (.inl v) => .long v
  | .inr (.inr k) => .ref (g.2.1 k)
def xcat : XV → Nat
  | .inr (.inl _) => 2
  | _ => 1
theorem xcat_eq (g : XG) (v : XV) : (xcv g v).category = xcat v := by
  rcases v with v | v | v <;> rfl
def xcs (l : List XV) : Nat := (l.map xcat).sum
theorem xcs_eq (g : XG) (l : List XV) : ((l.map (xcv g)).map fun v => v.category).sum = xcs l := by
  induction l with
  | nil => rfl
  | cons a t ih => simp only [List.map_cons, List.sum_cons, xcs, xcat_eq] at ih ⊢; rw [ih]
def xfield (f : Nat) : List XK := [.inl (1, [none, none, none, none, some (some (f + 1)), some (some (f + 2)), some (some (f + 3)), some (some (f + 4)), some (some (f + 5)), some (some (f + 6)), some (some (f + 7))]), .inr (0, 8), .inr (0, 8), .inr (0, 6), .inr (0, 6), .inr (0, 6), .inr (0, 6), .inr (0, 6)]
def xsh : List XK := [
  .inl (6, [some (some 1), some (some 5), some (some 8), some (some 7), some (some 40), some (some 43), some (some 47), none]),
  .inl (5, [some (some 2), some (some 3), some (some 4)]), .inr (0, 8), .inr (0, 8), .inr (0, 320),
  .inl (4, [some (some 6), none, some (some 16), none, none, none, none, none, none]), .inr (1, 400),
  .inr (3, 2)] ++ xfield 8 ++ xfield 16 ++ xfield 24 ++ xfield 32 ++ [
  .inl (3, [some (some 41), some (some 42), none, none]), .inr (0, 24), .inr (0, 24),
  .inl (2, [some (some 44), some (some 45), none, some (some 46)]), .inr (0, 256), .inr (0, 256), .inr (0, 4),
  .inl (0, [some (some 48), none]), .inr (0, 16),
  .inl (7, [some (some 50), some (some 51), some (some 52), none, none, some (some 53), none, none, none, some none, none, none, none, some (some 54), some (some 55), some (some 56), some (some 57), none, some (some 58), some (some 59), none, some (some 60), some (some 61), some (some 62)]),
  .inr (0, 8), .inr (0, 8), .inr (0, 320), .inr (0, 400), .inr (0, 168), .inr (0, 168), .inr (0, 336), .inr (2, 2), .inr (0, 168), .inr (0, 6), .inr (0, 16), .inr (0, 40), .inr (0, 8)]
theorem xsh_len : xsh.length = 63 := rfl
/-- the cells that an array of cells holds -/
def xrf (_k j : Nat) : Nat := 24 + 8 * j
def xfv (g : XG) (M : XM) (k j : Nat) : Option (Option Nat) → Value
  | none => .int (M.1 k j)
  | some none => .long (M.2 k j)
  | some (some r) => .ref (g.2.1 r)
def xce (g : XG) (M : XM) (k : Nat) : XK → va_E
  | .inl (ci, ks) => .inr (ci, ks.mapIdx (fun j f => xfv g M k j f))
  | .inr (t, n) => .inl (g.2.2.1 t, n, if t = 3 then .inr (.inr (.inr (.inr (fun j => some (g.2.1 (xrf k j)))))) else .inl (M.1 k))
def xws (g : XG) (M : XM) : va_W := xsh.mapIdx (fun k s => (g.2.1 k, xce g M k s))
theorem xws_at {g : XG} {M : XM} {k : Nat} {s : XK} (h : xsh[k]? = some s) : (xws g M)[k]? = some (g.2.1 k, xce g M k s) := by
  simp [xws, List.getElem?_mapIdx, h]
theorem xce_congr {g : XG} {M M' : XM} {k : Nat} (s : XK) (h : M'.1 k = M.1 k ∧ M'.2 k = M.2 k) : xce g M' k s = xce g M k s := by
  have e : ∀ j f, xfv g M' k j f = xfv g M k j f := by
    intro j f
    rcases f with _ | _ | r
    · simp [xfv, h.1]
    · simp [xfv, h.2]
    · rfl
  rcases s with ⟨ci, ks⟩ | ⟨t, n⟩
  · simp only [xce, e]
  · simp only [xce, h.1]
theorem xws_set {g : XG} {M M' : XM} {k : Nat} {s : XK} (h : xsh[k]? = some s) (hM : ∀ a, a ≠ k → M'.1 a = M.1 a ∧ M'.2 a = M.2 a) :
    (xws g M).set k (g.2.1 k, xce g M' k s) = xws g M' := by
  apply List.ext_getElem?
  intro i
  by_cases hi : i = k
  · subst hi
    have hl : i < (xws g M).length := by
      have := (List.getElem?_eq_some_iff.mp h).1
      simpa [xws] using this
    rw [List.getElem?_set_self hl, xws_at h]
  · rw [List.getElem?_set_ne (fun q => hi q.symm)]
    simp only [xws, List.getElem?_mapIdx]
    cases hs : xsh[i]? with
    | none => rfl
    | some q => simp only [Option.map_some]; rw [xce_congr q (hM i hi)]
/-- the memory with a cell's numbers replaced -/
def xum (M : XM) (k : Nat) (f : Nat → Int32) : XM := (fun a => if a = k then f else M.1 a, M.2)
/-- with one number replaced -/
def xup (M : XM) (k j : Nat) (x : Int32) : XM := xum M k (upd (M.1 k) j x)
def xul (M : XM) (k j : Nat) (x : Int64) : XM := (M.1, fun a => if a = k then (fun b => if b = j then x else M.2 k b) else M.2 a)
theorem xum_self (M : XM) (k : Nat) (f : Nat → Int32) : (xum M k f).1 k = f := by simp [xum]
theorem xum_ne (M : XM) {k a : Nat} (f : Nat → Int32) (h : a ≠ k) : (xum M k f).1 a = M.1 a := by simp [xum, h]
theorem xws_setI {g : XG} {M : XM} {k j ci : Nat} {ks : List (Option (Option Nat))} {x : Int32} (h : xsh[k]? = some (.inl (ci, ks))) (hj : ks[j]? = some none) :
    (xws g M).set k (g.2.1 k, .inr (ci, (ks.mapIdx (fun j f => xfv g M k j f)).set j (.int x))) = xws g (xup M k j x) := by
  rw [← xws_set (M := M) (M' := xup M k j x) h (fun a ha => ⟨xum_ne _ _ ha, rfl⟩)]
  congr 1
  show (g.2.1 k, (Sum.inr (ci, _) : va_E)) = (g.2.1 k, Sum.inr (ci, _))
  congr 3
  apply List.ext_getElem?
  intro i
  by_cases hi : i = j
  · subst hi
    have hl : i < (ks.mapIdx (fun j f => xfv g M k j f)).length := by
      have := (List.getElem?_eq_some_iff.mp hj).1
      simpa using this
    rw [List.getElem?_set_self hl, List.getElem?_mapIdx, hj]
    simp [xfv, xup, xum, upd]
  · rw [List.getElem?_set_ne (fun q => hi q.symm), List.getElem?_mapIdx, List.getElem?_mapIdx]
    cases ks[i]? with
    | none => rfl
    | some f =>
      rcases f with _ | _ | r
      · simp [xfv, xup, xum, upd, hi]
      · rfl
      · rfl
theorem xws_setL {g : XG} {M : XM} {k j ci : Nat} {ks : List (Option (Option Nat))} {x : Int64} (h : xsh[k]? = some (.inl (ci, ks))) (hj : ks[j]? = some (some none)) :
    (xws g M).set k (g.2.1 k, .inr (ci, (ks.mapIdx (fun j f => xfv g M k j f)).set j (.long x))) = xws g (xul M k j x) := by
  rw [← xws_set (M := M) (M' := xul M k j x) h (fun a ha => ⟨rfl, by simp [xul, ha]⟩)]
  congr 1
  show (g.2.1 k, (Sum.inr (ci, _) : va_E)) = (g.2.1 k, Sum.inr (ci, _))
  congr 3
  apply List.ext_getElem?
  intro i
  by_cases hi : i = j
  · subst hi
    have hl : i < (ks.mapIdx (fun j f => xfv g M k j f)).length := by
      have := (List.getElem?_eq_some_iff.mp hj).1
      simpa using this
    rw [List.getElem?_set_self hl, List.getElem?_mapIdx, hj]
    simp [xfv, xul]
  · rw [List.getElem?_set_ne (fun q => hi q.symm), List.getElem?_mapIdx, List.getElem?_mapIdx]
    cases ks[i]? with
    | none => rfl
    | some f =>
      rcases f with _ | _ | r
      · rfl
      · simp [xfv, xul, hi]
      · rfl
theorem xws_setA {g : XG} {M : XM} {k t n : Nat} {f : Nat → Int32} (h : xsh[k]? = some (.inr (t, n))) (ht : t ≠ 3) :
    (xws g M).set k (g.2.1 k, .inl (g.2.2.1 t, n, .inl f)) = xws g (xum M k f) := by
  rw [← xws_set (M := M) (M' := xum M k f) h (fun a ha => ⟨xum_ne _ _ ha, rfl⟩)]
  simp [xce, ht, xum]
theorem xws_atA {g : XG} {M : XM} {k t n : Nat} (h : xsh[k]? = some (.inr (t, n))) (ht : t ≠ 3) : (xws g M)[k]? = some (g.2.1 k, .inl (g.2.2.1 t, n, .inl (M.1 k))) := by
  rw [xws_at h]; simp [xce, ht]
def xtys (g : XG) : List (ClassId × FieldType) := [(g.2.2.1 0, .int), (g.2.2.1 1, .byte), (g.2.2.1 2, .boolean), (g.2.2.1 3, .object "LieSlides$Field")]
def xA (g : XG) : Nat → Prop := fun q => g.2.2.2.1 ≤ q
/-! what is read and never written: three static tables (cells 1000 ..), the script (1003), nine texts (1100 .., their bytes 1200 ..) -/
def xtab (j i : Nat) : Int32 := match j with
  | 0 => [0, 0, 0, 2, 2, 4].getD i 0
  | 1 => [10, 13, 11, 12, 0, 14].getD i 0
  | _ => [20, 23, 21, 0, 22, 24].getD i 0
def xtc (j : Nat) : String := match j with
  | 0 => "LieSlides$Kinds"
  | _ => "LieSlides$Bodies"
def xtn (j : Nat) : String := match j with
  | 0 => "PARENTS"
  | 1 => "SIZE_BODIES"
  | _ => "MARK_BODIES"
def xtx (i : Nat) : String := ["facts", "wall", "path", "house", "judge", "inn", "mill", "shop", "hut"].getD i ""
def xsx (i : Nat) : Nat := [63, 86, 92, 97, 114, 118, 120, 122, 124].getD i 0
def xby : List (List Int32) := [[102, 97, 99, 116, 115], [119, 97, 108, 108], [112, 97, 116, 104], [104, 111, 117, 115, 101], [106, 117, 100, 103, 101], [105, 110, 110], [109, 105, 108, 108], [115, 104, 111, 112], [104, 117, 116]]
def xln : List Nat := [5, 4, 4, 5, 5, 3, 4, 4, 3]
def XRO (g : XG) (U : State) : Prop :=
  (∀ j, j < 3 → va_T .int (g.2.1 (1000 + j)) 6 (fun i => .int (xtab j i)) (xA g) U U.heap ∧ va_Z (xtc j) (xtn j) "[I" (.ref (g.2.1 (1000 + j))) (xA g) U U.heap) ∧
  va_T .int (g.2.1 1003) g.2.2.2.2.1 (fun i => .int (g.2.2.2.2.2 i)) (xA g) U U.heap ∧
  (va_Z "java/lang/String" "COMPACT_STRINGS" "Z" (.int 1) (xA g) U U.heap ∧ va_Zq "jdk/internal/util/Preconditions" "SIOOBE_FORMATTER" "Ljava/util/function/BiFunction;" (xA g) U U.heap) ∧
  vk_S 9 xln xby (fun i => g.2.1 (1100 + i)) (fun i => g.2.1 (1200 + i)) (xA g) U U.heap ∧
  ∀ i, i < 9 → vk_R "LieSlides$Reader" (xsx i) (xtx i) (g.2.1 (1100 + i)) U
theorem XRO.move {g : XG} {s U : State} (h : XRO g s) (hW : s.WarmedH U.vm) (hq : ∀ a : Nat, a < s.heap.size → ¬ xA g a → U.heap[a]? = s.heap[a]?) : XRO g U := by
  obtain ⟨h1, h2, h3, h4, h5⟩ := h
  exact ⟨fun j hj => ⟨va_T.moved hW.alike ((h1 j hj).1.kept hq), va_Z.moved hW.alike ((h1 j hj).2.kept hq)⟩, va_T.moved hW.alike (h2.kept hq), ⟨va_Z.moved hW.alike (h3.1.kept hq), va_Zq.moved hW.alike (h3.2.kept hq)⟩, vk_S.moved hW.alike (h4.kept hq), fun i hi => vk_R.warm hW (h5 i hi)⟩
theorem XRO.call {g : XG} {U : State} (h : XRO g U) (f : JFrame) (mk : MethodId) (a : Array Value) : XRO g (U.calling f mk a) := by
  obtain ⟨h1, h2, h3, h4, h5⟩ := h
  have r : U.vm.Alike (U.calling f mk a).vm := Vm.Alike.refl U.vm
  exact ⟨fun j hj => ⟨va_T.moved r (h1 j hj).1, va_Z.moved r (h1 j hj).2⟩, va_T.moved r h2, ⟨va_Z.moved r h3.1, va_Zq.moved r h3.2⟩, vk_S.moved r h4, fun i hi => vk_R.same (u := U) rfl (h5 i hi)⟩
/-! the words of the tables that stay good -/
def xTB : List Cond := lw_tbl.filter goodWord
theorem xTB_of {w : Cond} (h : w ∈ lw_tbl) (hg : goodWord w = true) : w ∈ xTB := List.mem_filter.mpr ⟨h, hg⟩
theorem xTB_at {w : Cond} (i : Nat) (h : lw_tbl[i]? = some w) (hg : goodWord w = true) : w ∈ xTB := xTB_of (List.mem_of_getElem? h) hg
def xmw (y : XY) : List Cond := Cond.code y.1 y.2.1 y.2.2.1 y.2.2.2 :: xTB
/-! locals -/
def xlp (g : XG) : Nat → List (Option XV) → List (Nat × Value)
  | _, [] => []
  | i, none :: t => xlp g (i + 1) t
  | i, some v :: t => (i, xcv g v) :: xlp g (i + 1) t
theorem xlp_mem {g : XG} {q : Nat × Value} : ∀ {lx : List (Option XV)} {n : Nat}, q ∈ xlp g n lx ↔ ∃ i x, lx[i]? = some (some x) ∧ q = (n + i, xcv g x)
  | [], n => by simp [xlp]
  | none :: t, n => by
    rw [xlp, xlp_mem (lx := t)]
    constructor
    · rintro ⟨i, x, h, rfl⟩
      exact ⟨i + 1, x, by simpa using h, by rw [Nat.add_right_comm, Nat.add_assoc]⟩
    · rintro ⟨i, x, h, rfl⟩
      cases i with
      | zero => simp at h
      | succ i => exact ⟨i, x, by simpa using h, by rw [Nat.add_right_comm, Nat.add_assoc]⟩
  | some v :: t, n => by
    rw [xlp, List.mem_cons, xlp_mem (lx := t)]
    constructor
    · rintro (rfl | ⟨i, x, h, rfl⟩)
      · exact ⟨0, v, rfl, rfl⟩
      · exact ⟨i + 1, x, by simpa using h, by rw [Nat.add_right_comm, Nat.add_assoc]⟩
    · rintro ⟨i, x, h, rfl⟩
      cases i with
      | zero => simp at h; subst h; exact Or.inl rfl
      | succ i => exact Or.inr ⟨i, x, by simpa using h, by rw [Nat.add_right_comm, Nat.add_assoc]⟩
def XL (g : XG) (nL : Nat) (lx : List (Option XV)) (ls : Array Slot) : Prop := lv_has ls nL (xlp g 0 lx)
theorem XL.at {g : XG} {nL i : Nat} {lx : List (Option XV)} {ls : Array Slot} {v : XV} (h : XL g nL lx ls) (hi : lx[i]? = some (some v)) : ls[i]? = some (.val (xcv g v)) :=
  h.2.2 (i, xcv g v) (xlp_mem.mpr ⟨i, v, hi, by rw [Nat.zero_add]⟩)
/-- no long stands just ahead of place i -/
def xok1 (lx : List (Option XV)) (i : Nat) : Bool := match i with
  | 0 => true
  | j + 1 => match lx[j]? with
    | some (some (.inr (.inl _))) => false
    | _ => true
theorem XL.set {g : XG} {nL i : Nat} {lx : List (Option XV)} {ls : Array Slot} {v : XV} (hok : xok1 lx i = true)
    (h : lv_has ls nL ((i, xcv g v) :: (xlp g 0 lx).filter (fun q => !(q.1 == i) && !(q.1 + 1 == i && q.2.category == 2)))) : XL g nL (lx.set i (some v)) ls := by
  refine ⟨h.1, h.2.1, fun q hq => ?_⟩
  obtain ⟨j, x, hj, rfl⟩ := xlp_mem.mp hq
  rw [Nat.zero_add] at hq ⊢
  by_cases e : j = i
  · subst e
    have hl : j < lx.length := by
      have := (List.getElem?_eq_some_iff.mp hj).1
      simpa using this
    rw [List.getElem?_set_self hl] at hj
    cases hj
    exact h.2.2 _ List.mem_cons_self
  · rw [List.getElem?_set_ne (fun q => e q.symm)] at hj
    refine h.2.2 (j, xcv g x) (List.mem_cons_of_mem _ (List.mem_filter.mpr ⟨xlp_mem.mpr ⟨j, x, hj, by rw [Nat.zero_add]⟩, ?_⟩))
    simp only [Bool.and_eq_true, Bool.not_eq_true', beq_eq_false_iff_ne, ne_eq, Bool.and_eq_false_iff, e, not_false_iff, true_and]
    by_cases e2 : j + 1 = i
    · right
      subst e2
      simp only [xok1, hj] at hok
      rw [xcat_eq]
      rcases x with x | x | x
      · simp [xcat]
      · simp at hok
      · simp [xcat]
    · exact Or.inl e2
def xent (n : Nat) (vs : List XV) : List (Option XV) := (vs.flatMap fun v => match v with
  | .inr (.inl x) => [some (xl x), none]
  | v => [some v]) ++ List.replicate (n - xcs vs) none
theorem xent_args {g : XG} (k : Nat) : ∀ (vs : List XV) (n : Nat), ∀ q ∈ xlp g n ((vs.flatMap fun v => match v with
  | .inr (.inl x) => [some (xl x), none]
  | v => [some v]) ++ List.replicate k none), q ∈ lv_args n (vs.map (xcv g))
  | [], n, q, h => by
    obtain ⟨i, x, hi, -⟩ := xlp_mem.mp h
    simp only [List.flatMap_nil, List.nil_append] at hi
    have := List.eq_of_mem_replicate (List.mem_of_getElem? hi)
    cases this
  | v :: t, n, q, h => by
    rcases v with v | v | v
    · simp only [List.flatMap_cons, List.cons_append, List.nil_append, xlp] at h
      simp only [List.map_cons, lv_args, xcv, Value.category]
      rcases List.mem_cons.mp h with rfl | h
      · exact List.mem_cons_self
      · exact List.mem_cons_of_mem _ (xent_args k t (n + 1) q h)
    · simp only [List.flatMap_cons, List.cons_append, List.nil_append, xlp] at h
      simp only [List.map_cons, lv_args, xcv, Value.category]
      rcases List.mem_cons.mp h with rfl | h
      · exact List.mem_cons_self
      · exact List.mem_cons_of_mem _ (xent_args k t (n + 2) q h)
    · simp only [List.flatMap_cons, List.cons_append, List.nil_append, xlp] at h
      simp only [List.map_cons, lv_args, xcv, Value.category]
      rcases List.mem_cons.mp h with rfl | h
      · exact List.mem_cons_self
      · exact List.mem_cons_of_mem _ (xent_args k t (n + 1) q h)
theorem xsl_len (g : XG) : ∀ vs : List XV, (lg_sl (vs.map (xcv g))).length = xcs vs
  | [] => rfl
  | v :: t => by
    have ih := xsl_len g t
    simp only [lg_sl, List.map_cons, List.flatMap_cons, List.length_append, xcs, List.sum_cons, xcat_eq] at ih ⊢
    rw [ih]
    rcases v with v | v | v <;> rfl
/-! the machine within a method; the heap; how it ends -/
def XAt (g : XG) (y : XY) (p : Program) (s : State) (m : MethodId) (args : Array Value) (meth : Method) (c : Code) : Prop :=
  p.tables.exec = Jvm.exec ∧ c.code = y.2.1 ∧ meth.sig.returnType = y.2.2.2 ∧ c.maxLocals = y.2.2.1 ∧ s.vm.findClass y.1.cls = some m.cls ∧ (∀ w ∈ xTB, w.before args s = true) ∧ meth.locks = false ∧ va_K g.1 vwCl (xtys g) s ∧ XRO g s
def XRm (d : Nat) (R : Room) (cells slots : Nat) : Prop := d ≤ R.frames ∧ 60 * d ≤ R.locals ∧ cells ≤ R.cells ∧ slots ≤ R.slots
def XH (g : XG) (M : XM) (s : State) (H : Heap) (locs : List Loc) : Prop := va_P g.1 vwCl (xws g M) H ∧ va_D (xA g) (xws g M) ∧ va_S (xA g) s.heap H locs
def XRet (y : XY) (pc : Nat) (r : Option XV) : Prop := match r with
  | none => decode y.2.1 pc = .ok (.return_, 1) ∧ y.2.2.2 = none
  | some (.inl v) => decode y.2.1 pc = .ok (.ireturn, 1) ∧ ∃ ty, y.2.2.2 = some ty ∧ narrow ty (.int v) = .int v
  | some (.inr (.inl _)) => False
  | some (.inr (.inr _)) => decode y.2.1 pc = .ok (.areturn, 1) ∧ ∃ rt, y.2.2.2 = some rt ∧ ((∃ n, rt = .object n) ∨ ∃ t, rt = .array t)
/-- FROM HERE: method y at pc, with these locals, stack and memory (and d frames of room), ends with Q -/
def XW (g : XG) (l : Launch) (y : XY) (d pc : Nat) (lx : List (Option XV)) (st : List XV) (M : XM) (Q : Option XV → XM → Prop) : Prop :=
  ∀ (p : Program) (e : Env) (R : Room) (s : State) (m : MethodId) (args : Array Value) (below : List Frame) (meth : Method) (c : Code) (H : Heap) (locs : List Loc) (cells slots : Nat) (Qf : State → Prop) (ls : Array Slot),
    XAt g y p s m args meth c → XRm d R cells slots → XH g M s H locs → XL g y.2.2.1 lx ls →
    (∀ (r : Option XV) (M' : XM) (H' : Heap) (locs' : List Loc) (pc' : Nat) (ls' : Array Slot), Q r M' → XH g M' s H' locs' → XRet y pc' r → W p l e R s m args below meth c H' locs' cells slots Qf (F0 m pc' ls' (r.toList.map (xcv g)))) →
    W p l e R s m args below meth c H locs cells slots Qf (F0 m pc ls (st.map (xcv g)))
def xroom (d : Nat) : Room := { frames := d, cells := 0, slots := 0, locals := 60 * d }
def XPc (g : XG) (as : List XV) (M : XM) : Array Value → State → Prop := fun a U => a = (as.map (xcv g)).toArray ∧ va_K g.1 vwCl (xtys g) U ∧ va_P g.1 vwCl (xws g M) U.heap ∧ va_D (xA g) (xws g M) ∧ XRO g U
def XQc (g : XG) (Q : Option XV → XM → Prop) : Array Value → State → Outcome → State → Prop := fun _ st o t => (∃ r M', o = .returned (r.map (xcv g)) ∧ Q r M' ∧ va_P g.1 vwCl (xws g M') t.heap ∧ va_D (xA g) (xws g M')) ∧ va_F (xA g) st t
/-- what the tables say of a method: its code; n arguments -/
def XOk (z : XY) (n : Nat) : Prop := Cond.code z.1 z.2.1 z.2.2.1 z.2.2.2 ∈ lw_tbl ∧ plainName z.1.cls = true ∧ (z.1.cls ≠ "java/lang/invoke/MethodHandle" ∧ z.1.cls ≠ "java/lang/invoke/VarHandle" ∧ (parseMethodDescriptor z.1.desc).map (fun d => d.parameters.length) = some n) ∧ z.2.2.1 ≤ 40
theorem xmet {g : XG} {l : Launch} {z : XY} {n d : Nat} {as : List XV} {M : XM} {Q : Option XV → XM → Prop} (hz : XOk z n) (hn : Nat.ble (xcs as) z.2.2.1 = true) (h : XW g l z d 0 (xent z.2.2.1 as) [] M Q) :
    Met l z.1 (xmw z) (xroom d) (XPc g as M) (XQc g Q) 0 0 (xA g) := by
  refine Met.ofW (cc := z.2.1) (maxL := z.2.2.1) (ret := z.2.2.2) hz.2.1 rfl ?_
  intro p e s m args below meth c s₁ B hml hv
  obtain ⟨rfl, hK, hP, hD, hRO⟩ := hv
  have hts := atoms_spec (ws := xmw z) B.pre
  have hlocks : meth.locks = false := B.notSynchronized
  have hl := lv_entry (as.map (xcv g)) (n := z.2.2.1) (by rw [xsl_len]; exact Nat.le_of_ble_eq_true hn)
  rw [lg_entry_eq]
  generalize (lg_sl (as.map (xcv g)) ++ List.replicate (z.2.2.1 - (lg_sl (as.map (xcv g))).length) Slot.unset).toArray = ls at hl ⊢
  refine h p e _ s m _ below meth c s.heap [] 0 0 _ ls ⟨B.exec, B.bytes, B.returns, hml, findClass_of_methodNamed B.named, fun w hw => hts w (List.mem_cons_of_mem _ hw), hlocks, hK, hRO⟩ ⟨Nat.le_refl _, Nat.le_refl _, Nat.le_refl _, Nat.le_refl _⟩ ⟨hP, hD, va_S.rf⟩ ⟨hl.1, hl.2.1, fun q hq => hl.2.2 q (xent_args _ as 0 q hq)⟩ ?_
  intro r M' H' locs' pc' ls' hQ hH hr
  rcases r with _ | v | v | v
  · obtain ⟨h1, h2⟩ := hr
    exact W.vret B.exec B.bytes (B.returns.trans h2) (fun t ht hW => ⟨⟨none, M', rfl, hQ, by rw [ht]; exact hH.1, hH.2.1⟩, hH.2.2.F ht⟩) hH.2.2.2.2 h1
  · obtain ⟨h1, ty, h2, h3⟩ := hr
    exact W.zret B.exec B.bytes (B.returns.trans h2) h3 (fun t ht hW => ⟨⟨some (.inl v), M', rfl, hQ, by rw [ht]; exact hH.1, hH.2.1⟩, hH.2.2.F ht⟩) hH.2.2.2.2 h1
  · exact hr.elim
  · obtain ⟨h1, rt, h2, h3⟩ := hr
    exact W.aret B.exec B.bytes (B.returns.trans h2) h3 (Or.inr ⟨_, rfl⟩) (fun t ht hW => ⟨⟨some (.inr (.inr v)), M', rfl, hQ, by rw [ht]; exact hH.1, hH.2.1⟩, hH.2.2.F ht⟩) hH.2.2.2.2 h1
/-- a method whose arguments are any values, of which only those of lx are known -/
theorem xmetV {g : XG} {l : Launch} {z : XY} {n d : Nat} {vs : List Value} {lx : List (Option XV)} {M : XM} {Q : Option XV → XM → Prop} (hz : XOk z n) (hn : (lg_sl vs).length ≤ z.2.2.1) (hlx : ∀ q ∈ xlp g 0 lx, q ∈ lv_args 0 vs) (h : XW g l z d 0 lx [] M Q) :
    Met l z.1 (xmw z) (xroom d) (fun a U => a = vs.toArray ∧ va_K g.1 vwCl (xtys g) U ∧ va_P g.1 vwCl (xws g M) U.heap ∧ va_D (xA g) (xws g M) ∧ XRO g U) (XQc g Q) 0 0 (xA g) := by
  refine Met.ofW (cc := z.2.1) (maxL := z.2.2.1) (ret := z.2.2.2) hz.2.1 rfl ?_
  intro p e s m args below meth c s₁ B hml hv
  obtain ⟨rfl, hK, hP, hD, hRO⟩ := hv
  have hts := atoms_spec (ws := xmw z) B.pre
  have hlocks : meth.locks = false := B.notSynchronized
  have hl := lv_entry vs (n := z.2.2.1) hn
  rw [lg_entry_eq]
  generalize (lg_sl vs ++ List.replicate (z.2.2.1 - (lg_sl vs).length) Slot.unset).toArray = ls at hl ⊢
  refine h p e _ s m _ below meth c s.heap [] 0 0 _ ls ⟨B.exec, B.bytes, B.returns, hml, findClass_of_methodNamed B.named, fun w hw => hts w (List.mem_cons_of_mem _ hw), hlocks, hK, hRO⟩ ⟨Nat.le_refl _, Nat.le_refl _, Nat.le_refl _, Nat.le_refl _⟩ ⟨hP, hD, va_S.rf⟩ ⟨hl.1, hl.2.1, fun q hq => hl.2.2 q (hlx q hq)⟩ ?_
  intro r M' H' locs' pc' ls' hQ hH hr
  rcases r with _ | v | v | v
  · obtain ⟨h1, h2⟩ := hr
    exact W.vret B.exec B.bytes (B.returns.trans h2) (fun t ht hW => ⟨⟨none, M', rfl, hQ, by rw [ht]; exact hH.1, hH.2.1⟩, hH.2.2.F ht⟩) hH.2.2.2.2 h1
  · obtain ⟨h1, ty, h2, h3⟩ := hr
    exact W.zret B.exec B.bytes (B.returns.trans h2) h3 (fun t ht hW => ⟨⟨some (.inl v), M', rfl, hQ, by rw [ht]; exact hH.1, hH.2.1⟩, hH.2.2.F ht⟩) hH.2.2.2.2 h1
  · exact hr.elim
  · obtain ⟨h1, rt, h2, h3⟩ := hr
    exact W.aret B.exec B.bytes (B.returns.trans h2) h3 (Or.inr ⟨_, rfl⟩) (fun t ht hW => ⟨⟨some (.inr (.inr v)), M', rfl, hQ, by rw [ht]; exact hH.1, hH.2.1⟩, hH.2.2.F ht⟩) hH.2.2.2.2 h1
