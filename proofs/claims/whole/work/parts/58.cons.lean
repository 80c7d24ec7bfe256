/-! THE CONSTRUCTORS: worlds that grow. A list of cells; budgets of cells and slots; the rules -/
section CONS
abbrev cTys (cc : Nat → ClassId) : List (ClassId × FieldType) := [(cc 0, .int), (cc 1, .byte), (cc 2, .boolean), (cc 3, .object "LieSlides$Field")]
def cNW (U : State) : Prop := va_Nw (.methodLinkNest "LieSlides" 9 yX6_init "LieSlides") U ∧ va_Nw (.methodLinkNest "LieSlides" 18 yX5_init "LieSlides") U ∧ va_Nw (.methodLinkNest "LieSlides$Reader" 21 yX1_init "LieSlides") U ∧ va_Nw (.methodLinkNest "LieSlides" 25 yX1_init "LieSlides") U ∧ va_Nw (.methodLinkNest "LieSlides" 36 yX3_init "LieSlides") U ∧ va_Nw (.methodLinkNest "LieSlides" 43 yX2_init "LieSlides") U ∧ va_Nw (.methodLinkNest "LieSlides" 50 yX0_init "LieSlides") U ∧ va_AO "LieSlides$Field" U
theorem cNW.move {s U : State} (h : cNW s) (hW : s.WarmedH U.vm) : cNW U := by
  obtain ⟨h1, h2, h3, h4, h5, h6, h7, h8⟩ := h
  exact ⟨va_Nw.warmM hW h1, va_Nw.warmM hW h2, va_Nw.warmM hW h3, va_Nw.warmM hW h4, va_Nw.warmM hW h5, va_Nw.warmM hW h6, va_Nw.warmM hW h7, va_AO.moved hW.alike h8⟩
theorem cNW.call {U : State} (h : cNW U) (f : JFrame) (mk : MethodId) (a : Array Value) : cNW (U.calling f mk a) := by
  obtain ⟨h1, h2, h3, h4, h5, h6, h7, h8⟩ := h
  have r : U.vm.Alike (U.calling f mk a).vm := Vm.Alike.refl U.vm
  exact ⟨va_Nw.same (u := U) rfl rfl h1, va_Nw.same (u := U) rfl rfl h2, va_Nw.same (u := U) rfl rfl h3, va_Nw.same (u := U) rfl rfl h4, va_Nw.same (u := U) rfl rfl h5, va_Nw.same (u := U) rfl rfl h6, va_Nw.same (u := U) rfl rfl h7, va_AO.moved r h8⟩
def CAt (D : va_G) (cc : Nat → ClassId) (y : XY) (p : Program) (s : State) (m : MethodId) (args : Array Value) (meth : Method) (c : Code) : Prop :=
  p.tables.exec = Jvm.exec ∧ c.code = y.2.1 ∧ meth.sig.returnType = y.2.2.2 ∧ c.maxLocals = y.2.2.1 ∧ s.vm.findClass y.1.cls = some m.cls ∧ (∀ w ∈ xTB, w.before args s = true) ∧ meth.locks = false ∧ va_K D vwCl (cTys cc) s ∧ cNW s ∧ meth.name = "<init>"
def CRm (d : Nat) (R : Room) (cells slots mc ms : Nat) : Prop := d ≤ R.frames ∧ 60 * d ≤ R.locals ∧ cells + mc ≤ R.cells ∧ slots + ms ≤ R.slots
def CH (D : va_G) (A : Nat → Prop) (ws : va_W) (s : State) (H : Heap) (locs : List Loc) : Prop := va_P D vwCl ws H ∧ va_D A ws ∧ va_S A s.heap H locs
/-- FROM HERE: constructor y at pc, with these locals, stack and cells, room for mc cells and ms slots, ends with cells Q -/
def CW (D : va_G) (cc : Nat → ClassId) (l : Launch) (y : XY) (d pc : Nat) (lx : List (Nat × Value)) (st : List Value) (ws : va_W) (mc ms : Nat) (Q : va_W → Prop) : Prop :=
  ∀ (p : Program) (e : Env) (R : Room) (s : State) (m : MethodId) (args : Array Value) (below : List Frame) (meth : Method) (c : Code) (A : Nat → Prop) (H : Heap) (locs : List Loc) (cells slots : Nat) (Qf : State → Prop) (ls : Array Slot),
    CAt D cc y p s m args meth c → (∀ q, s.heap.size ≤ q → A q) → CRm d R cells slots mc ms → CH D A ws s H locs → lv_has ls y.2.2.1 lx →
    (∀ (ws' : va_W) (H' : Heap) (locs' : List Loc) (pc' : Nat) (ls' : Array Slot), Q ws' → CH D A ws' s H' locs' → decode y.2.1 pc' = .ok (.return_, 1) → W p l e R s m args below meth c H' locs' (cells + mc) (slots + ms) Qf (F0 m pc' ls' [])) →
    W p l e R s m args below meth c H locs cells slots Qf (F0 m pc ls st)
abbrev cz (c : ClassId) (n : Nat) : va_E := .inl (c, n, .inl (fun _ => 0))
def XFF (own : String) (idx ci j : Nat) (ty : FieldType) : Prop := ∃ (C : String) (T : u_T) (N : Nat) (ty0 : Nat → FieldType), vwCl[ci]? = some (C, T, N) ∧ j < N ∧ Cond.fieldLink own idx C (T j).2.1 (T j).2.2.1 ∈ xTB ∧ (∀ w ∈ u_ws C T N, w ∈ xTB) ∧ (T j).1 = C ∧ (∀ k, k < N → parseFieldDescriptor (T k).2.2.1 = some (ty0 k)) ∧ (∀ a, a < N → ∀ b, b < N → a ≠ b → (T a).2.1 ≠ (T b).2.1) ∧ (T j).2.2.2 = true ∧ ty0 j = ty ∧ C = own
variable {D : va_G} {cc : Nat → ClassId} {l : Launch} {y : XY} {d pc : Nat} {lx : List (Nat × Value)} {st : List Value} {ws ws' : va_W} {mc ms : Nat} {Q : va_W → Prop}
theorem cw_iconst {n : Int} {v : Int32} (hd : decode y.2.1 pc = .ok (.iconst n, 1)) (hv : Int32.ofInt n = v) (h : CW D cc l y d (pc + 1) lx (.int v :: st) ws mc ms Q) : CW D cc l y d pc lx st ws mc ms Q := by
  intro p e R s m args below meth c A H locs cells slots Qf ls hA hG hR hH hL hret
  exact lv_iconst hA.1 hA.2.1 hd hv (h p e R s m args below meth c A H locs cells slots Qf ls hA hG hR hH hL hret)
theorem cw_bipush {n : Int} {v : Int32} (hd : decode y.2.1 pc = .ok (.bipush n, 2)) (hv : (Int8.ofInt n).toInt32 = v) (h : CW D cc l y d (pc + 2) lx (.int v :: st) ws mc ms Q) : CW D cc l y d pc lx st ws mc ms Q := by
  intro p e R s m args below meth c A H locs cells slots Qf ls hA hG hR hH hL hret
  exact lv_bipush hA.1 hA.2.1 hd hv (h p e R s m args below meth c A H locs cells slots Qf ls hA hG hR hH hL hret)
theorem cw_sipush {n : Int} {v : Int32} (hd : decode y.2.1 pc = .ok (.sipush n, 3)) (hv : (Int16.ofInt n).toInt32 = v) (h : CW D cc l y d (pc + 3) lx (.int v :: st) ws mc ms Q) : CW D cc l y d pc lx st ws mc ms Q := by
  intro p e R s m args below meth c A H locs cells slots Qf ls hA hG hR hH hL hret
  exact lv_sipush hA.1 hA.2.1 hd hv (h p e R s m args below meth c A H locs cells slots Qf ls hA hG hR hH hL hret)
theorem cw_ldc {n : Nat} {v : Int32} (hd : decode y.2.1 pc = .ok (.ldc n, 2)) (hc : Cond.constant y.1.cls n v ∈ xTB) (h : CW D cc l y d (pc + 2) lx (.int v :: st) ws mc ms Q) : CW D cc l y d pc lx st ws mc ms Q := by
  intro p e R s m args below meth c A H locs cells slots Qf ls hA hG hR hH hL hret
  exact lv_ldc hA.1 hA.2.1 hA.2.2.2.2.1 (hA.2.2.2.2.2.1 _ hc) hd (h p e R s m args below meth c A H locs cells slots Qf ls hA hG hR hH hL hret)
theorem cw_aload {k : Fin 4} {i a : Nat} (hd : decode y.2.1 pc = .ok (.aload_n k, 1)) (hl : lx[i]? = some ((k : Nat), .ref a)) (h : CW D cc l y d (pc + 1) lx (.ref a :: st) ws mc ms Q) : CW D cc l y d pc lx st ws mc ms Q := by
  intro p e R s m args below meth c A H locs cells slots Qf ls hA hG hR hH hL hret
  exact lv_aload_n hA.1 hA.2.1 hd rfl (lv_at hL i hl) (h p e R s m args below meth c A H locs cells slots Qf ls hA hG hR hH hL hret)
theorem cw_iload {k : Fin 4} {i : Nat} {x : Int32} (hd : decode y.2.1 pc = .ok (.iload_n k, 1)) (hl : lx[i]? = some ((k : Nat), .int x)) (h : CW D cc l y d (pc + 1) lx (.int x :: st) ws mc ms Q) : CW D cc l y d pc lx st ws mc ms Q := by
  intro p e R s m args below meth c A H locs cells slots Qf ls hA hG hR hH hL hret
  exact lv_iload_n hA.1 hA.2.1 hd rfl (lv_at hL i hl) (h p e R s m args below meth c A H locs cells slots Qf ls hA hG hR hH hL hret)
theorem cw_istore {k : Fin 4} {x : Int32} {lx' : List (Nat × Value)} (hd : decode y.2.1 pc = .ok (.istore_n k, 1)) (hn : Nat.blt (k : Nat) y.2.2.1 = true) (hl : ((k : Nat), Value.int x) :: lx.filter (fun q => !(q.1 == (k : Nat)) && !(q.1 + 1 == (k : Nat) && q.2.category == 2)) = lx') (h : CW D cc l y d (pc + 1) lx' st ws mc ms Q) : CW D cc l y d pc lx (.int x :: st) ws mc ms Q := by
  intro p e R s m args below meth c A H locs cells slots Qf ls hA hG hR hH hL hret
  exact lv_istore_n hA.1 hA.2.1 hd rfl hL (Nat.le_of_ble_eq_true hn) hl (fun ls' hl' => h p e R s m args below meth c A H locs cells slots Qf ls' hA hG hR hH hl' hret)
theorem cw_iinc {i k : Nat} {n : Int} {x v : Int32} {lx' : List (Nat × Value)} (hd : decode y.2.1 pc = .ok (.iinc i n, 3)) (hk : lx[k]? = some (i, .int x)) (hv : x + Int32.ofInt n = v) (hn : Nat.blt i y.2.2.1 = true) (hl : (i, Value.int v) :: lx.filter (fun q => !(q.1 == i) && !(q.1 + 1 == i && q.2.category == 2)) = lx') (h : CW D cc l y d (pc + 3) lx' st ws mc ms Q) : CW D cc l y d pc lx st ws mc ms Q := by
  intro p e R s m args below meth c A H locs cells slots Qf ls hA hG hR hH hL hret
  exact lv_iinc hA.1 hA.2.1 hd hL hk hv (Nat.le_of_ble_eq_true hn) hl (fun ls' hl' => h p e R s m args below meth c A H locs cells slots Qf ls' hA hG hR hH hl' hret)
theorem cw_icmp_ge {x y2 : Int32} {off : Int} {tgt : Nat} (hd : decode y.2.1 pc = .ok (.if_icmp .ge off, 3)) (ht : (pc : Int) + off = (tgt : Int)) (kt : y2 ≤ x → CW D cc l y d tgt lx st ws mc ms Q) (kf : ¬ (y2 ≤ x) → CW D cc l y d (pc + 3) lx st ws mc ms Q) : CW D cc l y d pc lx (.int y2 :: .int x :: st) ws mc ms Q := by
  intro p e R s m args below meth c A H locs cells slots Qf ls hA hG hR hH hL hret
  exact lv_icmp_ge hA.1 hA.2.1 hd ht (fun q => kt q p e R s m args below meth c A H locs cells slots Qf ls hA hG hR hH hL hret) (fun q => kf q p e R s m args below meth c A H locs cells slots Qf ls hA hG hR hH hL hret)
theorem cw_goto {off : Int} {tgt : Nat} (hd : decode y.2.1 pc = .ok (.goto off, 3)) (ht : (pc : Int) + off = (tgt : Int)) (h : CW D cc l y d tgt lx st ws mc ms Q) : CW D cc l y d pc lx st ws mc ms Q := by
  intro p e R s m args below meth c A H locs cells slots Qf ls hA hG hR hH hL hret
  exact lv_goto hA.1 hA.2.1 hd ht (h p e R s m args below meth c A H locs cells slots Qf ls hA hG hR hH hL hret)
theorem cw_dup {a : Nat} (hd : decode y.2.1 pc = .ok (.dup, 1)) (h : CW D cc l y d (pc + 1) lx (.ref a :: .ref a :: st) ws mc ms Q) : CW D cc l y d pc lx (.ref a :: st) ws mc ms Q := by
  intro p e R s m args below meth c A H locs cells slots Qf ls hA hG hR hH hL hret
  exact lv_dup hA.1 hA.2.1 hd rfl (h p e R s m args below meth c A H locs cells slots Qf ls hA hG hR hH hL hret)
theorem cw_ret (hd : decode y.2.1 pc = .ok (.return_, 1)) (hm : mc = 0) (hs : ms = 0) (hq : Q ws) : CW D cc l y d pc lx [] ws mc ms Q := by
  intro p e R s m args below meth c A H locs cells slots Qf ls hA hG hR hH hL hret
  have := hret ws H locs pc ls hq hH hd
  rw [hm, hs] at this
  exact this
theorem cw_obj {idx a : Nat} (hd : decode y.2.1 pc = .ok (.invokespecial idx, 3)) (hlk : Cond.methodLink y.1.cls idx Lib.objectInit ∈ xTB) (hin : Cond.instanceMethod Lib.objectInit ∈ xTB) (hc : Cond.code Lib.objectInit ⟨#[0xb1]⟩ 1 none ∈ xTB) (hw : Nat.ble ((st.map fun v => v.category).sum) 8 = true) (h : CW D cc l y (d + 1) (pc + 3) lx st ws mc ms Q) : CW D cc l y (d + 1) pc lx (.ref a :: st) ws mc ms Q := by
  intro p e R s m args below meth c A H locs cells slots Qf ls hA hG hR hH hL hret
  have hts := hA.2.2.2.2.2.1
  have hrm := lv_room (m := m) (pc := pc) (ls := ls) (rest := .ref a :: st) (Nat.le_of_ble_eq_true hw)
  have h1 := hR.1
  have h2 := hR.2.1
  exact W.objInit hA.1 hA.2.1 hA.2.2.2.2.1 (hts _ hlk) (hts _ hin) (hts _ hc) rfl (by rw [hA.2.2.2.1]; exact hL.1) rfl hd (by omega) (by omega) (h p e R s m args below meth c A H locs cells slots Qf ls hA hG hR hH hL hret)
theorem cw_putI {idx ci j q0 a : Nat} {fs : List Value} {v : Int32} (hd : decode y.2.1 pc = .ok (.putfield idx, 3)) (hl : XFP y.1.cls idx ci j .int) (he : ws[q0]? = some (a, .inr (ci, fs))) (hj : Nat.blt j fs.length = true) (hw : ws.set q0 (a, .inr (ci, fs.set j (.int v))) = ws') (h : CW D cc l y d (pc + 3) lx st ws' mc ms Q) : CW D cc l y d pc lx (.int v :: .ref a :: st) ws mc ms Q := by
  subst hw
  intro p e R s m args below meth c A H locs cells slots Qf ls hA hG hR hH hL hret
  obtain ⟨C, T, N, ty0, hc, hjN, hlk, hin, hT, hty, hnm, hfin, ht⟩ := hl
  exact va_put (D := D) (v := .int v) (ty := .int) (C := C) (T := T) (N := N) (ref := C) hA.1 hA.2.1 hA.2.2.2.2.2.1 hin ty0 hty hnm hA.2.2.2.2.1 hA.2.2.2.2.2.2.2.1 hH.1 hH.2.1 hH.2.2 q0 he hc j hjN (hA.2.2.2.2.2.1 _ hlk) (fun x hx => by rw [hT] at hx; exact hx) hfin (by rw [hty j hjN, ht]) (vp_nar_int v) rfl (Nat.le_of_ble_eq_true hj) hd (fun H1 locs1 hP hD hS => h p e R s m args below meth c A H1 locs1 cells slots Qf ls hA hG hR ⟨hP, hD, hS⟩ hL hret)
theorem cw_putR {idx ci j q0 a b : Nat} {ty : FieldType} {fs : List Value} (hd : decode y.2.1 pc = .ok (.putfield idx, 3)) (hl : XFF y.1.cls idx ci j ty) (hn : narrow ty (.ref b) = .ref b) (hf : fits ty (.ref b) = true) (he : ws[q0]? = some (a, .inr (ci, fs))) (hj : Nat.blt j fs.length = true) (hw : ws.set q0 (a, .inr (ci, fs.set j (.ref b))) = ws') (h : CW D cc l y d (pc + 3) lx st ws' mc ms Q) : CW D cc l y d pc lx (.ref b :: .ref a :: st) ws mc ms Q := by
  subst hw
  intro p e R s m args below meth c A H locs cells slots Qf ls hA hG hR hH hL hret
  obtain ⟨C, T, N, ty0, hc, hjN, hlk, hin, hT, hty, hnm, hfin, ht, ho⟩ := hl
  exact va_putF (D := D) (v := .ref b) (ty := ty) (C := C) (T := T) (N := N) (ref := C) hA.1 hA.2.1 hA.2.2.2.2.2.1 hin ty0 hty hnm hA.2.2.2.2.1 hA.2.2.2.2.2.2.2.1 hH.1 hH.2.1 hH.2.2 q0 he hc j hjN (hA.2.2.2.2.2.1 _ hlk) (fun x hx => by rw [hT] at hx; exact hx) hfin hA.2.2.2.2.2.2.2.2.2 (hT.trans ho) (by rw [hty j hjN, ht]) hn hf (Nat.le_of_ble_eq_true hj) hd (fun H1 locs1 hP hD hS => h p e R s m args below meth c A H1 locs1 cells slots Qf ls hA hG hR ⟨hP, hD, hS⟩ hL hret)
theorem cw_getR {idx ci j q0 a : Nat} {v : Value} {fs : List Value} (hd : decode y.2.1 pc = .ok (.getfield idx, 3)) (hl : XFL y.1.cls idx ci j) (he : ws[q0]? = some (a, .inr (ci, fs))) (hj : fs[j]? = some v) (h : CW D cc l y d (pc + 3) lx (v :: st) ws mc ms Q) : CW D cc l y d pc lx (.ref a :: st) ws mc ms Q := by
  intro p e R s m args below meth c A H locs cells slots Qf ls hA hG hR hH hL hret
  obtain ⟨C, T, N, hc, hjN, hlk, hin, hT⟩ := hl
  exact va_get (D := D) (v := v) (C := C) (T := T) (N := N) (ref := C) hA.1 hA.2.1 hA.2.2.2.2.2.1 hin hA.2.2.2.2.1 hA.2.2.2.2.2.2.2.1 hH.1 q0 he hc j hjN (hA.2.2.2.2.2.1 _ hlk) (fun x hx => by rw [hT] at hx; exact hx) hj hd (h p e R s m args below meth c A H locs cells slots Qf ls hA hG hR hH hL hret)
theorem cw_iast {q0 a n : Nat} {f : Nat → Int32} {i x : Int32} (hd : decode y.2.1 pc = .ok (.iastore, 1)) (he : ws[q0]? = some (a, .inl (cc 0, n, .inl f))) (hin : vp_in i n) (hw : ws.set q0 (a, .inl (cc 0, n, .inl (upd f i.toNatClampNeg x))) = ws') (h : CW D cc l y d (pc + 1) lx st ws' mc ms Q) : CW D cc l y d pc lx (.int x :: .int i :: .ref a :: st) ws mc ms Q := by
  subst hw
  intro p e R s m args below meth c A H locs cells slots Qf ls hA hG hR hH hL hret
  exact va_iast hA.1 hA.2.1 hA.2.2.2.2.2.2.2.1 hH.1 hH.2.1 hH.2.2 q0 0 he rfl hin hd (fun H1 locs1 hP hD hS => h p e R s m args below meth c A H1 locs1 cells slots Qf ls hA hG hR ⟨hP, hD, hS⟩ hL hret)
theorem cw_aast {q0 qk a b n : Nat} {vs : List Value} {f : Nat → Option Nat} {i : Int32} (hd : decode y.2.1 pc = .ok (.aastore, 1)) (he : ws[q0]? = some (a, .inl (cc 3, n, .inr (.inr (.inr (.inr f)))))) (hv : ws[qk]? = some (b, .inr (1, vs))) (hin : vp_in i n) (hw : ws.set q0 (a, .inl (cc 3, n, .inr (.inr (.inr (.inr (va_up f i.toNatClampNeg (some b))))))) = ws') (h : CW D cc l y d (pc + 1) lx st ws' mc ms Q) : CW D cc l y d pc lx (.ref b :: .int i :: .ref a :: st) ws mc ms Q := by
  subst hw
  intro p e R s m args below meth c A H locs cells slots Qf ls hA hG hR hH hL hret
  exact va_astq (r := (RX1, TX1, 11)) hA.1 hA.2.1 hA.2.2.2.2.2.2.2.1 hH.1 hH.2.1 hH.2.2 q0 3 qk 1 he rfl hv rfl hin hd (fun H1 locs1 hP hD hS => h p e R s m args below meth c A H1 locs1 cells slots Qf ls hA hG hR ⟨hP, hD, hS⟩ hL hret)
theorem cw_newa {atype : ArrayType} {ty : FieldType} {t0 N' : Nat} {n : Int32} (hd : decode y.2.1 pc = .ok (.newarray atype, 2)) (hty : newarray.typeOf atype = ty) (hwd : Cond.arrayClass ty ∈ xTB) (ht : (cTys cc)[t0]? = some (cc t0, ty)) (hu : ∀ (U : State) (cA cB : ClassId), va_RA U cA ty → va_RA U cB ty → cA = cB) (hdf : defaultValue ty = .int 0) (hn : ¬ n < 0) (hN : n.toNatClampNeg = N') (hbytes : N' * componentBytes ty ≤ 536870912) (hw : ∀ q, ws ++ [(q, cz (cc t0) N')] = ws ++ [(q, cz (cc t0) N')]) (h : ∀ q, CW D cc l y d (pc + 2) lx (.ref q :: st) (ws ++ [(q, cz (cc t0) N')]) mc ms Q) : CW D cc l y d pc lx (.int n :: st) ws (mc + 1) (ms + N') Q := by
  intro p e R s m args below meth c A H locs cells slots Qf ls hA hG hR hH hL hret
  have hK := hA.2.2.2.2.2.2.2.1
  have r1 := hR.2.2.1
  have r2 := hR.2.2.2
  refine va_newa hA.1 hA.2.1 (by rw [hty]; exact hA.2.2.2.2.2.1 _ hwd) hty hK hH.1 hH.2.1 hH.2.2 hG (a0 := (N', .inl (fun _ => 0))) (fun cA => by rw [vp_cell_i, hdf]) hn hN hbytes (by omega) (by omega) hd (fun q cA H1 hK1 hP1 hD1 hS1 => ?_)
  have hc : cA = cc t0 := hu s _ _ (hK1.2 4 _ rfl).2 (hK.2 t0 _ ht).2
  subst hc
  refine h q p e R s m args below meth c A H1 locs (cells + 1) (slots + N') Qf ls hA hG ⟨hR.1, hR.2.1, by omega, by omega⟩ ⟨hP1, hD1, hS1⟩ hL (fun ws' H' locs' pc' ls' a b c' => ?_)
  have k := hret ws' H' locs' pc' ls' a b c'
  rw [show cells + (mc + 1) = cells + 1 + mc by omega, show slots + (ms + N') = slots + N' + ms by omega] at k
  exact k
theorem cw_newI {N' : Nat} {n : Int32} (hd : decode y.2.1 pc = .ok (.newarray .int, 2)) (hwd : Cond.arrayClass .int ∈ xTB) (hn : ¬ n < 0) (hN : n.toNatClampNeg = N') (hb : Nat.ble N' 1000 = true) (h : ∀ q, CW D cc l y d (pc + 2) lx (.ref q :: st) (ws ++ [(q, cz (cc 0) N')]) mc ms Q) : CW D cc l y d pc lx (.int n :: st) ws (mc + 1) (ms + N') Q :=
  cw_newa (ty := .int) (t0 := 0) hd rfl hwd rfl (fun U cA cB h1 h2 => Option.some.inj (Eq.trans (Eq.symm (show U.vm.findClass ("[" ++ FieldType.int.toString) = some cA from h1)) h2)) rfl hn hN (by have := Nat.le_of_ble_eq_true hb; show N' * 4 ≤ _; omega) (fun _ => rfl) h
theorem cw_newB {N' : Nat} {n : Int32} (hd : decode y.2.1 pc = .ok (.newarray .byte, 2)) (hwd : Cond.arrayClass .byte ∈ xTB) (hn : ¬ n < 0) (hN : n.toNatClampNeg = N') (hb : Nat.ble N' 1000 = true) (h : ∀ q, CW D cc l y d (pc + 2) lx (.ref q :: st) (ws ++ [(q, cz (cc 1) N')]) mc ms Q) : CW D cc l y d pc lx (.int n :: st) ws (mc + 1) (ms + N') Q :=
  cw_newa (ty := .byte) (t0 := 1) hd rfl hwd rfl (fun U cA cB h1 h2 => Option.some.inj (Eq.trans (Eq.symm (show U.vm.findClass ("[" ++ FieldType.byte.toString) = some cA from h1)) h2)) rfl hn hN (by have := Nat.le_of_ble_eq_true hb; show N' * 1 ≤ _; omega) (fun _ => rfl) h
theorem cw_newZ {N' : Nat} {n : Int32} (hd : decode y.2.1 pc = .ok (.newarray .boolean, 2)) (hwd : Cond.arrayClass .boolean ∈ xTB) (hn : ¬ n < 0) (hN : n.toNatClampNeg = N') (hb : Nat.ble N' 1000 = true) (h : ∀ q, CW D cc l y d (pc + 2) lx (.ref q :: st) (ws ++ [(q, cz (cc 2) N')]) mc ms Q) : CW D cc l y d pc lx (.int n :: st) ws (mc + 1) (ms + N') Q :=
  cw_newa (ty := .boolean) (t0 := 2) hd rfl hwd rfl (fun U cA cB h1 h2 => Option.some.inj (Eq.trans (Eq.symm (show U.vm.findClass ("[" ++ FieldType.boolean.toString) = some cA from h1)) h2)) rfl hn hN (by have := Nat.le_of_ble_eq_true hb; show N' * 1 ≤ _; omega) (fun _ => rfl) h
theorem cw_newR {idx N' : Nat} {n : Int32} (hd : decode y.2.1 pc = .ok (.anewarray idx, 3)) (hcl : Cond.classLink y.1.cls idx "LieSlides$Field" ∈ xTB) (hn : ¬ n < 0) (hN : n.toNatClampNeg = N') (hb : Nat.ble N' 1000 = true) (h : ∀ q, CW D cc l y d (pc + 3) lx (.ref q :: st) (ws ++ [(q, .inl (cc 3, N', .inr (.inr (.inr (.inr (fun _ => none))))))]) mc ms Q) : CW D cc l y d pc lx (.int n :: st) ws (mc + 1) (ms + N') Q := by
  intro p e R s m args below meth c A H locs cells slots Qf ls hA hG hR hH hL hret
  have hK := hA.2.2.2.2.2.2.2.1
  have r1 := hR.2.2.1
  have r2 := hR.2.2.2
  have hb' := Nat.le_of_ble_eq_true hb
  refine va_newq hA.1 hA.2.1 hA.2.2.2.2.1 (hA.2.2.2.2.2.1 _ hcl) hA.2.2.2.2.2.2.2.2.1.2.2.2.2.2.2.2 hK hH.1 hH.2.1 hH.2.2 hG hn hN (by omega) (by omega) (by omega) hd (fun q cA H1 hK1 hP1 hD1 hS1 => ?_)
  have hc : cA = cc 3 := by
    obtain ⟨_, _, _, _, _, e1⟩ := (hK1.2 4 _ rfl).2
    obtain ⟨_, _, _, _, _, e2⟩ := (hK.2 3 _ rfl).2
    exact Option.some.inj (e1.symm.trans e2)
  subst hc
  refine h q p e R s m args below meth c A H1 locs (cells + 1) (slots + N') Qf ls hA hG ⟨hR.1, hR.2.1, by omega, by omega⟩ ⟨hP1, hD1, hS1⟩ hL (fun ws' H' locs' pc' ls' a b c' => ?_)
  have k := hret ws' H' locs' pc' ls' a b c'
  rw [show cells + (mc + 1) = cells + 1 + mc by omega, show slots + (ms + N') = slots + N' + ms by omega] at k
  exact k
theorem cw_new {idx ci N : Nat} {C : String} {T : u_T} {fs : List Value} (hd : decode y.2.1 pc = .ok (.new idx, 3)) (hc : vwCl[ci]? = some (C, T, N)) (hin : ∀ w ∈ u_ws C T N, w ∈ xTB) (ty : Nat → FieldType) (hty : ∀ k, k < N → parseFieldDescriptor (T k).2.2.1 = some (ty k)) (hcl : Cond.classLink y.1.cls idx C ∈ xTB) (hinst : Cond.instantiable C N ∈ xTB) (hini : Cond.initialized C ∈ xTB) (hfs : ∀ j, j < N → defaultValue (ty j) = vp_V fs j) (h : ∀ q, CW D cc l y d (pc + 3) lx (.ref q :: st) (ws ++ [(q, .inr (ci, fs))]) mc ms Q) : CW D cc l y d pc lx st ws (mc + 1) (ms + N) Q := by
  intro p e R s m args below meth c A H locs cells slots Qf ls hA hG hR hH hL hret
  have hK := hA.2.2.2.2.2.2.2.1
  have hts := hA.2.2.2.2.2.1
  have r1 := hR.2.2.1
  have r2 := hR.2.2.2
  refine va_new (C := C) (T := T) (N := N) hA.1 hA.2.1 hts hin ty hty hA.2.2.2.2.1 (hts _ hcl) (hts _ hinst) (hts _ hini) hK hH.1 hH.2.1 hH.2.2 hG hc hfs (by omega) (by omega) hd (fun q H1 hP1 hD1 hS1 => ?_)
  refine h q p e R s m args below meth c A H1 locs (cells + 1) (slots + N) Qf ls hA hG ⟨hR.1, hR.2.1, by omega, by omega⟩ ⟨hP1, hD1, hS1⟩ hL (fun ws' H' locs' pc' ls' a b c' => ?_)
  have k := hret ws' H' locs' pc' ls' a b c'
  rw [show cells + (mc + 1) = cells + 1 + mc by omega, show slots + (ms + N) = slots + N + ms by omega] at k
  exact k
def cPc (D : va_G) (cc : Nat → ClassId) (a sz : Nat) (e0 : va_E) : Array Value → State → Prop := va_Pc [.ref a] (fun U => U.heap.size = sz ∧ va_P D vwCl [(a, e0)] U.heap ∧ va_K D vwCl (cTys cc) U ∧ va_D (fun _ => True) [(a, e0)] ∧ cNW U)
theorem cPc_blind {a sz : Nat} {e0 : va_E} : FrameBlind (cPc D cc a sz e0) := by
  intro a' U f mk hq
  obtain ⟨q0, q1, qP, qK, qD, qN⟩ := hq
  exact ⟨q0, q1, qP, va_K.moved (u := U) (U := U.calling f mk a') (Vm.Alike.refl U.vm) qK, qD, qN.call f mk a'⟩
theorem cmet {z : XY} {n a sz mc1 ms1 : Nat} {e0 : va_E} {Q1 : va_W → Prop} (hz : XOk z n) (hr : z.2.2.2 = none) (hnm : z.1.name = "<init>") (hn : Nat.ble 1 z.2.2.1 = true) (h : CW D cc l z d 0 [(0, .ref a)] [] [(a, e0)] mc1 ms1 Q1) :
    Met l z.1 (xmw z) { frames := d, cells := mc1, slots := ms1, locals := 60 * d } (cPc D cc a sz e0) (va_Qv Q1 (fun w t => va_P D vwCl w t.heap ∧ va_D (va_A [(a, e0)] sz) w) (va_A [(a, e0)] sz)) mc1 ms1 (va_A [(a, e0)] sz) := by
  refine Met.ofW (cc := z.2.1) (maxL := z.2.2.1) (ret := z.2.2.2) hz.2.1 rfl ?_
  intro p e s m args below meth c s₁ B hml hv
  obtain ⟨rfl, hsz, hP, hK, hD0, hN⟩ := hv
  subst hsz
  have hts := atoms_spec (ws := xmw z) B.pre
  have hlocks : meth.locks = false := B.notSynchronized
  have hl := lv_entry ([.ref a]) (n := z.2.2.1) (Nat.le_of_ble_eq_true hn)
  rw [lg_entry_eq]
  generalize (lg_sl ([Value.ref a]) ++ List.replicate (z.2.2.1 - (lg_sl ([Value.ref a])).length) Slot.unset).toArray = ls at hl ⊢
  refine h p e _ s m _ below meth c (va_A [(a, e0)] s.heap.size) s.heap [] 0 0 _ ls ⟨B.exec, B.bytes, B.returns, hml, findClass_of_methodNamed B.named, fun w hw => hts w (List.mem_cons_of_mem _ hw), hlocks, hK, hN, (name_of_methodNamed B.named B.method).1.trans hnm⟩ (fun q h => Or.inr h) ⟨Nat.le_refl _, Nat.le_refl _, Nat.le_of_eq (Nat.zero_add _), Nat.le_of_eq (Nat.zero_add _)⟩ ⟨hP, hD0.self, va_S.rf⟩ hl ?_
  intro ws' H' locs' pc' ls' hQ hH hd
  rw [Nat.zero_add, Nat.zero_add]
  exact W.vret B.exec B.bytes (B.returns.trans hr) (fun t ht hW => ⟨⟨ws', rfl, hQ, by rw [ht]; exact hH.1, hH.2.1⟩, hH.2.2.F ht⟩) hH.2.2.2.2 hd
theorem cw_call {z : XY} {idx q0 a mc1 ms1 : Nat} {e0 : va_E} {isR : List Nat} {wr : va_W} {Q1 : va_W → Prop} (hd : decode y.2.1 pc = .ok (.invokespecial idx, 3)) (hz : XOk z 0) (hr : z.2.2.2 = none) (hnm : z.1.name = "<init>") (hn : Nat.ble 1 z.2.2.1 = true) (hnest : ∀ U, cNW U → va_Nw (.methodLinkNest y.1.cls idx z.1 "LieSlides") U) (hini : Cond.initialized z.1.cls ∈ xTB) (hinst : Cond.instanceMethod z.1 ∈ xTB)
    (he : ws[q0]? = some (a, e0)) (hRr : isR.map (fun i => ws[i]?) = wr.map some) (hnd : va_nd isR = true) (hdis : ∀ i ∈ isR, i ∉ [q0]) (hw : Nat.ble ((st.map fun v => v.category).sum) 8 = true)
    (hb : CW D cc l z d 0 [(0, .ref a)] [] [(a, e0)] mc1 ms1 Q1) (h : ∀ w1, Q1 w1 → CW D cc l y (d + 1) (pc + 3) lx st (wr ++ w1) mc ms Q) : CW D cc l y (d + 1) pc lx (.ref a :: st) ws (mc + mc1) (ms + ms1) Q := by
  intro p e R s m args below meth c A H locs cells slots Qf ls hA hG hR hH hL hret
  have hts := hA.2.2.2.2.2.1
  have hK := hA.2.2.2.2.2.2.2.1
  have hNW := hA.2.2.2.2.2.2.2.2.1
  have r0 := hR.1
  have r3 := hR.2.1
  have r1 := hR.2.2.1
  have r2 := hR.2.2.2
  have hz4 := hz.2.2.2
  have hPc : va_P D vwCl [(a, e0)] H := hH.1.sub [q0] (by simp [he])
  have hDc : va_D A [(a, e0)] := hH.2.1.sub [q0] rfl (by simp [he])
  have hFc := va_free (wc := [(a, e0)]) hH.2.1 hH.2.2 hG [q0] (by simp [he])
  refine va_callv (S := va_W) (va_runIN (nL := y.2.2.1) (cc := y.2.1) (own := y.1.cls) (host := "LieSlides") (As := []) (rest := st) ⟨hA.1, hA.2.1, hA.2.2.2.1, hA.2.2.2.2.1, hts⟩ (cmet (sz := H.size) hz hr hnm hn hb) ⟨va_cnB (bytes := z.2.1) (maxL := z.2.2.1) 0 hts (xgood z 0 hz) (by rw [← hr]; rfl) rfl rfl (hnest s hNW) (hts _ hini) hz.2.2.1 ⟨by show d + 1 ≤ _; omega, by show 8 + (z.2.2.1 + 11) + 60 * d ≤ _; omega⟩, hnm, hts _ hinst⟩ ⟨cPc_blind, fun U hU hW => ⟨rfl, by rw [hU], by rw [hU]; exact hPc, va_K.moved hW.alike hK, hDc.weaken (fun _ _ _ _ => trivial), hNW.move hW⟩⟩ rfl rfl hL.1 rfl (lv_room (Nat.le_of_ble_eq_true hw)) hd ⟨by omega, by omega⟩) hH.2.2 (fun q _ h => hFc q h) hFc (fun u t H1 locs1 ht hvm hq hB hz1 hk1 hS => ?_)
  obtain ⟨hP1, hD1⟩ := hB
  rw [ht] at hP1
  obtain ⟨hP, hD⟩ := va_join (wr := wr) (w1 := u) hH.1 hH.2.1 [q0] isR (by simp [he]) hRr hnd hdis hk1 hFc hP1 hD1
  refine h u hq p e R s m args below meth c A H1 locs1 (cells + mc1) (slots + ms1) Qf ls hA hG ⟨r0, r3, by omega, by omega⟩ ⟨hP, hD, hS⟩ hL (fun ws' H' locs' pc' ls' a b c' => ?_)
  have k := hret ws' H' locs' pc' ls' a b c'
  rw [show cells + (mc + mc1) = cells + mc1 + mc by omega, show slots + (ms + ms1) = slots + ms1 + ms by omega] at k
  exact k
end CONS
