section WHOLE
/-! THE CLAIM OUT OF ONE WALK OF THE LAW'S BODY. Your part is whole_start (and what it stands on); all else here is the same for every law, but numbers. -/
def R_law : String := "LieSlidesLaw"
def lw_P (b : Addr) (xs : List Int32) (args : Array Value) (s : State) : Prop := args = #[.ref b] ∧ s.IntsAt b xs ∧ xs.length ≤ 3072 ∧ (Jvm.Cond.and given_1 narrow_1).before args s = true
def lw_Q (_ : Array Value) (s : State) (o : Outcome) (t : State) : Prop := o = .returned (some (.int 1)) ∧ Framed s o t [] 600000 7302250
def lw_Z (below : List Frame) (a : Array Value) (s : State) : State → Prop := fun t => ∃ o, t.status = .running ∧ Ended t below o ∧ lw_Q a s o t
/-- the law's own end, with 1 on the stack, nothing written that was there before, its room as the claim has it -/
theorem lw_ret {p : Program} {l : Launch} {e : Env} {s : State} {m : MethodId} {below : List Frame} {meth : Method} {c : Code} {b : Nat} (hx : p.tables.exec = Jvm.exec) (hb : c.code = code) (hr : meth.sig.returnType = ret) (hlocks : meth.locks = false) {pc : Nat} {H : Heap} {ls : Array Slot} (hdg : decode code pc = .ok (.ireturn, 1)) : W p l e room_1 s m #[Value.ref b] below meth c H [] 600000 7302250 (lw_Z below #[Value.ref b] s) (F0 m pc ls [.int 1]) := by
  intro T hT X
  obtain ⟨fs, hret, hrun, hended, hW, hframe⟩ := X.leave (v := some (.int 1)) (hlocks := hlocks) (fun h => by rw [hr] at h; cases h)
  have hmeth' : T.vm.method? m = some meth := X.method'
  refine ⟨T.setFrames fs, ?_, .returned (some (.int 1)), hrun, hended, rfl, ⟨_, rfl⟩, hW, hframe⟩
  jvm_step X.here [X.here.top, hx, hb, hdg, hmeth', hr, ret, narrow_b1]
  (try refine ⟨rfl, ?_⟩); (try refine ⟨rfl, ?_⟩)
  first | (intro acts; rw [hret _ acts rfl rfl rfl]) | rw [hret _ _ rfl rfl rfl]
  exact Steps.refl _
/-- what holds at the law's entry: the machine, the code, the tables' words (any of lw_tbl by 'hts w (by decide +kernel)'), the script of L ints xs at the cell b, what the Statement gives of the start (any of its parts by flat_of_before) -/
def lw_At (p : Program) (s : State) (m : MethodId) (meth : Method) (c : Code) (b L : Nat) (xs : Nat → Int32) : Prop :=
  p.tables.exec = Jvm.exec ∧ c.code = code ∧ meth.sig.returnType = ret ∧ c.maxLocals = 4 ∧ s.vm.findClass R_law = some m.cls ∧ (∀ w ∈ lw_tbl, w.before #[Value.ref b] s = true) ∧ va_X b L xs s s.heap ∧ b < s.heap.size ∧ meth.locks = false ∧ (Jvm.Cond.and given_1 narrow_1).before #[Value.ref b] s = true
set_option maxHeartbeats 4000000 in
set_option maxRecDepth 100000 in
theorem whole_start {p : Program} {e : Env} {s : State} {m : MethodId} {below : List Frame} {meth : Method} {c : Code} (l : Launch) {b L : Nat} {xs : Nat → Int32} (hL : L ≤ 3072) (C0 : lw_At p s m meth c b L xs) : W p l e room_1 s m #[Value.ref b] below meth c s.heap [] 0 0 (lw_Z below #[Value.ref b] s) (entryFrame m ([Value.ref b] : List Value).toArray 4) := by
  obtain ⟨hx, hb, hr, hml, hown, hts, hX, hbl, hlocks, hgv⟩ := id C0
  have htx : ∀ w ∈ xTB, w.before #[Value.ref b] s = true := fun w hw => hts w (List.mem_filter.mp hw).1
  have hG : ∀ q : Nat, s.heap.size ≤ q → (fun q : Nat => s.heap.size ≤ q) q := fun _ h => h
  obtain ⟨t0, t1, t2, adK, adV, hRO⟩ := xro_of hts hgv hX hbl
  obtain ⟨c0, i0, hK0⟩ := u_known (C := RX0) (T := TX0) (N := 2) (n := 2) htx xin_X0 (htx _ (xTB_of (xtb_1 (List.mem_of_getElem? (i := 178) rfl)) rfl))
  obtain ⟨c1, i1, hK1⟩ := u_known (C := RX1) (T := TX1) (N := 11) (n := 11) htx xin_X1 (htx _ (xTB_of (xtb_1 (List.mem_of_getElem? (i := 49) rfl)) rfl))
  obtain ⟨c2, i2, hK2⟩ := u_known (C := RX2) (T := TX2) (N := 4) (n := 4) htx xin_X2 (htx _ (xTB_of (xtb_1 (List.mem_of_getElem? (i := 159) rfl)) rfl))
  obtain ⟨c3, i3, hK3⟩ := u_known (C := RX3) (T := TX3) (N := 4) (n := 4) htx xin_X3 (htx _ (xTB_of (xtb_1 (List.mem_of_getElem? (i := 140) rfl)) rfl))
  obtain ⟨c4, i4, hK4⟩ := u_known (C := RX5) (T := TX5) (N := 9) (n := 9) htx xin_X5 (htx _ (xTB_of (xtb_1 (List.mem_of_getElem? (i := 43) rfl)) rfl))
  obtain ⟨c5, i5, hK5⟩ := u_known (C := RX6) (T := TX6) (N := 3) (n := 3) htx xin_X6 (htx _ (xTB_of (xtb_1 (List.mem_of_getElem? (i := 26) rfl)) rfl))
  obtain ⟨c6, i6, hK6⟩ := u_known (C := RX7) (T := TX7) (N := 8) (n := 8) htx xin_X7 (htx _ (xTB_of (xtb_1 (List.mem_of_getElem? (i := 18) rfl)) rfl))
  obtain ⟨c7, i7, hK7⟩ := u_known (C := RX8) (T := TX8) (N := 24) (n := 24) htx xin_X8 (htx _ (xTB_of (xtb_4 (List.mem_of_getElem? (i := 41) rfl)) rfl))
  obtain ⟨D, hKc⟩ : ∃ D : va_G, ∀ (k : Nat) (q : vw_C), vwCl[k]? = some q → u_Kn s q.1 q.2.1 q.2.2 (D.1 k) (D.2 k) := by
    refine ⟨(fun k => match k with | 0 => c0 | 1 => c1 | 2 => c2 | 3 => c3 | 4 => c4 | 5 => c5 | 6 => c6 | _ => c7, fun k => match k with | 0 => i0 | 1 => i1 | 2 => i2 | 3 => i3 | 4 => i4 | 5 => i5 | 6 => i6 | _ => i7), ?_⟩
    intro k q hq
    match k, hq with
    | 0, hq => cases hq; exact hK0
    | 1, hq => cases hq; exact hK1
    | 2, hq => cases hq; exact hK2
    | 3, hq => cases hq; exact hK3
    | 4, hq => cases hq; exact hK4
    | 5, hq => cases hq; exact hK5
    | 6, hq => cases hq; exact hK6
    | 7, hq => cases hq; exact hK7
    | k + 8, hq => simp [vwCl] at hq
  obtain ⟨a0, hA0⟩ : ∃ cA : ClassId, ArrOfT s cA .int ∧ va_RA s cA .int := by
    obtain ⟨cA, kA, comp, e1, e2, e3⟩ := Cond.arrayClass_spec (htx _ co_int)
    exact ⟨cA, fun n z => ⟨fun k h => (by cases h), kA, e2, comp, e3⟩, e1⟩
  obtain ⟨a1, hA1⟩ : ∃ cA : ClassId, ArrOfT s cA .byte ∧ va_RA s cA .byte := by
    obtain ⟨cA, kA, comp, e1, e2, e3⟩ := Cond.arrayClass_spec (htx _ co_byte)
    exact ⟨cA, fun n z => ⟨fun k h => (by cases h), kA, e2, comp, e3⟩, e1⟩
  obtain ⟨a2, hA2⟩ : ∃ cA : ClassId, ArrOfT s cA .boolean ∧ va_RA s cA .boolean := by
    obtain ⟨cA, kA, comp, e1, e2, e3⟩ := Cond.arrayClass_spec (htx _ co_boolean)
    exact ⟨cA, fun n z => ⟨fun k h => (by cases h), kA, e2, comp, e3⟩, e1⟩
  have hAO : va_AO "LieSlides$Field" s := va_AO.of (hts _ (xtb_1 (List.mem_of_getElem? (i := 138) rfl)))
  obtain ⟨a3, hA3⟩ : ∃ cA : ClassId, ArrOfT s cA (.object "LieSlides$Field") ∧ va_RA s cA (.object "LieSlides$Field") := by
    obtain ⟨comp, cA, kA, e1, e2, e3, e4, e5⟩ := Cond.arrayOver_spec hAO
    exact ⟨cA, fun n z => ⟨fun k h => (by cases h), kA, e3, comp, e4⟩, kA, comp, e3, e4, e1, e5⟩
  obtain ⟨cc, hK⟩ : ∃ cc : Nat → ClassId, va_K D vwCl (cTys cc) s := by
    refine ⟨fun k => match k with | 0 => a0 | 1 => a1 | 2 => a2 | _ => a3, hKc, fun k q hq => ?_⟩
    match k, hq with
    | 0, hq => cases hq; exact hA0
    | 1, hq => cases hq; exact hA1
    | 2, hq => cases hq; exact hA2
    | 3, hq => cases hq; exact hA3
    | k + 4, hq => simp [cTys] at hq
  have hNW : cNW s := ⟨va_Nw.of rfl (hts _ (xtb_1 (List.mem_of_getElem? (i := 27) rfl))), va_Nw.of rfl (hts _ (xtb_1 (List.mem_of_getElem? (i := 44) rfl))), va_Nw.of rfl (hts _ (xtb_1 (List.mem_of_getElem? (i := 50) rfl))), va_Nw.of rfl (hts _ (xtb_1 (List.mem_of_getElem? (i := 137) rfl))), va_Nw.of rfl (hts _ (xtb_1 (List.mem_of_getElem? (i := 141) rfl))), va_Nw.of rfl (hts _ (xtb_1 (List.mem_of_getElem? (i := 160) rfl))), va_Nw.of rfl (hts _ (xtb_1 (List.mem_of_getElem? (i := 179) rfl))), hAO⟩
  have hS : va_S (fun q : Nat => s.heap.size ≤ q) s.heap s.heap [] := va_S.rf
  have hP : va_P D vwCl [] s.heap := fun k q h => by simp at h
  have hD : va_D (fun q : Nat => s.heap.size ≤ q) [] := ⟨fun i j p q h => by simp at h, fun k q h => by simp at h⟩
  have hl := lv_entry ([.ref b]) (n := 4) (Nat.le_of_ble_eq_true rfl)
  rw [lg_entry_eq]
  generalize (lg_sl ([.ref b]) ++ List.replicate (4 - (lg_sl ([.ref b])).length) Slot.unset).toArray = ls at hl ⊢
  have hl : lv_has ls 4 [(0, .ref b)] := hl
  refine va_new (ci := 6) (fs := [.null, .null, .null, .null, .null, .null, .null, .int 0]) (C := RX7) (T := TX7) (N := 8) (own := R_law) hx hb htx xin_X7 tyX7 tyX7_ok hown (htx _ (xTB_of (xtb_1 (List.mem_of_getElem? (i := 17) rfl)) rfl)) (htx _ (xTB_of (xtb_1 (List.mem_of_getElem? (i := 18) rfl)) rfl)) (htx _ (xTB_of (xtb_1 (List.mem_of_getElem? (i := 1) rfl)) rfl)) hK hP hD hS hG rfl (fun j hj => by rcases (show j = 0 ∨ j = 1 ∨ j = 2 ∨ j = 3 ∨ j = 4 ∨ j = 5 ∨ j = 6 ∨ j = 7 by omega) with rfl | rfl | rfl | rfl | rfl | rfl | rfl | rfl <;> rfl) (Nat.le_of_ble_eq_true rfl) (Nat.le_of_ble_eq_true rfl) dL_law_0 (fun h0 H1 hP hD hS => ?_)
  have hP : va_P D vwCl [(h0, .inr (6, [.null, .null, .null, .null, .null, .null, .null, .int 0]))] H1 := hP
  have hD : va_D (fun q : Nat => s.heap.size ≤ q) [(h0, .inr (6, [.null, .null, .null, .null, .null, .null, .null, .int 0]))] := hD
  refine lv_dup hx hb dL_law_3 rfl ?_
  have hPc : va_P D vwCl [(h0, .inr (6, [.null, .null, .null, .null, .null, .null, .null, .int 0]))] H1 := hP.sub [0] rfl
  have hDc : va_D (fun q : Nat => s.heap.size ≤ q) [(h0, .inr (6, [.null, .null, .null, .null, .null, .null, .null, .int 0]))] := hD.sub [0] rfl rfl
  have hFc := va_free (wc := [(h0, .inr (6, [.null, .null, .null, .null, .null, .null, .null, .int 0]))]) hD hS hG [0] rfl
  refine va_callv (S := va_W) (va_runI (nL := 4) (As := []) (rest := [.ref h0]) ⟨hx, hb, hml, hown, htx⟩ (cmet (sz := H1.size) okX7_init rfl rfl rfl (co_X7 (D := D) (cc := cc) (l := l) (d := 0) h0)) (cwI 0 htx (xgood mX7_init 0 okX7_init) rfl rfl rfl (htx _ (xTB_of (xtb_1 (List.mem_of_getElem? (i := 1) rfl)) rfl)) (htx _ (xTB_of (xtb_1 (List.mem_of_getElem? (i := 19) rfl)) rfl)) (htx _ (xTB_of (xtb_1 (List.mem_of_getElem? (i := 20) rfl)) rfl)) rfl (by decide +kernel) ⟨Nat.le_of_ble_eq_true rfl, Nat.le_of_ble_eq_true rfl⟩) ⟨cPc_blind, fun U hU hW => ⟨rfl, by rw [hU], by rw [hU]; exact hPc, va_K.moved hW.alike hK, hDc.weaken (fun _ _ _ _ => trivial), hNW.move hW⟩⟩ rfl rfl hl.1 rfl (lv_room (Nat.le_of_ble_eq_true rfl)) dL_law_4 ⟨Nat.le_of_ble_eq_true rfl, Nat.le_of_ble_eq_true rfl⟩) hS (fun q _ h => hFc q h) hFc (fun u t H2 locs ht hvm hw hB hz1 hk1 hS => ?_)
  obtain ⟨q1, q2, q3, q4, q5, q6, q7, q8, q9, q10, q11, q12, q13, q14, q15, q16, q17, q18, q19, q20, q21, q22, q23, q24, q25, q26, q27, q28, q29, q30, q31, q32, q33, q34, q35, q36, q37, q38, q39, q40, q41, q42, q43, q44, q45, q46, q47, q48, f2, hf2, rfl⟩ := hw
  obtain ⟨hP1, hD1⟩ := hB
  rw [ht] at hP1
  obtain ⟨hP, hD⟩ := va_join (wr := []) (w1 := (wX7 cc f2 h0 q1 q2 q3 q4 q5 q6 q7 q8 q9 q10 q11 q12 q13 q14 q15 q16 q17 q18 q19 q20 q21 q22 q23 q24 q25 q26 q27 q28 q29 q30 q31 q32 q33 q34 q35 q36 q37 q38 q39 q40 q41 q42 q43 q44 q45 q46 q47 q48)) hP hD [0] [] rfl rfl (by decide) (by decide) hk1 hFc hP1 hD1
  have hP : va_P D vwCl (wX7 cc f2 h0 q1 q2 q3 q4 q5 q6 q7 q8 q9 q10 q11 q12 q13 q14 q15 q16 q17 q18 q19 q20 q21 q22 q23 q24 q25 q26 q27 q28 q29 q30 q31 q32 q33 q34 q35 q36 q37 q38 q39 q40 q41 q42 q43 q44 q45 q46 q47 q48) H2 := hP
  have hD : va_D (fun q : Nat => s.heap.size ≤ q) (wX7 cc f2 h0 q1 q2 q3 q4 q5 q6 q7 q8 q9 q10 q11 q12 q13 q14 q15 q16 q17 q18 q19 q20 q21 q22 q23 q24 q25 q26 q27 q28 q29 q30 q31 q32 q33 q34 q35 q36 q37 q38 q39 q40 q41 q42 q43 q44 q45 q46 q47 q48) := hD
  refine lv_astore_n (lv' := [(1, .ref h0), (0, .ref b)]) hx hb dL_law_7 rfl hl (by decide) rfl (fun ls hl => ?_)
  refine va_new (ci := 7) (fs := [.null, .null, .null, .int 0, .int 0, .null, .int 0, .int 0, .int 0, .long 0, .int 0, .int 0, .int 0, .null, .null, .null, .null, .int 0, .null, .null, .int 0, .null, .null, .null]) (C := RX8) (T := TX8) (N := 24) (own := R_law) hx hb htx xin_X8 tyX8 tyX8_ok hown (htx _ (xTB_of (xtb_4 (List.mem_of_getElem? (i := 40) rfl)) rfl)) (htx _ (xTB_of (xtb_4 (List.mem_of_getElem? (i := 41) rfl)) rfl)) (htx _ (xTB_of (xtb_1 (List.mem_of_getElem? (i := 8) rfl)) rfl)) hK hP hD hS hG rfl (fun j hj => by rcases (show j = 0 ∨ j = 1 ∨ j = 2 ∨ j = 3 ∨ j = 4 ∨ j = 5 ∨ j = 6 ∨ j = 7 ∨ j = 8 ∨ j = 9 ∨ j = 10 ∨ j = 11 ∨ j = 12 ∨ j = 13 ∨ j = 14 ∨ j = 15 ∨ j = 16 ∨ j = 17 ∨ j = 18 ∨ j = 19 ∨ j = 20 ∨ j = 21 ∨ j = 22 ∨ j = 23 by omega) with rfl | rfl | rfl | rfl | rfl | rfl | rfl | rfl | rfl | rfl | rfl | rfl | rfl | rfl | rfl | rfl | rfl | rfl | rfl | rfl | rfl | rfl | rfl | rfl <;> rfl) (Nat.le_of_ble_eq_true rfl) (Nat.le_of_ble_eq_true rfl) dL_law_8 (fun q49 H3 hP hD hS => ?_)
  refine lv_dup hx hb dL_law_11 rfl ?_
  have hPc : va_P D vwCl [(q49, .inr (7, [.null, .null, .null, .int 0, .int 0, .null, .int 0, .int 0, .int 0, .long 0, .int 0, .int 0, .int 0, .null, .null, .null, .null, .int 0, .null, .null, .int 0, .null, .null, .null]))] H3 := hP.sub [49] rfl
  have hDc : va_D (fun q : Nat => s.heap.size ≤ q) [(q49, .inr (7, [.null, .null, .null, .int 0, .int 0, .null, .int 0, .int 0, .int 0, .long 0, .int 0, .int 0, .int 0, .null, .null, .null, .null, .int 0, .null, .null, .int 0, .null, .null, .null]))] := hD.sub [49] rfl rfl
  have hFc := va_free (wc := [(q49, .inr (7, [.null, .null, .null, .int 0, .int 0, .null, .int 0, .int 0, .int 0, .long 0, .int 0, .int 0, .int 0, .null, .null, .null, .null, .int 0, .null, .null, .int 0, .null, .null, .null]))]) hD hS hG [49] rfl
  refine va_callv (S := va_W) (va_runI (nL := 4) (As := []) (rest := [.ref q49]) ⟨hx, hb, hml, hown, htx⟩ (cmet (sz := H3.size) okX8_init rfl rfl rfl (co_X8 (D := D) (cc := cc) (l := l) (d := 0) q49)) (cwI 0 htx (xgood mX8_init 0 okX8_init) rfl rfl rfl (htx _ (xTB_of (xtb_1 (List.mem_of_getElem? (i := 8) rfl)) rfl)) (htx _ (xTB_of (xtb_4 (List.mem_of_getElem? (i := 42) rfl)) rfl)) (htx _ (xTB_of (xtb_4 (List.mem_of_getElem? (i := 43) rfl)) rfl)) rfl (by decide +kernel) ⟨Nat.le_of_ble_eq_true rfl, Nat.le_of_ble_eq_true rfl⟩) ⟨cPc_blind, fun U hU hW => ⟨rfl, by rw [hU], by rw [hU]; exact hPc, va_K.moved hW.alike hK, hDc.weaken (fun _ _ _ _ => trivial), hNW.move hW⟩⟩ rfl rfl hl.1 rfl (lv_room (Nat.le_of_ble_eq_true rfl)) dL_law_12 ⟨Nat.le_of_ble_eq_true rfl, Nat.le_of_ble_eq_true rfl⟩) hS (fun q _ h => hFc q h) hFc (fun u t H4 locs ht hvm hw hB hz1 hk1 hS => ?_)
  obtain ⟨q50, q51, q52, q53, q54, q55, q56, q57, q58, q59, q60, q61, q62, f50, hf50, rfl⟩ := hw
  obtain ⟨hP1, hD1⟩ := hB
  rw [ht] at hP1
  obtain ⟨hP, hD⟩ := va_join (wr := (wX7 cc f2 h0 q1 q2 q3 q4 q5 q6 q7 q8 q9 q10 q11 q12 q13 q14 q15 q16 q17 q18 q19 q20 q21 q22 q23 q24 q25 q26 q27 q28 q29 q30 q31 q32 q33 q34 q35 q36 q37 q38 q39 q40 q41 q42 q43 q44 q45 q46 q47 q48)) (w1 := (wX8 cc f50 q49 q50 q51 q52 q53 q54 q55 q56 q57 q58 q59 q60 q61 q62)) hP hD [49] [0, 1, 2, 3, 4, 5, 6, 7, 8, 9, 10, 11, 12, 13, 14, 15, 16, 17, 18, 19, 20, 21, 22, 23, 24, 25, 26, 27, 28, 29, 30, 31, 32, 33, 34, 35, 36, 37, 38, 39, 40, 41, 42, 43, 44, 45, 46, 47, 48] rfl rfl (by decide) (by decide) hk1 hFc hP1 hD1
  refine lv_astore_n (lv' := [(2, .ref q49), (1, .ref h0), (0, .ref b)]) hx hb dL_law_15 rfl hl (by decide) rfl (fun ls hl => ?_)
  refine lv_iconst (v := 0) hx hb dL_law_16 (by decide) ?_
  refine lv_istore_n (lv' := [(3, .int 0), (2, .ref q49), (1, .ref h0), (0, .ref b)]) hx hb dL_law_17 rfl hl (by decide) rfl (fun ls hl => ?_)
  obtain ⟨hPg, hDg⟩ := world_start (t0 := t0) (t1 := t1) (t2 := t2) (b := b) (sz := s.heap.size) (L := L) (xs := xs) (K := adK) (V := adV) hP hD
  have hxro : XRO ((D, adrOf [h0, q1, q2, q3, q4, q5, q6, q7, q8, q9, q10, q11, q12, q13, q14, q15, q16, q17, q18, q19, q20, q21, q22, q23, q24, q25, q26, q27, q28, q29, q30, q31, q32, q33, q34, q35, q36, q37, q38, q39, q40, q41, q42, q43, q44, q45, q46, q47, q48, q49, q50, q51, q52, q53, q54, q55, q56, q57, q58, q59, q60, q61, q62] t0 t1 t2 b adK adV, cc, s.heap.size, L, xs) : XG) s := hRO ((D, adrOf [h0, q1, q2, q3, q4, q5, q6, q7, q8, q9, q10, q11, q12, q13, q14, q15, q16, q17, q18, q19, q20, q21, q22, q23, q24, q25, q26, q27, q28, q29, q30, q31, q32, q33, q34, q35, q36, q37, q38, q39, q40, q41, q42, q43, q44, q45, q46, q47, q48, q49, q50, q51, q52, q53, q54, q55, q56, q57, q58, q59, q60, q61, q62] t0 t1 t2 b adK adV, cc, s.heap.size, L, xs) : XG) rfl rfl rfl rfl rfl rfl rfl (fun i hi => adrOf_K hi) (fun i hi => adrOf_V hi)
  refine law_loop (g := ((D, adrOf [h0, q1, q2, q3, q4, q5, q6, q7, q8, q9, q10, q11, q12, q13, q14, q15, q16, q17, q18, q19, q20, q21, q22, q23, q24, q25, q26, q27, q28, q29, q30, q31, q32, q33, q34, q35, q36, q37, q38, q39, q40, q41, q42, q43, q44, q45, q46, q47, q48, q49, q50, q51, q52, q53, q54, q55, q56, q57, q58, q59, q60, q61, q62] t0 t1 t2 b adK adV, cc, s.heap.size, L, xs) : XG)) (l := l) hL (L + 7) 0 (M0 f2 f50) (by show L + 7 ≤ 0 + (L + 7); omega) (Nat.zero_le _) (inv_start hf2 hf50) p e room_1 s m #[Value.ref b] below meth c H4 _ _ _ _ ls ⟨hx, hb, hr, hml, hown, htx, hlocks, hK, hxro⟩ ⟨Nat.le_of_ble_eq_true rfl, Nat.le_of_ble_eq_true rfl, Nat.le_of_ble_eq_true rfl, Nat.le_of_ble_eq_true rfl⟩ ⟨hPg, hDg, hS⟩ (lv_sub hl [3, 2, 1, 0] rfl) (fun r M' H' locs' pc' ls' hq hH hret => ?_)
  have hq : r = some (xi 1) := hq
  subst hq
  refine va_forget (fun q hq => hH.2.2.2.2 q hq) ?_
  refine W.widen (k := 600000) (n := 7302250) (Nat.le_of_ble_eq_true rfl) (Nat.le_of_ble_eq_true rfl) ?_
  exact lw_ret hx hb hr hlocks hret.1
end WHOLE
