/-! WHAT IS ONLY READ, out of the premises -/
section RO
set_option maxRecDepth 100000 in
set_option maxHeartbeats 4000000 in
theorem xro_of {s : State} {b L : Nat} {xs : Nat → Int32} (hts : ∀ w ∈ lw_tbl, w.before #[Value.ref b] s = true) (hgv : (Jvm.Cond.and given_1 narrow_1).before #[Value.ref b] s = true) (hX : va_X b L xs s s.heap) (hbl : b < s.heap.size) :
    ∃ (t0 t1 t2 : Nat) (adK adV : Nat → Nat), ∀ g : XG, g.2.2.2.1 = s.heap.size → g.2.2.2.2.1 = L → g.2.2.2.2.2 = xs → g.2.1 1000 = t0 → g.2.1 1001 = t1 → g.2.1 1002 = t2 → g.2.1 1003 = b → (∀ i, i < 9 → g.2.1 (1100 + i) = adK i) → (∀ i, i < 9 → g.2.1 (1200 + i) = adV i) → XRO g s := by
  have hs := flat_of_before _ hgv
  have hA : ∀ a : Nat, a < s.heap.size → ¬ (fun q : Nat => s.heap.size ≤ q) a := fun a h => Nat.not_le.mpr h
  obtain ⟨t0, ht0, hT0⟩ := va_Tof (tm := .static "LieSlides$Kinds" "PARENTS" "[I") (ty := .int) (N := 6) (f := fun i => .int (xtab 0 i)) (A := fun q : Nat => s.heap.size ≤ q) (by decide) (hs _ (by decide +kernel)) (va_eqt (z := 6) (hs _ (by decide +kernel))) (fun j hj => by
    rcases (show j = 0 ∨ j = 1 ∨ j = 2 ∨ j = 3 ∨ j = 4 ∨ j = 5 by omega) with rfl | rfl | rfl | rfl | rfl | rfl <;> exact va_eqt (hs _ (by decide +kernel))) hA
  obtain ⟨t1, ht1, hT1⟩ := va_Tof (tm := .static "LieSlides$Bodies" "SIZE_BODIES" "[I") (ty := .int) (N := 6) (f := fun i => .int (xtab 1 i)) (A := fun q : Nat => s.heap.size ≤ q) (by decide) (hs _ (by decide +kernel)) (va_eqt (z := 6) (hs _ (by decide +kernel))) (fun j hj => by
    rcases (show j = 0 ∨ j = 1 ∨ j = 2 ∨ j = 3 ∨ j = 4 ∨ j = 5 by omega) with rfl | rfl | rfl | rfl | rfl | rfl <;> exact va_eqt (hs _ (by decide +kernel))) hA
  obtain ⟨t2, ht2, hT2⟩ := va_Tof (tm := .static "LieSlides$Bodies" "MARK_BODIES" "[I") (ty := .int) (N := 6) (f := fun i => .int (xtab 2 i)) (A := fun q : Nat => s.heap.size ≤ q) (by decide) (hs _ (by decide +kernel)) (va_eqt (z := 6) (hs _ (by decide +kernel))) (fun j hj => by
    rcases (show j = 0 ∨ j = 1 ∨ j = 2 ∨ j = 3 ∨ j = 4 ∨ j = 5 by omega) with rfl | rfl | rfl | rfl | rfl | rfl <;> exact va_eqt (hs _ (by decide +kernel))) hA
  have hZ0 := va_Zof (hts (.laysStatic "LieSlides$Kinds" "PARENTS" "[I") (by decide +kernel)) (hts (.initialized "LieSlides$Kinds") (by decide +kernel)) ht0 hA
  have hZ1 := va_Zof (hts (.laysStatic "LieSlides$Bodies" "SIZE_BODIES" "[I") (by decide +kernel)) (hts (.initialized "LieSlides$Bodies") (by decide +kernel)) ht1 hA
  have hZ2 := va_Zof (hts (.laysStatic "LieSlides$Bodies" "MARK_BODIES" "[I") (by decide +kernel)) (hts (.initialized "LieSlides$Bodies") (by decide +kernel)) ht2 hA
  have hZ3 := va_Zof (hts (.laysStatic "java/lang/String" "COMPACT_STRINGS" "Z") (by decide +kernel)) (hts (.initialized "java/lang/String") (by decide +kernel)) (va_eqi (z := 1) (hs _ (by decide +kernel))) hA
  have hZ4 := va_Zqof (hts (.laysStatic "jdk/internal/util/Preconditions" "SIOOBE_FORMATTER" "Ljava/util/function/BiFunction;") (by decide +kernel)) (hts (.initialized "jdk/internal/util/Preconditions") (by decide +kernel)) (hs _ (by decide +kernel)) hA
  obtain ⟨adK, adV, hS, hE⟩ := vk_Sof (s := s) (args := #[Value.ref b]) (N := 9) (tm := fun i => .string "LieSlides$Reader" (xsx i)) (len := xln) (byt := xby) (A := fun q : Nat => s.heap.size ≤ q) (by decide)
    (fun i hi => hs _ ((show ∀ i, i < 9 → Cond.exactly (.string "LieSlides$Reader" (xsx i)) "java/lang/String" ∈ _ from by decide +kernel) i hi))
    (fun i hi => hs _ ((show ∀ i, i < 9 → Cond.eq (.field (.string "LieSlides$Reader" (xsx i)) "java/lang/String" "coder" "B") (.int 0) ∈ _ from by decide +kernel) i hi))
    (fun i hi => hs _ ((show ∀ i, i < 9 → Cond.arrayOf (.field (.string "LieSlides$Reader" (xsx i)) "java/lang/String" "value" "[B") .byte ∈ _ from by decide +kernel) i hi))
    (fun i hi => hs _ ((show ∀ i, i < 9 → Cond.eq (.length (.field (.string "LieSlides$Reader" (xsx i)) "java/lang/String" "value" "[B")) (.int (Int32.ofNat (xln.getD i 0))) ∈ _ from by decide +kernel) i hi))
    (fun i hi j hj => hs _ ((show ∀ i, i < 9 → ∀ j, j < xln.getD i 0 → Cond.eq (.elem (.field (.string "LieSlides$Reader" (xsx i)) "java/lang/String" "value" "[B") (.int (Int32.ofNat j))) (.int ((xby.getD i []).getD j 0)) ∈ _ from by decide +kernel) i hi j hj))
    (fun i j hi hj hne => ((show ∀ i, i < 9 → ∀ j, j < 9 → i ≠ j → Cond.not (Cond.eq (.string "LieSlides$Reader" (xsx i)) (.string "LieSlides$Reader" (xsx j))) ∈ _ ∨ Cond.not (Cond.eq (.string "LieSlides$Reader" (xsx j)) (.string "LieSlides$Reader" (xsx i))) ∈ _ from by decide +kernel) i hi j hj hne).imp (fun q => hs _ q) (fun q => hs _ q)) hA
  have hR : ∀ i, i < 9 → vk_R "LieSlides$Reader" (xsx i) (xtx i) (adK i) s := fun i hi => vk_R.of (hts _ ((show ∀ i, i < 9 → Cond.stringRef "LieSlides$Reader" (xsx i) (xtx i) ∈ lw_tbl from by decide +kernel) i hi)) (hE i hi)
  refine ⟨t0, t1, t2, adK, adV, fun g h1 h2 h3 e0 e1 e2 e3 eK eV => ?_⟩
  have hxA : xA g = fun q : Nat => s.heap.size ≤ q := by unfold xA; rw [h1]
  unfold XRO
  rw [hxA, h2, h3, e3]
  refine ⟨fun j hj => ?_, ?_, ⟨hZ3, hZ4⟩, ?_, fun i hi => by rw [eK i hi]; exact hR i hi⟩
  · rcases (show j = 0 ∨ j = 1 ∨ j = 2 by omega) with rfl | rfl | rfl
    · show va_T .int (g.2.1 1000) 6 _ _ s s.heap ∧ va_Z _ _ _ (.ref (g.2.1 1000)) _ s s.heap
      rw [e0]; exact ⟨hT0, hZ0⟩
    · show va_T .int (g.2.1 1001) 6 _ _ s s.heap ∧ va_Z _ _ _ (.ref (g.2.1 1001)) _ s s.heap
      rw [e1]; exact ⟨hT1, hZ1⟩
    · show va_T .int (g.2.1 1002) 6 _ _ s s.heap ∧ va_Z _ _ _ (.ref (g.2.1 1002)) _ s s.heap
      rw [e2]; exact ⟨hT2, hZ2⟩
  · obtain ⟨scr, q1, q2, q3, q4, q5⟩ := hX
    exact ⟨scr, q1, q2, q3, by rw [q4]; exact Nat.le_refl _, by rw [q4], q5, hA b hbl⟩
  · refine ⟨fun i hi => ?_, fun i j hi hj e => hS.2 i j hi hj (by dsimp only at e; rw [eK i hi, eK j hj] at e; exact e)⟩
    dsimp only; rw [eK i hi, eV i hi]; exact hS.1 i hi
end RO
