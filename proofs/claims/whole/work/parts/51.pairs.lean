section PAIRS1
variable {g : XG} {l : Launch} {M M' : XM}
theorem IvR.up {r t s : Nat} (h : IvR M) (hr : r < 8) (ht : t < 3) (hs : s ≤ 40) (e1 : M'.1 2 r = nI t) (e2 : M'.1 50 r = nI t) (e3 : M'.1 3 r = nI s) (e4 : M'.1 51 r = nI s) (e5 : ∀ j, j < s → M'.1 4 (r * 40 + j) = M'.1 52 (40 * r + j))
    (hk : ∀ a b, ((a = 2 ∨ a = 3 ∨ a = 50 ∨ a = 51) ∧ b ≠ r) ∨ ((a = 4 ∨ a = 52) ∧ (b < 40 * r ∨ 40 * r + 40 ≤ b)) → M'.1 a b = M.1 a b) : IvR M' := by
  intro r2 hr2
  by_cases e : r2 = r
  · subst e
    exact Or.inr ⟨t, s, ht, hs, e1, e2, e3, e4, e5⟩
  · rcases h r2 hr2 with ⟨q1, q2⟩ | ⟨t2, s2, ht2, hs2, p1, p2, p3, p4, p5⟩
    · exact Or.inl ⟨(hk 2 r2 (by omega)).trans q1, (hk 50 r2 (by omega)).trans q2⟩
    · exact Or.inr ⟨t2, s2, ht2, hs2, (hk 2 r2 (by omega)).trans p1, (hk 50 r2 (by omega)).trans p2, (hk 3 r2 (by omega)).trans p3, (hk 51 r2 (by omega)).trans p4, fun j hj => by rw [hk 4 _ (by omega), hk 52 _ (by omega)]; exact p5 j hj⟩
/-- a change of the rows and of the finding alone -/
theorem Inv.rows (h : Inv M) (hR : IvR M') (hf : M'.1 0 7 = M'.1 49 3) (hk : ∀ a b, (a ≠ 2 ∧ a ≠ 3 ∧ a ≠ 4 ∧ a ≠ 50 ∧ a ≠ 51 ∧ a ≠ 52 ∧ a ≠ 61 ∧ ¬ (a = 0 ∧ b = 7) ∧ ¬ (a = 49 ∧ b = 3)) → M'.1 a b = M.1 a b) : Inv M' :=
  ⟨hR, hf, h.2.2.1.keep (fun a b q => hk a b (by omega)), (hk 5 3 (by omega)).trans (h.2.2.2.1.trans (hk 49 11 (by omega)).symm), h.2.2.2.2.1.keep (fun a b q => hk a b (by omega)), h.2.2.2.2.2.1.keep (fun a b q => hk a b (by omega)), h.2.2.2.2.2.2.keep (fun a b q => hk a b (by omega))⟩
theorem pr_set (hI : Inv M) (a i v : Int32) : PR2 g l mX7_set mX8_set [xi a, xi i, xi v] M := by
  rcases i_nat (a := a) (n := 8) (by decide) with ⟨r, hr, rfl⟩ | h
  · rcases hI.1 r hr with ⟨q1, q2⟩ | ⟨t, s, ht, hs, e1, e2, e3, e4, e5⟩
    · exact PR2.of (k_X7_set_null (d := 8) hr q1) (k_X8_set_null (d := 8) hr (by rw [xup_cell _ _ (by decide)]; exact q2)) (hI.find 1)
    · have n1 : ¬ M.1 2 r = -1 := by rw [e1]; exact nI_ne_m1 (by omega)
      have n2 : ¬ M.1 50 r = -1000000 := by rw [e2]; exact nI_none (by omega)
      rcases i_nat (a := i) (n := s) (by omega) with ⟨j, hj, rfl⟩ | h2
      · refine PR2.of (k_X7_set_ok (d := 8) hr n1 e3 hs hj) (M2 := xup (xup (xup (xup M 4 (r * 40 + j) (cutL (nI t) v)) 0 7 0) 52 (40 * r + j) (cutL (nI t) v)) 49 3 0) (XC.eqv (k_X8_set_ok (d := 8) hr ?_ ?_ hs hj) ?_ ?_) ?_
        · rw [xup_cell _ _ (by decide), xup_cell _ _ (by decide)]; exact n2
        · rw [xup_cell _ _ (by decide), xup_cell _ _ (by decide)]; exact e4
        · rw [xup_cell _ _ (by decide), xup_cell _ _ (by decide), e1, e2]
        · rw [xup_cell _ _ (by decide), xup_cell _ _ (by decide), e1, e2]
        · have hat : ∀ a b, (xup (xup (xup (xup M 4 (r * 40 + j) (cutL (nI t) v)) 0 7 0) 52 (40 * r + j) (cutL (nI t) v)) 49 3 0).1 a b = if a = 49 ∧ b = 3 then 0 else if a = 52 ∧ b = 40 * r + j then cutL (nI t) v else if a = 0 ∧ b = 7 then 0 else if a = 4 ∧ b = r * 40 + j then cutL (nI t) v else M.1 a b := by
            intro a b
            simp only [xup_at]
          refine hI.rows (hI.1.up (r := r) (t := t) (s := s) hr ht hs ?_ ?_ ?_ ?_ (fun k hk => ?_) (fun a b q => ?_)) ?_ (fun a b q => ?_)
          · rw [hat]; simp; exact e1
          · rw [hat]; simp; exact e2
          · rw [hat]; simp; exact e3
          · rw [hat]; simp; exact e4
          · rw [hat, hat]; simp only [Nat.reduceEqDiff, false_and, if_false, true_and]
            by_cases e : k = j
            · subst e; rw [if_pos rfl, if_pos rfl]
            · rw [if_neg (by omega), if_neg (by omega)]; exact e5 k hk
          · rw [hat]; repeat rw [if_neg (by omega)]
          · rw [hat, hat]; simp
          · rw [hat]; repeat rw [if_neg (by omega)]
      · exact PR2.of (k_X7_set_place (d := 8) hr n1 e3 hs h2) (k_X8_set_place (d := 8) hr (by rw [xup_cell _ _ (by decide)]; exact n2) (by rw [xup_cell _ _ (by decide)]; exact e4) hs h2) (hI.find 2)
  · exact PR2.of (k_X7_set_bad (d := 8) h) (k_X8_set_bad (d := 8) h) hI
theorem pr_drop (hI : Inv M) (a : Int32) : PR2 g l mX7_drop mX8_drop [xi a] M := by
  rcases i_nat (a := a) (n := 8) (by decide) with ⟨r, hr, rfl⟩ | h
  · rcases hI.1 r hr with ⟨q1, q2⟩ | ⟨t, s, ht, hs, e1, e2, e3, e4, e5⟩
    · exact PR2.of (k_X7_drop_null (d := 8) hr q1) (k_X8_drop_null (d := 8) hr (by rw [xup_cell _ _ (by decide)]; exact q2)) (hI.find 1)
    · have n1 : ¬ M.1 2 r = -1 := by rw [e1]; exact nI_ne_m1 (by omega)
      have n2 : ¬ M.1 50 r = -1000000 := by rw [e2]; exact nI_none (by omega)
      refine PR2.of (k_X7_drop_ok (d := 8) hr n1) (M2 := xup (xup (xup (xup M 2 r (-1)) 0 7 0) 50 r (-1000000)) 49 3 0) (XC.eqv (k_X8_drop_ok (d := 8) hr ?_) ?_ rfl) ?_
      · rw [xup_cell _ _ (by decide), xup_cell _ _ (by decide)]; exact n2
      · rw [xup_cell _ _ (by decide), xup_cell _ _ (by decide), e3, e4]
      · have hat : ∀ a b, (xup (xup (xup (xup M 2 r (-1)) 0 7 0) 50 r (-1000000)) 49 3 0).1 a b = if a = 49 ∧ b = 3 then 0 else if a = 50 ∧ b = r then -1000000 else if a = 0 ∧ b = 7 then 0 else if a = 2 ∧ b = r then -1 else M.1 a b := by
          intro a b
          simp only [xup_at]
        refine hI.rows (fun r2 hr2 => ?_) ?_ (fun a b q => ?_)
        · by_cases e : r2 = r
          · subst e
            exact Or.inl ⟨by rw [hat]; simp, by rw [hat]; simp⟩
          · rcases hI.1 r2 hr2 with ⟨q1, q2⟩ | ⟨t2, s2, ht2, hs2, p1, p2, p3, p4, p5⟩
            · exact Or.inl ⟨by rw [hat]; simp [e]; exact q1, by rw [hat]; simp [e]; exact q2⟩
            · exact Or.inr ⟨t2, s2, ht2, hs2, by rw [hat]; simp [e]; exact p1, by rw [hat]; simp [e]; exact p2, by rw [hat]; simp; exact p3, by rw [hat]; simp; exact p4, fun j hj => by rw [hat, hat]; simp; exact p5 j hj⟩
        · rw [hat, hat]; simp
        · rw [hat]; repeat rw [if_neg (by omega)]
  · exact PR2.of (k_X7_drop_bad (d := 8) h) (k_X8_drop_bad (d := 8) h) hI
theorem i_nn {x : Int32} (h : 0 ≤ x) : ∃ j : Nat, j < 2 ^ 31 ∧ x = nI j ∧ x.toInt = (j : Int) := by
  obtain ⟨j, hj, rfl⟩ := nI_of (x := x) (by rw [Int32.not_lt]; exact h)
  exact ⟨j, hj, rfl, nI_toInt hj⟩
theorem pr_copy (hI : Inv M) (a i b j n : Int32) : PR2 g l mX7_copy mX8_copy [xi a, xi i, xi b, xi j, xi n] M := by
  by_cases h : (0 ≤ a ∧ a < 8) ∧ 0 ≤ b ∧ b < 8
  · obtain ⟨r, hr, rfl⟩ := nv_lit (n := 8) (by decide) h.1.1 h.1.2
    obtain ⟨r2, hr2, rfl⟩ := nv_lit (n := 8) (by decide) h.2.1 h.2.2
    rcases hI.1 r hr with ⟨q1, q2⟩ | ⟨t, s, ht, hs, e1, e2, e3, e4, e5⟩
    · exact PR2.of (k_X7_copy_null (d := 8) hr hr2 (Or.inl q1)) (k_X8_copy_null (d := 8) hr hr2 (Or.inl (by rw [xup_cell _ _ (by decide)]; exact q2))) (hI.find 1)
    · rcases hI.1 r2 hr2 with ⟨q1, q2⟩ | ⟨t2, s2, ht2, hs2, p1, p2, p3, p4, p5⟩
      · exact PR2.of (k_X7_copy_null (d := 8) hr hr2 (Or.inr q1)) (k_X8_copy_null (d := 8) hr hr2 (Or.inr (by rw [xup_cell _ _ (by decide)]; exact q2))) (hI.find 1)
      · have n1 : ¬ M.1 2 r = -1 := by rw [e1]; exact nI_ne_m1 (by omega)
        have n2 : ¬ M.1 50 r = -1000000 := by rw [e2]; exact nI_none (by omega)
        have n3 : ¬ M.1 2 r2 = -1 := by rw [p1]; exact nI_ne_m1 (by omega)
        have n4 : ¬ M.1 50 r2 = -1000000 := by rw [p2]; exact nI_none (by omega)
        by_cases e : M.1 2 r = M.1 2 r2
        · have e' : M.1 50 r = M.1 50 r2 := by rw [e2, p2, ← e1, ← p1]; exact e
          by_cases hp : (0 ≤ i ∧ 0 ≤ n ∧ i.toInt + n.toInt ≤ (s : Int)) ∧ 0 ≤ j ∧ 0 ≤ n ∧ j.toInt + n.toInt ≤ (s2 : Int)
          · obtain ⟨⟨hi, hn, h3⟩, hj, -, h4⟩ := hp
            obtain ⟨i, -, rfl, ei⟩ := i_nn hi
            obtain ⟨j, -, rfl, ej⟩ := i_nn hj
            obtain ⟨n, -, rfl, en⟩ := i_nn hn
            rw [ei, en] at h3
            rw [ej, en] at h4
            have h3 : i + n ≤ s := by omega
            have h4 : j + n ≤ s2 := by omega
            have hu : ∀ a b, a ≠ 4 → ¬ (a = 0 ∧ b = 7) → (xup (xum M 4 (va_cpy (M.1 4) (M.1 4) (r * 40 + i) (r2 * 40 + j) n)) 0 7 0).1 a b = M.1 a b := fun a b q1 q2 => by rw [xup_at, if_neg q2, xum_at, if_neg q1]
            refine PR2.of (k_X7_copy_ok (d := 8) hr hr2 n1 n3 e e3 p3 hs hs2 h3 h4) (k_X8_copy_ok (d := 8) hr hr2 ?_ ?_ ?_ ?_ ?_ hs hs2 h3 h4) ?_
            · rw [hu _ _ (by decide) (by omega)]; exact n2
            · rw [hu _ _ (by decide) (by omega)]; exact n4
            · rw [hu _ _ (by decide) (by omega), hu _ _ (by decide) (by omega)]; exact e'
            · rw [hu _ _ (by decide) (by omega)]; exact e4
            · rw [hu _ _ (by decide) (by omega)]; exact p4
            · have hat : ∀ a b, (fin52 (fin61 (xup (xum M 4 (va_cpy (M.1 4) (M.1 4) (r * 40 + i) (r2 * 40 + j) n)) 0 7 0) (40 * r + i) n 0) (40 * r2 + j) n 0).1 a b = if a = 49 ∧ b = 3 then 0 else if a = 52 then (if 40 * r2 + j + 0 ≤ b ∧ b < 40 * r2 + j + n then (if 0 ≤ b - (40 * r2 + j) ∧ b - (40 * r2 + j) < n then M.1 52 (40 * r + i + (b - (40 * r2 + j))) else M.1 61 (b - (40 * r2 + j))) else M.1 52 b) else if a = 61 then (if 0 ≤ b ∧ b < n then M.1 52 (40 * r + i + b) else M.1 61 b) else if a = 0 ∧ b = 7 then 0 else if a = 4 then va_cpy (M.1 4) (M.1 4) (r * 40 + i) (r2 * 40 + j) n b else M.1 a b := by
                intro a b
                simp only [fin52, fin61, xup_at, xum_at, Nat.reduceEqDiff, false_and, if_false, if_true]
              refine hI.rows (hI.1.up (r := r2) (t := t2) (s := s2) hr2 ht2 hs2 ?_ ?_ ?_ ?_ (fun k hk => ?_) (fun a b q => ?_)) ?_ (fun a b q => ?_)
              · rw [hat]; simp; exact p1
              · rw [hat]; simp; exact p2
              · rw [hat]; simp; exact p3
              · rw [hat]; simp; exact p4
              · rw [hat, hat]; simp only [Nat.reduceEqDiff, false_and, if_false, if_true]
                by_cases q : j ≤ k ∧ k < j + n
                · rw [if_pos (by omega), if_pos (by omega), pk_cpy_in (by omega) (by omega), show r * 40 + i + (r2 * 40 + k - (r2 * 40 + j)) = r * 40 + (i + (k - j)) by omega, show 40 * r + i + (40 * r2 + k - (40 * r2 + j)) = 40 * r + (i + (k - j)) by omega]
                  exact e5 _ (by omega)
                · rw [if_neg (by omega), pk_cpy_out (by omega)]; exact p5 k hk
              · rw [hat]
                rcases q with ⟨q1, q2⟩ | ⟨q1 | q1, q2⟩
                · repeat rw [if_neg (by omega)]
                · subst q1
                  simp only [Nat.reduceEqDiff, false_and, if_false, if_true]
                  rw [pk_cpy_out (by omega)]
                · subst q1
                  simp only [Nat.reduceEqDiff, false_and, if_false, if_true]
                  rw [if_neg (by omega)]
              · rw [hat, hat]; simp
              · rw [hat]; repeat rw [if_neg (by omega)]
          · exact PR2.of (k_X7_copy_place (d := 8) hr hr2 n1 n3 e e3 p3 hs hs2 hp) (k_X8_copy_place (d := 8) hr hr2 (by rw [xup_cell _ _ (by decide)]; exact n2) (by rw [xup_cell _ _ (by decide)]; exact n4) (by rw [xup_cell _ _ (by decide), xup_cell _ _ (by decide)]; exact e') (by rw [xup_cell _ _ (by decide)]; exact e4) (by rw [xup_cell _ _ (by decide)]; exact p4) hs hs2 hp) (hI.find 2)
        · exact PR2.of (k_X7_copy_store (d := 8) hr hr2 n1 n3 e) (k_X8_copy_store (d := 8) hr hr2 (by rw [xup_cell _ _ (by decide)]; exact n2) (by rw [xup_cell _ _ (by decide)]; exact n4) (by rw [xup_cell _ _ (by decide), xup_cell _ _ (by decide), e2, p2, ← e1, ← p1]; exact e)) (hI.find 5)
  · exact PR2.of (k_X7_copy_bad (d := 8) h) (k_X8_copy_bad (d := 8) h) hI
theorem pr_status (hI : Inv M) : PR2 g l mX7_status mX8_status [] M :=
  PR2.of (k_X7_status (d := 8)) (XC.eqv (k_X8_status (d := 8)) (by rw [hI.2.1]) rfl) hI
theorem pr_fault (hI : Inv M) : PR2 g l mX7_fault mX8_fault [] M :=
  PR2.of (k_X7_fault (d := 8)) (XC.eqv (k_X8_fault (d := 8)) (by rw [hI.2.2.2.1]) rfl) hI
theorem pr_trace (hI : Inv M) (i : Int32) : PR2 g l mX7_trace mX8_trace [xi i] M := by
  obtain ⟨n, h1, h2, h3, h4⟩ := hI.2.2.2.2.2.2
  rcases i_nat (a := i) (n := n) (by omega) with ⟨j, hj, rfl⟩ | h
  · exact PR2.of (k_X7_trace_ok (d := 8) h2 h1 hj) (XC.eqv (k_X8_trace_ok (d := 8) h3 h1 hj) (by rw [h4 j hj]) rfl) hI
  · exact PR2.of (k_X7_trace_no (d := 8) (by rw [h2]; exact h)) (k_X8_trace_no (d := 8) h3 h1 h) hI
end PAIRS1
