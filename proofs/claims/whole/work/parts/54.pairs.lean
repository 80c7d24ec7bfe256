section PAIRS4
variable {g : XG} {l : Launch} {M M' : XM}
theorem pr_lies (hI : Inv M) (a n b i : Int32) : PR2 g l mX7_lies mX8_lies [xi a, xi n, xi b, xi i] M := by
  obtain ⟨D, A, hC, hM, hW, hK, hN, hN2, hn6, hz⟩ := hI.2.2.2.2.1.get
  rcases hz with ⟨z0, z1, z2⟩ | ⟨z0, z1, z2⟩
  · exact PR2.of (k_X7_lies_state (d := 4) z1) (k_X8_lies_state (d := 6) z2) hI
  by_cases h : (0 ≤ a ∧ a < 8) ∧ (0 ≤ b ∧ b < 8) ∧ 1 ≤ n ∧ n ≤ 8 ∧ (-1 ≤ i)
  · obtain ⟨r, hr, rfl⟩ := nv_lit (n := 8) (by decide) h.1.1 h.1.2
    obtain ⟨r2, hr2, rfl⟩ := nv_lit (n := 8) (by decide) h.2.1.1 h.2.1.2
    have hn : 1 ≤ n ∧ n ≤ 8 := ⟨h.2.2.1, h.2.2.2.1⟩
    have hi := h.2.2.2.2
    rcases hI.1 r hr with ⟨q1, q2⟩ | ⟨t, s, ht, hs, e1, e2, e3, e4, e5⟩
    · exact PR2.of (k_X7_lies_null (d := 4) z1 hr hr2 hn hi (Or.inl q1)) (k_X8_lies_null (d := 6) (by rw [xup_cell _ _ (by decide)]; exact z2) hr hr2 hn hi (Or.inl (by rw [xup_cell _ _ (by decide)]; exact q2))) (hI.find 1)
    rcases hI.1 r2 hr2 with ⟨q1, q2⟩ | ⟨t2, s2, ht2, hs2, p1, p2, p3, p4, p5⟩
    · exact PR2.of (k_X7_lies_null (d := 4) z1 hr hr2 hn hi (Or.inr q1)) (k_X8_lies_null (d := 6) (by rw [xup_cell _ _ (by decide)]; exact z2) hr hr2 hn hi (Or.inr (by rw [xup_cell _ _ (by decide)]; exact q2))) (hI.find 1)
    have n1 : ¬ M.1 2 r = -1 := by rw [e1]; exact nI_ne_m1 (by omega)
    have n2 : ¬ M.1 50 r = -1000000 := by rw [e2]; exact nI_none (by omega)
    have n3 : ¬ M.1 2 r2 = -1 := by rw [p1]; exact nI_ne_m1 (by omega)
    have n4 : ¬ M.1 50 r2 = -1000000 := by rw [p2]; exact nI_none (by omega)
    obtain ⟨n, hn1, hn2, rfl⟩ := i_pn (k := 8) (by decide) hn.1 hn.2
    have hn : 1 ≤ n ∧ n ≤ 8 := ⟨hn1, hn2⟩
    by_cases hp : n ≤ s ∧ dn D ≤ s2
    · by_cases hx : ∀ j, j < n → okHs D (M.1 4 (r * 40 + j))
      · have hit : ∀ j, j < n → M.1 4 (r * 40 + j) = nI (M.1 4 (r * 40 + j)).toNatClampNeg ∧ (M.1 4 (r * 40 + j)).toNatClampNeg < dn D := fun j hj => by
          obtain ⟨q, hq1, hq2⟩ := nv_lit (n := dn D) (by omega) (hx j hj).1 (hx j hj).2
          rw [hq2, nI_clamp (by omega)]; exact ⟨rfl, hq1⟩
        refine (c_lies (d := 4) (it := fun j => (M.1 4 (r * 40 + j)).toNatClampNeg) (v := fun h => M.1 4 (r2 * 40 + h)) z1 hr hr2 hn n1 n3 e3 p3 hs hs2 hC.1 hp hC.2.1 hC.2.2.1 hW.1 hit (fun _ _ => rfl) hi).mono (fun r1 M1 hq => ?_)
        obtain ⟨⟨w, rfl, hw⟩, hF⟩ := hq
        have ek : ∀ a b, ¬ (a = 0 ∧ b = 7) → ¬ (43 ≤ a ∧ a ≤ 46) → M1.1 a b = M.1 a b := fun a b q1 q2 => by rw [hF.1 a b (by omega) (by omega) (by omega) (by omega), xup_at, if_neg q1]
        refine ⟨w, rfl, (m_lies (d := 6) (it := fun j => (M.1 4 (r * 40 + j)).toNatClampNeg) (v := fun h => M.1 4 (r2 * 40 + h)) ?_ hr hr2 hn ?_ ?_ ?_ ?_ hs hs2 (hM.1.keep2 (fun b _ _ => ek 54 b (by omega) (by omega))) hp (fun q hq => (ek 54 _ (by omega) (by omega)).trans (hM.2.1 q hq)) hW.2.1 hW.1 (fun j hj => ?_) (fun k hk => ?_) hi).mono (fun r2 M2 hq2 => ?_)⟩
        · rw [ek 54 0 (by omega) (by omega)]; exact z2
        · rw [ek 50 _ (by omega) (by omega)]; exact n2
        · rw [ek 50 _ (by omega) (by omega)]; exact n4
        · rw [ek 51 _ (by omega) (by omega)]; exact e4
        · rw [ek 51 _ (by omega) (by omega)]; exact p4
        · rw [ek 52 _ (by omega) (by omega), ← e5 j (by omega)]; exact hit j hj
        · rw [ek 52 _ (by omega) (by omega), ← p5 k (by omega)]
        · obtain ⟨⟨w2, rfl, hw2⟩, hG⟩ := hq2
          have hN256 : 1 * 2 ^ n ≤ 256 := by
            have := Nat.pow_le_pow_right (show 0 < 2 by decide) hn.2
            omega
          rw [isAns_one hN256 hw hw2]
          have eg : ∀ a b, ¬ (a = 49 ∧ b = 3) → a ≠ 59 → M2.1 a b = M1.1 a b := fun a b q1 q2 => by rw [hG.1 a b q2, xup_at, if_neg q1]
          refine ⟨rfl, hI.fr ?_ (fun a b q => by rw [eg a b (by omega) (by omega), ek a b (by omega) (by omega)])⟩
          rw [eg 0 7 (by omega) (by omega), hF.1 0 7 (by omega) (by omega) (by omega) (by omega), xup_same, hG.1 49 3 (by omega), xup_same]
      · refine PR2.of (k_X7_lies_item (d := 4) hi z1 hr hr2 hn n1 n3 e3 p3 hs hs2 hC.1 hp hx) (k_X8_lies_item (d := 6) hi z2 hr hr2 hn n2 n4 e4 p4 hs hs2 hM.1 hp (fun q => hx (fun j hj => ?_))) hI
        rw [e5 j (by omega)]; exact q j hj
    · exact PR2.of (k_X7_lies_place (d := 4) hi z1 hr hr2 hn n1 n3 e3 p3 hs hs2 hC.1 hp) (k_X8_lies_place (d := 6) hi (by rw [xup_cell _ _ (by decide)]; exact z2) hr hr2 hn (by rw [xup_cell _ _ (by decide)]; exact n2) (by rw [xup_cell _ _ (by decide)]; exact n4) (by rw [xup_cell _ _ (by decide)]; exact e4) (by rw [xup_cell _ _ (by decide)]; exact p4) hs hs2 (hM.1.keep2 (fun b _ _ => xup_cell _ _ (by decide))) hp) (hI.find 2)
  · exact PR2.of (k_X7_lies_bad (d := 4) z1 h) (k_X8_lies_bad (d := 6) z2 h) hI
theorem pr_guess (hI : Inv M) (a n b i : Int32) : PR2 g l mX7_guess mX8_guess [xi a, xi n, xi b, xi i] M := by
  obtain ⟨D, A, hC, hM, hW, hK, hN, hN2, hn6, hz⟩ := hI.2.2.2.2.1.get
  rcases hz with ⟨z0, z1, z2⟩ | ⟨z0, z1, z2⟩
  · exact PR2.of (k_X7_guess_state (d := 4) z1) (k_X8_guess_state (d := 6) z2) hI
  by_cases h : (0 ≤ a ∧ a < 8) ∧ (0 ≤ b ∧ b < 8) ∧ 1 ≤ n ∧ n ≤ 8 ∧ (0 ≤ i ∧ i ≤ 2)
  · obtain ⟨r, hr, rfl⟩ := nv_lit (n := 8) (by decide) h.1.1 h.1.2
    obtain ⟨r2, hr2, rfl⟩ := nv_lit (n := 8) (by decide) h.2.1.1 h.2.1.2
    have hn : 1 ≤ n ∧ n ≤ 8 := ⟨h.2.2.1, h.2.2.2.1⟩
    have hi := h.2.2.2.2
    rcases hI.1 r hr with ⟨q1, q2⟩ | ⟨t, s, ht, hs, e1, e2, e3, e4, e5⟩
    · exact PR2.of (k_X7_guess_null (d := 4) z1 hr hr2 hn hi (Or.inl q1)) (k_X8_guess_null (d := 6) (by rw [xup_cell _ _ (by decide)]; exact z2) hr hr2 hn hi (Or.inl (by rw [xup_cell _ _ (by decide)]; exact q2))) (hI.find 1)
    rcases hI.1 r2 hr2 with ⟨q1, q2⟩ | ⟨t2, s2, ht2, hs2, p1, p2, p3, p4, p5⟩
    · exact PR2.of (k_X7_guess_null (d := 4) z1 hr hr2 hn hi (Or.inr q1)) (k_X8_guess_null (d := 6) (by rw [xup_cell _ _ (by decide)]; exact z2) hr hr2 hn hi (Or.inr (by rw [xup_cell _ _ (by decide)]; exact q2))) (hI.find 1)
    have n1 : ¬ M.1 2 r = -1 := by rw [e1]; exact nI_ne_m1 (by omega)
    have n2 : ¬ M.1 50 r = -1000000 := by rw [e2]; exact nI_none (by omega)
    have n3 : ¬ M.1 2 r2 = -1 := by rw [p1]; exact nI_ne_m1 (by omega)
    have n4 : ¬ M.1 50 r2 = -1000000 := by rw [p2]; exact nI_none (by omega)
    obtain ⟨n, hn1, hn2, rfl⟩ := i_pn (k := 8) (by decide) hn.1 hn.2
    have hn : 1 ≤ n ∧ n ≤ 8 := ⟨hn1, hn2⟩
    by_cases hp : n ≤ s ∧ dn D ≤ s2
    · by_cases hx : ∀ j, j < n → okHs D (M.1 4 (r * 40 + j))
      · have hit : ∀ j, j < n → M.1 4 (r * 40 + j) = nI (M.1 4 (r * 40 + j)).toNatClampNeg ∧ (M.1 4 (r * 40 + j)).toNatClampNeg < dn D := fun j hj => by
          obtain ⟨q, hq1, hq2⟩ := nv_lit (n := dn D) (by omega) (hx j hj).1 (hx j hj).2
          rw [hq2, nI_clamp (by omega)]; exact ⟨rfl, hq1⟩
        obtain ⟨w, hw, rfl⟩ := nI_of2 (x := i) (M := 2) (n := 2) (by decide) (Int32.not_lt.mpr hi.1) hi.2
        have hc : XC g l mX7_guess 10 [xr 0, xi (nI r), xi (nI n), xi (nI r2), xi (nI w)] M (fun r' M' => r' = some (xi (gsV (fitS D (fun j => (M.1 4 (r * 40 + j)).toNatClampNeg) A.1 n (fun h => M.1 4 (r2 * 40 + h))) (1 * 2 ^ n) n w)) ∧ FrF (xup M 0 7 0) M') := by
          rcases (show w = 0 ∨ w = 1 ∨ w = 2 by omega) with rfl | rfl | rfl
          · rw [← gs_0]; exact c_guess_0 (d := 4) z1 hr hr2 hn n1 n3 e3 p3 hs hs2 hC.1 hp hC.2.1 hC.2.2.1 hW.1 hit (fun _ _ => rfl)
          · rw [← gs_1]; exact c_guess_1 (d := 4) z1 hr hr2 hn n1 n3 e3 p3 hs hs2 hC.1 hp hC.2.1 hC.2.2.1 hW.1 hit (fun _ _ => rfl)
          · rw [← gs_2]; exact c_guess_2 (d := 4) z1 hr hr2 hn n1 n3 e3 p3 hs hs2 hC.1 hp hC.2.1 hC.2.2.1 hW.1 hit (fun _ _ => rfl)
        refine hc.mono (fun r1 M1 hq => ?_)
        obtain ⟨rfl, hF⟩ := hq
        have ek : ∀ a b, ¬ (a = 0 ∧ b = 7) → ¬ (43 ≤ a ∧ a ≤ 46) → M1.1 a b = M.1 a b := fun a b q1 q2 => by rw [hF.1 a b (by omega) (by omega) (by omega) (by omega), xup_at, if_neg q1]
        refine ⟨_, rfl, (m_guess (d := 6) (it := fun j => (M.1 4 (r * 40 + j)).toNatClampNeg) (v := fun h => M.1 4 (r2 * 40 + h)) ?_ hr hr2 hn ?_ ?_ ?_ ?_ hs hs2 (hM.1.keep2 (fun b _ _ => ek 54 b (by omega) (by omega))) hp (by omega : w < 3) (fun q hq => (ek 54 _ (by omega) (by omega)).trans (hM.2.1 q hq)) hW.2.1 hW.1 (fun j hj => ?_) (fun k hk => ?_)).mono (fun r2 M2 hq2 => ?_)⟩
        · rw [ek 54 0 (by omega) (by omega)]; exact z2
        · rw [ek 50 _ (by omega) (by omega)]; exact n2
        · rw [ek 50 _ (by omega) (by omega)]; exact n4
        · rw [ek 51 _ (by omega) (by omega)]; exact e4
        · rw [ek 51 _ (by omega) (by omega)]; exact p4
        · rw [ek 52 _ (by omega) (by omega), ← e5 j (by omega)]; exact hit j hj
        · rw [ek 52 _ (by omega) (by omega), ← p5 k (by omega)]
        · obtain ⟨rfl, hG⟩ := hq2
          have eg : ∀ a b, ¬ (a = 49 ∧ b = 3) → a ≠ 59 → a ≠ 62 → M2.1 a b = M1.1 a b := fun a b q1 q2 q3 => by rw [hG.1 a b q2 q3, xup_at, if_neg q1]
          refine ⟨rfl, hI.fr ?_ (fun a b q => by rw [eg a b (by omega) (by omega) (by omega), ek a b (by omega) (by omega)])⟩
          rw [eg 0 7 (by omega) (by omega) (by omega), hF.1 0 7 (by omega) (by omega) (by omega) (by omega), xup_same, hG.1 49 3 (by omega) (by omega), xup_same]
      · refine PR2.of (k_X7_guess_item (d := 4) hi z1 hr hr2 hn n1 n3 e3 p3 hs hs2 hC.1 hp hx) (k_X8_guess_item (d := 6) hi z2 hr hr2 hn n2 n4 e4 p4 hs hs2 hM.1 hp (fun q => hx (fun j hj => ?_))) hI
        rw [e5 j (by omega)]; exact q j hj
    · exact PR2.of (k_X7_guess_place (d := 4) hi z1 hr hr2 hn n1 n3 e3 p3 hs hs2 hC.1 hp) (k_X8_guess_place (d := 6) hi (by rw [xup_cell _ _ (by decide)]; exact z2) hr hr2 hn (by rw [xup_cell _ _ (by decide)]; exact n2) (by rw [xup_cell _ _ (by decide)]; exact n4) (by rw [xup_cell _ _ (by decide)]; exact e4) (by rw [xup_cell _ _ (by decide)]; exact p4) hs hs2 (hM.1.keep2 (fun b _ _ => xup_cell _ _ (by decide))) hp) (hI.find 2)
  · exact PR2.of (k_X7_guess_bad (d := 4) z1 h) (k_X8_guess_bad (d := 6) z2 h) hI
theorem wrC_lo : ∀ (l : List Nat) (M : XM) (n i : Nat), i < n → (wrC M n l).1 48 i = M.1 48 i
  | [], _, _, _, _ => rfl
  | c :: l, M, n, i, h => by rw [wrC, wrC_lo l _ _ i (by omega), xup_cell _ _ (by decide), xup_place _ _ (by omega)]
theorem wrM_lo : ∀ (l : List Nat) (M : XM) (n i : Nat), i < n → (wrM M n l).1 60 i = M.1 60 i
  | [], _, _, _, _ => rfl
  | c :: l, M, n, i, h => by rw [wrM, wrM_lo l _ _ i (by omega), xup_cell _ _ (by decide), xup_place _ _ (by omega)]
theorem wrC_hi : ∀ (l : List Nat) (M : XM) (n j : Nat), j < l.length → (wrC M n l).1 48 (n + j) = nI (l.getD j 0)
  | [], _, _, j, h => absurd h (Nat.not_lt_zero j)
  | c :: l, M, n, 0, _ => by rw [wrC, wrC_lo l _ _ _ (by omega), xup_cell _ _ (by decide), Nat.add_zero, xup_same]; rfl
  | c :: l, M, n, j + 1, h => by rw [wrC, show n + (j + 1) = n + 1 + j by omega, wrC_hi l _ _ j (by simpa using h)]; rfl
theorem wrM_hi : ∀ (l : List Nat) (M : XM) (n j : Nat), j < l.length → (wrM M n l).1 60 (n + j) = nI (l.getD j 0)
  | [], _, _, j, h => absurd h (Nat.not_lt_zero j)
  | c :: l, M, n, 0, _ => by rw [wrM, wrM_lo l _ _ _ (by omega), xup_cell _ _ (by decide), Nat.add_zero, xup_same]; rfl
  | c :: l, M, n, j + 1, h => by rw [wrM, show n + (j + 1) = n + 1 + j by omega, wrM_hi l _ _ j (by simpa using h)]; rfl
theorem sizeT_len (k : Nat) : (sizeT k).length ≤ 7 := by
  have := markT_len k
  unfold sizeT
  split
  · simp
  · split
    · simp; omega
    · split
      · simp; omega
      · simp; omega
/-- a trace left by both -/
theorem Inv.trace (hI : Inv M) (t : List Nat) (ht : t.length ≤ 16) : Inv (wrM (xup (wrC (xup M 47 1 0) 0 t) 49 20 0) 0 t) := by
  have e : ∀ a b, a ≠ 60 → ¬ (a = 49 ∧ b = 20) → a ≠ 48 → ¬ (a = 47 ∧ b = 1) → (wrM (xup (wrC (xup M 47 1 0) 0 t) 49 20 0) 0 t).1 a b = M.1 a b := fun a b q1 q2 q3 q4 => by rw [wrM_at _ _ _ _ _ ⟨q1, q2⟩, xup_at, if_neg q2, wrC_at _ _ _ _ _ ⟨q3, q4⟩, xup_at, if_neg q4]
  refine ⟨hI.1.keep (fun a b q => e a b (by omega) (by omega) (by omega) (by omega)), ?_, hI.2.2.1.keep (fun a b q => e a b (by omega) (by omega) (by omega) (by omega)), ?_, hI.2.2.2.2.1.keep (fun a b q => e a b (by omega) (by omega) (by omega) (by omega)), hI.2.2.2.2.2.1.keep (fun a b q => e a b (by omega) (by omega) (by omega) (by omega)), t.length, ht, ?_, ?_, fun i hi => ?_⟩
  · show _ = _
    rw [e 0 7 (by omega) (by omega) (by omega) (by omega), e 49 3 (by omega) (by omega) (by omega) (by omega)]; exact hI.2.1
  · show _ = _
    rw [e 5 3 (by omega) (by omega) (by omega) (by omega), e 49 11 (by omega) (by omega) (by omega) (by omega)]; exact hI.2.2.2.1
  · rw [wrM_at _ _ _ _ _ ⟨by decide, by decide⟩, xup_cell _ _ (by decide)]
    exact (wrC_n t (xup M 47 1 0) 0 (xup_same _ _ _ _)).trans (by rw [Nat.zero_add])
  · exact (wrM_n t (xup (wrC (xup M 47 1 0) 0 t) 49 20 0) 0 (xup_same _ _ _ _)).trans (by rw [Nat.zero_add])
  · have h1 := wrM_hi t (xup (wrC (xup M 47 1 0) 0 t) 49 20 0) 0 i hi
    have h2 := wrC_hi t (xup M 47 1 0) 0 i hi
    rw [Nat.zero_add] at h1 h2
    rw [h1, wrM_at _ _ _ _ _ ⟨by decide, by omega⟩, xup_cell _ _ (by decide), h2]
theorem pr_ask (hI : Inv M) (a w : Int32) : PR2 g l mX7_ask mX8_ask [xi a, xi w] M := by
  obtain ⟨D, A, hC, hM, hW, hK, hN, hN2, hn6, hz⟩ := hI.2.2.2.2.1.get
  by_cases h : (0 ≤ a ∧ a < nI (dn D)) ∧ 0 ≤ w ∧ w ≤ 1
  · obtain ⟨h1, hh, rfl⟩ := nv_lit (n := dn D) (by omega) h.1.1 h.1.2
    obtain ⟨w, hw, rfl⟩ := nI_of2 (x := w) (M := 1) (n := 1) (by decide) (Int32.not_lt.mpr h.2.1) h.2.2
    have e : ∀ (t : List Nat) a b, a ≠ 48 → ¬ (a = 47 ∧ b = 1) → (wrC (xup M 47 1 0) 0 t).1 a b = M.1 a b := fun t a b q3 q4 => by rw [wrC_at _ _ _ _ _ ⟨q3, q4⟩, xup_at, if_neg q4]
    rcases (show w = 0 ∨ w = 1 by omega) with rfl | rfl
    · exact PR2.of (k_X7_ask_0 (d := 0) hC.1 hC.2.1 hC.2.2.1 hh (hK h1 hh)) (k_X8_ask_0 (d := 1) (hM.1.keep2 (fun b _ _ => e _ 54 b (by decide) (by omega))) (fun q hq => (e _ 54 _ (by decide) (by omega)).trans (hM.2.1 q hq)) hh (hK h1 hh)) (hI.trace _ (by have := sizeT_len (dK D h1); omega))
    · exact PR2.of (k_X7_ask_1 (d := 0) hC.1 hC.2.1 hC.2.2.1 hh (hK h1 hh)) (k_X8_ask_1 (d := 1) (hM.1.keep2 (fun b _ _ => e _ 54 b (by decide) (by omega))) (fun q hq => (e _ 54 _ (by decide) (by omega)).trans (hM.2.1 q hq)) hh (hK h1 hh)) (hI.trace _ (by have := markT_len (dK D h1); omega))
  · exact PR2.of (k_X7_ask_bad (d := 0) (by rw [hN]; exact h)) (k_X8_ask_bad (d := 1) hN2 hn6 h) hI
theorem cnt_same (hR : IvR M) : ∀ k, k ≤ 8 → cntR M k = cntS M k
  | 0, _ => rfl
  | k + 1, h => by
    rw [cntR, cntS, cnt_same hR k (by omega)]
    rcases hR k (by omega) with ⟨q1, q2⟩ | ⟨t, s, ht, hs, e1, e2, -⟩
    · rw [if_pos q1, if_pos q2]
    · rw [if_neg (by rw [e1]; exact nI_ne_m1 (by omega)), if_neg (by rw [e2]; exact nI_none (by omega))]
theorem lie_same {n : Nat} {L : Nat → Int32} (h1 : ∀ h, h < n → M.1 15 h = L h) (h2 : ∀ h, h < n → M.1 54 (34 + h) = L h) : ∀ k, k ≤ n → lieS M 15 0 k = lieS M 54 34 k
  | 0, _ => rfl
  | k + 1, h => by
    rw [lieS, lieS, lie_same h1 h2 k (by omega), Nat.zero_add, h1 k (by omega), h2 k (by omega)]
theorem pr_count (hI : Inv M) (w : Int32) : PR2 g l mX7_count mX8_count [xi w] M := by
  obtain ⟨D, A, hC, hM, hW, hK, hN, hN2, hn6, hz⟩ := hI.2.2.2.2.1.get
  by_cases hw : 0 ≤ w ∧ w ≤ 6
  · obtain ⟨k, hk, rfl⟩ := nI_of2 (x := w) (M := 6) (n := 6) (by decide) (Int32.not_lt.mpr hw.1) hw.2
    rcases (show k = 0 ∨ k = 1 ∨ k = 2 ∨ k = 3 ∨ k = 4 ∨ k = 5 ∨ k = 6 by omega) with rfl | rfl | rfl | rfl | rfl | rfl | rfl
    · exact PR2.of (k_X7_count_0 (d := 5) hC.1 hC.2.1 hC.2.2.1) (XC.eqv (k_X8_count_0 (d := 8) hM.1 hM.2.1) (by rw [cnt_same hI.1 8 (Nat.le_refl _)]) rfl) hI
    · exact PR2.of (k_X7_count_1 (d := 5) hC.1 hC.2.1 hC.2.2.1) (XC.eqv (k_X8_count_1 (d := 8) hM.1 hM.2.1) (by rw [hN, hN2]) rfl) hI
    · exact PR2.of (k_X7_count_2 (d := 5) hC.1 hC.2.1 hC.2.2.1) (XC.eqv (k_X8_count_2 (d := 8) hM.1 hM.2.1) (by rw [← wlS_wall D 8]) rfl) hI
    · obtain ⟨nx, -, -, h3, -⟩ := id hC.2.2.2.2
      exact PR2.of (k_X7_count_3 (d := 5) hC.1 hC.2.1 hC.2.2.1) (XC.eqv (k_X8_count_3 (d := 8) hM.1 hM.2.1) (by rw [h3, hM.2.2.2.1]) rfl) hI
    · exact PR2.of (k_X7_count_4 (d := 5) hC.1 hC.2.1 hC.2.2.1) (XC.eqv (k_X8_count_4 (d := 8) hM.1 hM.2.1) (by rw [lie_same hC.2.2.2.1 hM.2.2.1 _ (Nat.le_refl _)]) rfl) hI
    · exact PR2.of (k_X7_count_5 (d := 5) hC.1 hC.2.1 hC.2.2.1) (k_X8_count_5 (d := 8) hM.1 hM.2.1) hI
    · obtain ⟨T, hT, hU⟩ := id hI.2.2.1
      exact PR2.of (k_X7_count_6 (d := 5) hC.1 hC.2.1 hC.2.2.1) (XC.eqv (k_X8_count_6 (d := 8) hM.1 hM.2.1) (by rw [hT.1, hU.1]) rfl) hI
  · have hw' : w.toInt < 0 ∨ 6 < w.toInt := by
      rw [fa_le, fa_le] at hw
      have e0 : (0 : Int32).toInt = 0 := by decide
      have e8 : (6 : Int32).toInt = 6 := by decide
      omega
    exact PR2.of (k_X7_count_bad (d := 5) hw') (k_X8_count_bad (d := 8) hw') hI
end PAIRS4
