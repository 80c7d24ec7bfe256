section PAIRS3
variable {g : XG} {l : Launch} {M M' : XM}
/-- a change of ground, history and finding -/
theorem Inv.ground2 {M2 : XM} {D : FD} {A : FA} (h : Inv M) (hz : (dn D = 0 ∧ M2.1 54 0 = 0) ∨ (0 < dn D ∧ M2.1 54 0 = 1)) (hK : ∀ h, h < dn D → 1 ≤ dK D h) (hW : WFA D A) (hC : CRep M2 D A) (hM : MRep M2 D A) (hf : M2.1 0 7 = M2.1 49 3)
    (hk : ∀ a b, (¬ (8 ≤ a ∧ a ≤ 15) ∧ ¬ (40 ≤ a ∧ a ≤ 42) ∧ a ≠ 54 ∧ a ≠ 58 ∧ ¬ (a = 0 ∧ b = 7) ∧ ¬ (a = 49 ∧ (b = 3 ∨ b = 17))) → M2.1 a b = M.1 a b) : Inv M2 :=
  ⟨h.1.keep (fun a b q => hk a b (by omega)), hf, h.2.2.1.keep (fun a b q => hk a b (by omega)), (hk 5 3 (by omega)).trans (h.2.2.2.1.trans (hk 49 11 (by omega)).symm), ⟨D, A, hC, hM, hW, hK, hz⟩, h.2.2.2.2.2.1.keep (fun a b q => hk a b (by omega)), h.2.2.2.2.2.2.keep (fun a b q => hk a b (by omega))⟩
theorem i_pn {n : Int32} {k : Nat} (hk : k < 1000) (h1 : 1 ≤ n) (h2 : n ≤ nI k) : ∃ m : Nat, 1 ≤ m ∧ m ≤ k ∧ n = nI m := by
  obtain ⟨m, hm, rfl⟩ := nI_of (x := n) (fun q => by
    rw [fa_le] at h1
    rw [fa_lt] at q
    have e1 : (1 : Int32).toInt = 1 := by decide
    have e0 : (0 : Int32).toInt = 0 := by decide
    omega)
  exact ⟨m, (nI_leI (a := 1) (b := m) (by decide) hm).mp h1, (nI_leI hm (by omega)).mp h2, rfl⟩
theorem pr_talk (hI : Inv M) (a i n : Int32) : PR2 g l mX7_talk mX8_talk [xi a, xi i, xi n] M := by
  obtain ⟨D, A, hC, hM, hW, hK, hN, hN2, hn6, hz⟩ := hI.2.2.2.2.1.get
  rcases hz with ⟨z0, z1, z2⟩ | ⟨z0, z1, z2⟩
  · exact PR2.of (k_X7_talk_state (d := 4) z1) (k_X8_talk_state (d := 6) z2) hI
  by_cases h : (0 ≤ a ∧ a < 8) ∧ 1 ≤ n ∧ n ≤ 20
  · obtain ⟨r, hr, rfl⟩ := nv_lit (n := 8) (by decide) h.1.1 h.1.2
    rcases hI.1 r hr with ⟨q1, q2⟩ | ⟨t, s, ht, hs, e1, e2, e3, e4, e5⟩
    · exact PR2.of (k_X7_talk_null (d := 4) z1 hr h.2 q1) (k_X8_talk_null (d := 6) (by rw [xup_cell _ _ (by decide)]; exact z2) hr h.2 (by rw [xup_cell _ _ (by decide)]; exact q2)) (hI.find 1)
    · have n1 : ¬ M.1 2 r = -1 := by rw [e1]; exact nI_ne_m1 (by omega)
      have n2 : ¬ M.1 50 r = -1000000 := by rw [e2]; exact nI_none (by omega)
      by_cases hp : 0 ≤ i ∧ 0 ≤ n ∧ i.toInt + n.toInt ≤ (s : Int)
      · obtain ⟨hi, hn0, h3⟩ := hp
        obtain ⟨i, -, rfl, ei⟩ := i_nn hi
        obtain ⟨n, hn1, hn2, rfl⟩ := i_pn (k := 20) (by decide) h.2.1 h.2.2
        rw [ei, nI_toInt (by omega)] at h3
        have h3 : i + n ≤ s := by omega
        have hn : 1 ≤ n ∧ n ≤ 20 := ⟨hn1, hn2⟩
        by_cases hb : ∀ j, j < n → okIt D (M.1 4 (r * 40 + (i + j)))
        · have hit : ∀ j, j < n → M.1 4 (r * 40 + (i + j)) = nI (M.1 4 (r * 40 + (i + j))).toNatClampNeg := fun j hj => nv_of (hb j hj).1
          have hit2 : ∀ j, j < n → (M.1 4 (r * 40 + (i + j))).toNatClampNeg < 16 * dn D := fun j hj => by
            obtain ⟨q, hq1, hq2⟩ := nv_lit (n := 16 * dn D) (by omega) (hb j hj).1 (hb j hj).2
            rw [hq2, nI_clamp (by omega)]; exact hq1
          refine (c_talk (d := 4) z1 hr hn n1 e3 hs h3 hC.1 hC hW hit hit2).mono (fun r1 M1 hq => ?_)
          obtain ⟨rfl, M3, hC3, hF, rfl⟩ := hq
          have ek : ∀ a b, ¬ (a = 0 ∧ b = 7) → ¬ (a = 8 ∧ b = 3) → a ≠ 15 → a ≠ 40 → a ≠ 41 → a ≠ 42 → (xup M3 0 7 0).1 a b = M.1 a b := fun a b q0 q1 q2 q3 q4 q5 => by rw [xup_at, if_neg q0]; exact hF.1 a b q1 q2 q3 q4 q5
          have hM1 : MRep (xup M3 0 7 0) D A := hM.same (fun a b q => ek a b (by omega) (by omega) (by omega) (by omega) (by omega) (by omega))
          refine ⟨_, rfl, (m_talk (d := 6) ?_ hr hn ?_ ?_ hs h3 hM1.1 hM1 hW (fun j hj => ?_) hit2).mono (fun r2 M2 hq2 => ?_)⟩
          · rw [ek 54 0 (by omega) (by omega) (by omega) (by omega) (by omega) (by omega)]; exact z2
          · rw [ek 50 r (by omega) (by omega) (by omega) (by omega) (by omega) (by omega)]; exact n2
          · rw [ek 51 r (by omega) (by omega) (by omega) (by omega) (by omega) (by omega)]; exact e4
          · rw [ek 52 _ (by omega) (by omega) (by omega) (by omega) (by omega) (by omega), ← e5 _ (by omega)]; exact hit j hj
          · obtain ⟨rfl, M4, hM4, hG, rfl⟩ := hq2
            have eg : ∀ a b, ¬ (a = 49 ∧ b = 3) → ¬ (a = 49 ∧ b = 17) → a ≠ 54 → a ≠ 58 → (xup M4 49 3 0).1 a b = (xup M3 0 7 0).1 a b := fun a b q0 q1 q2 q3 => by rw [xup_at, if_neg q0]; exact hG.1 a b q1 q2 q3
            refine ⟨rfl, hI.ground2 (D := D) (A := (tkF D _ A n).1) ?_ hK (tkF_WF hW hn6 hC.houses.2 n hit2).1 (hC3.same (fun a b q => ?_)) (hM4.same (fun a b q => ?_)) ?_ (fun a b q => ?_)⟩
            · refine Or.inr ⟨z0, ?_⟩
              rw [xup_cell _ _ (by decide), hG.2.1, ek 54 0 (by omega) (by omega) (by omega) (by omega) (by omega) (by omega)]
              obtain ⟨D9, A9, -, -, -, -, hz9⟩ := hI.2.2.2.2.1
              rcases hz9 with ⟨-, h9⟩ | ⟨-, h9⟩
              · exact absurd h9 z2
              · exact h9
            · rw [eg a b (by omega) (by omega) (by omega) (by omega), xup_at, if_neg (by omega)]
            · rw [xup_at, if_neg (by omega)]
            · rw [xup_same, eg 0 7 (by omega) (by omega) (by omega) (by omega), xup_same]
            · rw [eg a b (by omega) (by omega) (by omega) (by omega), ek a b (by omega) (by omega) (by omega) (by omega) (by omega) (by omega)]
        · refine PR2.of (k_X7_talk_item (d := 4) z1 hr hn n1 e3 hs h3 hC.1 hb) (k_X8_talk_item (d := 6) z2 hr hn n2 e4 hs h3 hM.1 (fun q => hb (fun j hj => ?_))) hI
          rw [e5 _ (by omega)]; exact q j hj
      · exact PR2.of (k_X7_talk_place (d := 4) z1 hr h.2 n1 e3 hs hp) (k_X8_talk_place (d := 6) (by rw [xup_cell _ _ (by decide)]; exact z2) hr h.2 (by rw [xup_cell _ _ (by decide)]; exact n2) (by rw [xup_cell _ _ (by decide)]; exact e4) hs hp) (hI.find 2)
  · exact PR2.of (k_X7_talk_bad (d := 4) z1 h) (k_X8_talk_bad (d := 6) z2 h) hI
theorem pr_house (hI : Inv M) (a w : Int32) : PR2 g l mX7_house mX8_house [xi a, xi w] M := by
  obtain ⟨D, A, hC, hM, hW, hK, hN, hN2, hn6, hz⟩ := hI.2.2.2.2.1.get
  rcases i_nat (a := a) (n := dn D) (by omega) with ⟨h, hh, rfl⟩ | h
  · by_cases hw : 0 ≤ w ∧ w ≤ 8
    · obtain ⟨k, hk, rfl⟩ := nI_of2 (x := w) (M := 8) (n := 8) (by decide) (Int32.not_lt.mpr hw.1) hw.2
      rcases (show k = 0 ∨ k = 1 ∨ k = 2 ∨ k = 3 ∨ k = 4 ∨ k = 5 ∨ k = 6 ∨ k = 7 ∨ k = 8 by omega) with rfl | rfl | rfl | rfl | rfl | rfl | rfl | rfl | rfl
      · exact PR2.of (k_X7_house_0 (d := 6) hC.1 hC.2.1 hC.2.2.1 hh) (k_X8_house_0 (d := 7) hM.1 hM.2.1 hh) hI
      · exact PR2.of (k_X7_house_1 (d := 6) hC.1 hC.2.1 hC.2.2.1 hh) (k_X8_house_1 (d := 7) hM.1 hM.2.1 hh) hI
      · exact PR2.of (k_X7_house_2 (d := 6) hC.1 hC.2.1 hC.2.2.1 hh) (k_X8_house_2 (d := 7) hM.1 hM.2.1 hh) hI
      · exact PR2.of (k_X7_house_3 (d := 6) hC.1 hC.2.1 hC.2.2.1 hh) (k_X8_house_3 (d := 7) hM.1 hM.2.1 hh) hI
      · exact PR2.of (k_X7_house_4 (d := 6) hC.1 hC.2.1 hC.2.2.1 hh) (k_X8_house_4 (d := 7) hM.1 hM.2.1 hh) hI
      · exact PR2.of (k_X7_house_5 (d := 6) hC.1 hC.2.1 hC.2.2.1 hh) (k_X8_house_5 (d := 7) hM.1 hM.2.1 hh) hI
      · exact PR2.of (k_X7_house_6 (d := 6) hC.1 hC.2.1 hC.2.2.1 hh) (k_X8_house_6 (d := 7) hM.1 hM.2.1 hh) hI
      · exact PR2.of (k_X7_house_7 (d := 6) hC.1 hC.2.1 hC.2.2.1 hh) (k_X8_house_7 (d := 7) hM.1 hM.2.1 hh) hI
      · exact PR2.of (k_X7_house_8 (d := 6) hC.1 hC.2.1 hC.2.2.1 hh) (XC.eqv (k_X8_house_8 (d := 7) hM.1 hM.2.1 hh) (by rw [hM.2.2.1 h hh, hC.2.2.2.1 h hh]) rfl) hI
    · refine PR2.of (k_X7_house_bad2 (d := 6) (by rw [hN]; exact nI_in0 (by omega) hh) ?_) (k_X8_house_bad (d := 7) hN2 hn6 (fun q => hw q.2)) hI
      rw [fa_le, fa_le] at hw
      have e0 : (0 : Int32).toInt = 0 := by decide
      have e8 : (8 : Int32).toInt = 8 := by decide
      omega
  · exact PR2.of (k_X7_house_bad1 (d := 6) (by rw [hN]; exact h)) (k_X8_house_bad (d := 7) hN2 hn6 (fun q => h q.1)) hI
theorem pr_cell (hI : Inv M) (c : Int32) : PR2 g l mX7_cell mX8_cell [xi c] M := by
  obtain ⟨D, A, hC, hM, hW, hK, hN, hN2, hn6, hz⟩ := hI.2.2.2.2.1.get
  rcases hz with ⟨z0, z1, z2⟩ | ⟨z0, z1, z2⟩
  · exact PR2.of (k_X7_cell_state (d := 7) z1) (k_X8_cell_state (d := 8) z2) hI
  rcases i_nat (a := c) (n := 128) (by decide) with ⟨h, hh, rfl⟩ | h
  · exact PR2.of (k_X7_cell_ok (d := 7) z1 hC.1 hC.2.1 hC.2.2.1 hh) (k_X8_cell_ok (d := 8) z2 hM.1 hM.2.1 hh) hI
  · exact PR2.of (k_X7_cell_bad (d := 7) z1 h) (k_X8_cell_bad (d := 8) z2 h) hI
theorem pr_kind (hI : Inv M) (a : Int32) : PR2 g l mX7_kind mX8_kind [xi a] M := by
  obtain ⟨D, A, hC, hM, hW, hK, hN, hN2, hn6, hz⟩ := hI.2.2.2.2.1.get
  rcases i_nat (a := a) (n := dn D) (by omega) with ⟨h, hh, rfl⟩ | h
  · exact PR2.of (k_X7_kind_ok (d := 9) hC.1 hh) (k_X8_kind_ok (d := 8) hM.1 hh) hI
  · exact PR2.of (k_X7_kind_bad (d := 9) (by rw [hN]; exact h)) (k_X8_kind_bad (d := 8) hN2 hn6 h) hI
theorem pr_as (hI : Inv M) (a k : Int32) : PR2 g l mX7_as mX8_as [xi a, xi k] M := by
  obtain ⟨D, A, hC, hM, hW, hK, hN, hN2, hn6, hz⟩ := hI.2.2.2.2.1.get
  by_cases h : (0 ≤ a ∧ a < nI (dn D)) ∧ 0 ≤ k ∧ k < 6
  · obtain ⟨h1, hh, rfl⟩ := nv_lit (n := dn D) (by omega) h.1.1 h.1.2
    obtain ⟨k, hk, rfl⟩ := nv_lit (n := 6) (by decide) h.2.1 h.2.2
    by_cases hy : isK (dK D h1) k
    · exact PR2.of (k_X7_as_yes (d := 8) hC.1 hh hk hy) (k_X8_as_yes (d := 8) (hM.1.keep2 (fun b _ _ => xup_cell _ _ (by decide))) hh hk hy) (hI.find 0)
    · exact PR2.of (k_X7_as_no (d := 8) hC.1 hh hk hy) (k_X8_as_no (d := 8) (hM.1.keep2 (fun b _ _ => xup_cell _ _ (by decide))) hh hk hy) (hI.find 3)
  · exact PR2.of (k_X7_as_bad (d := 8) (by rw [hN]; exact h)) (k_X8_as_bad (d := 8) hN2 hn6 h) hI
theorem pr_brook (hI : Inv M) (a : Int32) : PR2 g l mX7_brook mX8_brook [xi a] M := by
  obtain ⟨D, A, hC, hM, hW, hK, hN, hN2, hn6, hz⟩ := hI.2.2.2.2.1.get
  rcases i_nat (a := a) (n := dn D) (by omega) with ⟨h, hh, rfl⟩ | h
  · refine (k_X7_brook_ok (d := 5) hC.1 hh hC.2.1 hC.2.2.1 hW.1).mono (fun r M1 hq => ?_)
    obtain ⟨rfl, rfl⟩ := hq
    refine ⟨_, rfl, (m_brook (d := 7) hM.1 hM.2.1 hh hW.2.1 hW.1).mono (fun r2 M2 hq2 => ?_)⟩
    obtain ⟨rfl, hF⟩ := hq2
    exact ⟨rfl, hI.fr (by rw [hF.1 0 7 (by decide), hF.1 49 3 (by decide)]; exact hI.2.1) (fun a b q => hF.1 a b (by omega))⟩
  · exact PR2.of (k_X7_brook_bad (d := 5) (by rw [hN]; exact h)) (k_X8_brook_bad (d := 7) hN2 hn6 h) hI
theorem pr_wanted (hI : Inv M) (a x k : Int32) : PR2 g l mX7_wanted mX8_wanted [xi a, xi x, xi k] M := by
  obtain ⟨D, A, hC, hM, hW, hK, hN, hN2, hn6, hz⟩ := hI.2.2.2.2.1.get
  have e16 : x < 16 ↔ x ≤ 15 := by
    rw [fa_lt, fa_le]
    have e0 : (16 : Int32).toInt = 16 := by decide
    have e8 : (15 : Int32).toInt = 15 := by decide
    omega
  by_cases h : (0 ≤ a ∧ a < nI (dn D)) ∧ (0 ≤ x ∧ x < 16) ∧ -1 ≤ k
  · obtain ⟨h1, hh, rfl⟩ := nv_lit (n := dn D) (by omega) h.1.1 h.1.2
    obtain ⟨x1, hx, rfl⟩ := nv_lit (n := 16) (by decide) h.2.1.1 h.2.1.2
    refine (c_wanted (d := 0) hC.1 hh hx hC.2.1 hC.2.2.1 hW.1 h.2.2).mono (fun r M1 hq => ?_)
    obtain ⟨⟨w, rfl, hw⟩, hF⟩ := hq
    refine ⟨w, rfl, (m_wanted (d := 6) (hM.1.keep2 (fun b _ _ => hF.1 54 b (by decide))) (fun q hq => (hF.1 54 _ (by decide)).trans (hM.2.1 q hq)) hh hx hW.2.1 hW.1 h.2.2).mono (fun r2 M2 hq2 => ?_)⟩
    obtain ⟨⟨w2, rfl, hw2⟩, hG⟩ := hq2
    rw [wnA_one hw hw2]
    exact ⟨rfl, hI.fr (by rw [hG.1 0 7 (by decide), hG.1 49 3 (by decide), hF.1 0 7 (by decide), hF.1 49 3 (by decide)]; exact hI.2.1) (fun a b q => by rw [hG.1 a b (by omega), hF.1 a b (by omega)])⟩
  · exact PR2.of (k_X7_wanted_bad (d := 0) (by rw [hN]; exact h)) (k_X8_wanted_bad (d := 6) hN2 hn6 (by rw [← e16]; exact h)) hI
end PAIRS3
