section PAIRS2
variable {g : XG} {l : Launch} {M M' : XM}
theorem pr_feed (hI : Inv M) (w : Int64) (n : Int32) : PR2 g l mX7_feed mX8_feed [xl w, xi n] M := by
  by_cases h : 1 ≤ n ∧ n ≤ 8
  · obtain ⟨n, hn, rfl⟩ := nI_of2 (x := n) (M := 8) (n := 8) (by decide) (fun q => by
      have h1 := h.1
      rw [fa_le] at h1
      rw [fa_lt] at q
      have e1 : (1 : Int32).toInt = 1 := by decide
      have e0 : (0 : Int32).toInt = 0 := by decide
      omega) h.2
    have hn1 : 1 ≤ n := (nI_leI (a := 1) (b := n) (by decide) (by omega)).mp h.1
    obtain ⟨T, hC, hM⟩ := hI.2.2.1
    by_cases hf : T.2 + n ≤ 400
    · have hM1 : (fdC M w T.2 n n).1 49 4 = nI T.2 := by rw [fdC_at, if_neg (by omega), if_neg (by omega)]; exact hM.1
      refine PR2.of (k_X7_feed_ok (d := 8) hC.1 hC.2.1 ⟨hn1, hn⟩ hf) (k_X8_feed_ok (d := 9) hM1 hC.2.1 ⟨hn1, hn⟩ hf) ?_
      have hat : ∀ a c, (fdM (fdC M w T.2 n n) w T.2 n n).1 a c = if a = 49 ∧ c = 4 then nI (T.2 + n) else if a = 53 ∧ T.2 ≤ c ∧ c < T.2 + n then byM w (n - 1 - (c - T.2)) else if a = 5 ∧ c = 1 then nI (T.2 + n) else if a = 6 ∧ T.2 ≤ c ∧ c < T.2 + n then byC w (n - 1 - (c - T.2)) else M.1 a c := fun a c => by rw [fdM_at, fdC_at]
      refine ⟨hI.1.keep (fun a b q => ?_), ?_, ?_, ?_, hI.2.2.2.2.1.keep (fun a b q => ?_), hI.2.2.2.2.2.1.keep (fun a b q => ?_), hI.2.2.2.2.2.2.keep (fun a b q => ?_)⟩
      · rw [hat]; repeat rw [if_neg (by omega)]
      · show _ = _; rw [hat, hat]; simp; exact hI.2.1
      · refine ⟨(fun i => if i < T.2 then T.1 i else (by_same w (n - 1 - (i - T.2))).choose, T.2 + n), ⟨by rw [hat]; simp, hf, fun i hi => ?_⟩, ⟨by rw [hat]; simp, hf, fun i hi => ?_⟩⟩
        · have hi : i < T.2 + n := hi
          show _ = sb (if i < T.2 then T.1 i else _) ∧ (if i < T.2 then T.1 i else _) < 256
          rw [hat]
          by_cases q : i < T.2
          · rw [if_pos q, if_neg (by omega), if_neg (by omega), if_neg (by omega), if_neg (by omega)]; exact hC.2.2 i q
          · have hs := (by_same w (n - 1 - (i - T.2))).choose_spec
            rw [if_neg q, if_neg (by omega), if_neg (by omega), if_neg (by omega), if_pos (by omega)]; exact ⟨hs.2.2, hs.1⟩
        · have hi : i < T.2 + n := hi
          show _ = nI (if i < T.2 then T.1 i else _) ∧ (if i < T.2 then T.1 i else _) < 256
          rw [hat]
          by_cases q : i < T.2
          · rw [if_pos q, if_neg (by omega), if_neg (by omega), if_neg (by omega), if_neg (by omega)]; exact hM.2.2 i q
          · have hs := (by_same w (n - 1 - (i - T.2))).choose_spec
            rw [if_neg q, if_neg (by omega), if_pos (by omega)]; exact ⟨hs.2.1, hs.1⟩
      · show _ = _; rw [hat, hat]; simp; exact hI.2.2.2.1
      · rw [hat]; repeat rw [if_neg (by omega)]
      · rw [hat]; repeat rw [if_neg (by omega)]
      · rw [hat]; repeat rw [if_neg (by omega)]
    · exact PR2.of (k_X7_feed_full (d := 8) hC.1 hC.2.1 ⟨hn1, hn⟩ hf) (k_X8_feed_full (d := 9) hM.1 hC.2.1 ⟨hn1, hn⟩ hf) hI
  · exact PR2.of (k_X7_feed_bad (d := 8) h) (k_X8_feed_bad (d := 9) h) hI
theorem pb_inr {α β : Type} (x : PR α) (f : α → PR β) (y : β) (h : pb x f = .inr y) : ∃ a, f a = .inr y := by
  cases x with
  | inl e => cases h
  | inr a => exact ⟨a, h⟩
theorem fiP_pos {T : TX} {p P : Nat} {D : FD} (h : fiP T = .inr (p, D, P)) : 0 < dn D := by
  unfold fiP at h
  obtain ⟨a, h⟩ := pb_inr _ _ _ h
  obtain ⟨c, h⟩ := pb_inr _ _ _ h
  obtain ⟨e, h⟩ := pb_inr _ _ _ h
  obtain ⟨f, h⟩ := pb_inr _ _ _ h
  unfold enP at h
  split at h
  · rename_i q
    cases h
    exact q.2
  · cases h
theorem pr_field (hI : Inv M) : PR2 g l mX7_field mX8_field [] M := by
  obtain ⟨T, hC, hM⟩ := hI.2.2.1
  obtain ⟨D, A, hCR, hMR, hW, hK, hz⟩ := hI.2.2.2.2.1
  obtain ⟨nx, hnx, hx, -⟩ := id hCR.2.2.2.2
  refine (c_field (d := 1) hC hnx hx).mono (fun r M1 hq => ?_)
  obtain ⟨hF, hq⟩ := hq
  have hM1 : TM M1 T := ⟨(hF.1 49 4 (by decide) (by omega) (by omega)).trans hM.1, hM.2.1, fun i hi => ⟨(hF.1 53 i (by decide) (by omega) (by omega)).trans (hM.2.2 i hi).1, (hM.2.2 i hi).2⟩⟩
  have hm := m_field (g := g) (l := l) (d := 4) hM1
  rcases hq with ⟨p, D1, P1, hz1, rfl, hR1, hW1, h53⟩ | ⟨n, s, hz1, rfl, h53, hk1⟩
  · refine ⟨_, rfl, hm.mono (fun r2 M2 hq2 => ?_)⟩
    obtain ⟨hG, ⟨p2, D2, P2, hz2, rfl, hR2, hW2, h540, h4911⟩ | ⟨n2, s2, hz2, -⟩⟩ := hq2
    · rw [hz1] at hz2
      cases hz2
      refine ⟨rfl, hI.1.keep (fun a b q => ?_), ?_, ?_, ?_, ?_, hI.2.2.2.2.2.1.keep (fun a b q => ?_), hI.2.2.2.2.2.2.keep (fun a b q => ?_)⟩
      · rw [hG.1 a b (by omega) (by omega) (by omega), hF.1 a b (by omega) (by omega) (by omega)]
      · show M2.1 0 7 = M2.1 49 3
        rw [hG.1 0 7 (by omega) (by omega) (by omega), hF.1 0 7 (by omega) (by omega) (by omega), hG.1 49 3 (by omega) (by omega) (by omega), hF.1 49 3 (by omega) (by omega) (by omega)]; exact hI.2.1
      · refine ⟨(fun _ => 0, 0), ⟨(hG.1 5 1 (by omega) (by omega) (by omega)).trans hF.2.2, Nat.zero_le _, fun i hi => absurd hi (Nat.not_lt_zero i)⟩, hG.2.2, Nat.zero_le _, fun i hi => absurd hi (Nat.not_lt_zero i)⟩
      · show M2.1 5 3 = M2.1 49 11
        rw [hG.1 5 3 (by omega) (by omega) (by omega), h53, h4911, hF.1 49 11 (by omega) (by omega) (by omega)]; exact hI.2.2.2.1
      · exact ⟨D1, zFA P1, hR1.same (fun a b q => hG.1 a b (by omega) (by omega) (by omega)), hR2, ⟨hW1.1, hW1.2.1, Nat.zero_le _, fun i hi => absurd hi (Nat.not_lt_zero i)⟩, hW1.2.2.1, Or.inr ⟨fiP_pos hz1, h540⟩⟩
      · rw [hG.1 a b (by omega) (by omega) (by omega), hF.1 a b (by omega) (by omega) (by omega)]
      · rw [hG.1 a b (by omega) (by omega) (by omega), hF.1 a b (by omega) (by omega) (by omega)]
    · rw [hz1] at hz2; cases hz2
  · refine ⟨_, rfl, hm.mono (fun r2 M2 hq2 => ?_)⟩
    obtain ⟨hG, ⟨p2, D2, P2, hz2, -⟩ | ⟨n2, s2, hz2, rfl, h4911, h54, h4917⟩⟩ := hq2
    · rw [hz1] at hz2; cases hz2
    · rw [hz1] at hz2
      cases hz2
      refine ⟨rfl, hI.1.keep (fun a b q => ?_), ?_, ?_, ?_, hI.2.2.2.2.1.keep (fun a b q => ?_), hI.2.2.2.2.2.1.keep (fun a b q => ?_), hI.2.2.2.2.2.2.keep (fun a b q => ?_)⟩
      · rw [hG.1 a b (by omega) (by omega) (by omega), hF.1 a b (by omega) (by omega) (by omega)]
      · show M2.1 0 7 = M2.1 49 3
        rw [hG.1 0 7 (by omega) (by omega) (by omega), hF.1 0 7 (by omega) (by omega) (by omega), hG.1 49 3 (by omega) (by omega) (by omega), hF.1 49 3 (by omega) (by omega) (by omega)]; exact hI.2.1
      · refine ⟨(fun _ => 0, 0), ⟨(hG.1 5 1 (by omega) (by omega) (by omega)).trans hF.2.2, Nat.zero_le _, fun i hi => absurd hi (Nat.not_lt_zero i)⟩, hG.2.2, Nat.zero_le _, fun i hi => absurd hi (Nat.not_lt_zero i)⟩
      · show M2.1 5 3 = M2.1 49 11
        rw [hG.1 5 3 (by omega) (by omega) (by omega), h53, h4911]
      · by_cases q54 : a = 54
        · subst q54
          rw [h54 b, hF.1 54 b (by omega) (by omega) (by omega)]
        · by_cases q49 : a = 49
          · subst q49
            have hb : b = 17 := by omega
            subst hb
            rw [h4917, hF.1 49 17 (by omega) (by omega) (by omega)]
          · rw [hG.1 a b (by omega) (by omega) (by omega)]
            by_cases qc : (8 ≤ a ∧ a ≤ 15) ∨ a = 40
            · exact hk1 a b qc
            · exact hF.1 a b (by omega) (by omega) (by omega)
      · rw [hG.1 a b (by omega) (by omega) (by omega), hF.1 a b (by omega) (by omega) (by omega)]
      · rw [hG.1 a b (by omega) (by omega) (by omega), hF.1 a b (by omega) (by omega) (by omega)]
/-- a change of ground and history of both alone -/
theorem Inv.ground {M1 M2 : XM} {D : FD} {A : FA} (h : Inv M) (hz : (dn D = 0 ∧ M.1 54 0 = 0) ∨ (0 < dn D ∧ M.1 54 0 = 1)) (hK : ∀ h, h < dn D → 1 ≤ dK D h) (hW : WFA D A) (hC : CRep M1 D A) (hF : FrC M M1) (hM : MRep M2 D A) (hG : FrM M1 M2) : Inv M2 := by
  have e : ∀ a b, ¬ (a = 8 ∧ b = 3) → a ≠ 15 → a ≠ 40 → a ≠ 41 → a ≠ 42 → ¬ (a = 49 ∧ b = 17) → a ≠ 54 → a ≠ 58 → M2.1 a b = M.1 a b := fun a b q1 q2 q3 q4 q5 q6 q7 q8 => (hG.1 a b q6 q7 q8).trans (hF.1 a b q1 q2 q3 q4 q5)
  refine ⟨h.1.keep (fun a b q => e a b (by omega) (by omega) (by omega) (by omega) (by omega) (by omega) (by omega) (by omega)), ?_, h.2.2.1.keep (fun a b q => e a b (by omega) (by omega) (by omega) (by omega) (by omega) (by omega) (by omega) (by omega)), ?_, ⟨D, A, hC.same (fun a b q => hG.1 a b (by omega) (by omega) (by omega)), hM, hW, hK, ?_⟩, h.2.2.2.2.2.1.keep (fun a b q => e a b (by omega) (by omega) (by omega) (by omega) (by omega) (by omega) (by omega) (by omega)), h.2.2.2.2.2.2.keep (fun a b q => e a b (by omega) (by omega) (by omega) (by omega) (by omega) (by omega) (by omega) (by omega))⟩
  · show M2.1 0 7 = M2.1 49 3
    rw [e 0 7 (by omega) (by omega) (by omega) (by omega) (by omega) (by omega) (by omega) (by omega), e 49 3 (by omega) (by omega) (by omega) (by omega) (by omega) (by omega) (by omega) (by omega)]; exact h.2.1
  · show M2.1 5 3 = M2.1 49 11
    rw [e 5 3 (by omega) (by omega) (by omega) (by omega) (by omega) (by omega) (by omega) (by omega), e 49 11 (by omega) (by omega) (by omega) (by omega) (by omega) (by omega) (by omega) (by omega)]; exact h.2.2.2.1
  · rw [hG.2.1, hF.1 54 0 (by omega) (by omega) (by omega) (by omega) (by omega)]; exact hz
theorem pr_say (hI : Inv M) (a c : Int32) : PR2 g l mX7_say mX8_say [xi a, xi c] M := by
  obtain ⟨D, A, hC, hM, hW, hK, hz⟩ := id hI.2.2.2.2.1
  obtain ⟨hn, hN⟩ : dn D ≤ 6 ∧ M.1 8 2 = nI (dn D) := ⟨hC.1.1, hC.1.2.2.2.1⟩
  by_cases h : (0 ≤ a ∧ a < nI (dn D)) ∧ 0 ≤ c ∧ c ≤ 15
  · obtain ⟨k, hk, rfl⟩ := nv_lit (n := dn D) (by omega) h.1.1 h.1.2
    obtain ⟨c, hc, rfl⟩ := nI_of2 (x := c) (M := 15) (n := 15) (by decide) (Int32.not_lt.mpr h.2.1) h.2.2
    by_cases hd : drowned D A.1 k
    · exact PR2.of (k_X7_say_state (d := 5) hC hk (by omega) hd) (k_X8_say_state (d := 6) hM hk (by omega) hd) hI
    · refine (c_say (d := 5) hC hk (by omega : c < 16) hW.1 hd).mono (fun r M1 hq => ?_)
      obtain ⟨rfl, hC1, hF⟩ := hq
      have hM1 : MRep M1 D A := hM.same (fun a b q => hF.1 a b (by omega) (by omega) (by omega) (by omega) (by omega))
      refine ⟨_, rfl, (m_say (d := 6) hM1 hk (by omega : c < 16) hW.1 hW.2.1 hd).mono (fun r2 M2 hq2 => ?_)⟩
      obtain ⟨rfl, hM2, hG⟩ := hq2
      exact ⟨rfl, hI.ground hz hK (stepSay_WF hW hn hk hC.houses.2) hC1 hF hM2 hG⟩
  · exact PR2.of (k_X7_say_bad (d := 5) (by rw [hN]; exact h)) (k_X8_say_bad (d := 6) hM.1.2.2.2.1 hn h) hI
theorem pr_undo (hI : Inv M) : PR2 g l mX7_undo mX8_undo [] M := by
  obtain ⟨D, A, hC, hM, hW, hK, hz⟩ := id hI.2.2.2.2.1
  by_cases h : 0 < A.2.2.1
  · refine (c_undo (d := 9) hC hW h).mono (fun r M1 hq => ?_)
    obtain ⟨rfl, hC1, hF⟩ := hq
    have hM1 : MRep M1 D A := hM.same (fun a b q => hF.1 a b (by omega) (by omega) (by omega) (by omega) (by omega))
    refine ⟨_, rfl, (m_undo (d := 10) hM1 hW h).mono (fun r2 M2 hq2 => ?_)⟩
    obtain ⟨rfl, hM2, hG⟩ := hq2
    exact ⟨rfl, hI.ground hz hK (stepUndo_WF hW h) hC1 hF hM2 hG⟩
  · have e0 : A.2.2.1 = 0 := by omega
    obtain ⟨nx, -, -, h3, -⟩ := id hC.2.2.2.2
    have h4 := hM.2.2.2.1
    rw [e0] at h3 h4
    exact PR2.of (k_X7_undo_none (d := 9) h3) (k_X8_undo_none (d := 10) h4) hI
end PAIRS2
