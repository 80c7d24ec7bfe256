/-! WHAT HOLDS BETWEEN TWO CALLS: class and reference side by side -/
section INVAR
variable {g : XG} {l : Launch} {M M' : XM}
def RWr (M : XM) (r : Nat) : Prop := (M.1 2 r = -1 ∧ M.1 50 r = -1000000) ∨ (∃ t s, t < 3 ∧ s ≤ 40 ∧ M.1 2 r = nI t ∧ M.1 50 r = nI t ∧ M.1 3 r = nI s ∧ M.1 51 r = nI s ∧ ∀ j, j < s → M.1 4 (r * 40 + j) = M.1 52 (40 * r + j))
def IvR (M : XM) : Prop := ∀ r, r < 8 → RWr M r
def IvF (M : XM) : Prop := M.1 0 7 = M.1 49 3
def IvT (M : XM) : Prop := ∃ T : TX, TC M T ∧ TM M T
def IvQ (M : XM) : Prop := M.1 5 3 = M.1 49 11
def IvG (M : XM) : Prop := ∃ (D : FD) (A : FA), CRep M D A ∧ MRep M D A ∧ WFA D A ∧ (∀ h, h < dn D → 1 ≤ dK D h) ∧ ((dn D = 0 ∧ M.1 54 0 = 0) ∨ (0 < dn D ∧ M.1 54 0 = 1))
def imv (M : XM) (k : Nat) : XM := (fun _ b => M.1 56 (168 * k + b), M.2)
def imC (M : XM) (f : Nat) (D : FD) (P : Nat) (L : Nat → Int32) : Prop := FCS M f D ∧ M.1 f 3 = nI P ∧ ∀ h, h < dn D → M.1 (f + 7) h = L h
def imR (M : XM) (k : Nat) (D : FD) (P : Nat) (L : Nat → Int32) : Prop := FMS (imv M k) 0 D ∧ XMP (imv M k) 0 P ∧ (∀ h, h < dn D → M.1 56 (168 * k + (34 + h)) = L h) ∧ M.1 56 (168 * k) = 1
def IvI1 (M : XM) (k f : Nat) : Prop := (M.1 f 2 = 0 ∧ M.1 57 k = 0) ∨ (∃ (D : FD) (P : Nat) (L : Nat → Int32), 0 < dn D ∧ WD D P ∧ imC M f D P L ∧ imR M k D P L ∧ M.1 57 k = 1)
def IvI (M : XM) : Prop := IvI1 M 0 24 ∧ IvI1 M 1 32
def IvB (M : XM) : Prop := ∃ n, n ≤ 16 ∧ M.1 47 1 = nI n ∧ M.1 49 20 = nI n ∧ ∀ i, i < n → M.1 48 i = M.1 60 i
def Inv (M : XM) : Prop := IvR M ∧ IvF M ∧ IvT M ∧ IvQ M ∧ IvG M ∧ IvI M ∧ IvB M
theorem IvR.keep (h : IvR M) (hk : ∀ a b, (a = 2 ∨ a = 3 ∨ a = 4 ∨ a = 50 ∨ a = 51 ∨ a = 52) → M'.1 a b = M.1 a b) : IvR M' := by
  intro r hr
  rcases h r hr with ⟨q1, q2⟩ | ⟨t, s, ht, hs, e1, e2, e3, e4, e5⟩
  · exact Or.inl ⟨(hk 2 r (by omega)).trans q1, (hk 50 r (by omega)).trans q2⟩
  · exact Or.inr ⟨t, s, ht, hs, (hk 2 r (by omega)).trans e1, (hk 50 r (by omega)).trans e2, (hk 3 r (by omega)).trans e3, (hk 51 r (by omega)).trans e4, fun j hj => by rw [hk 4 _ (by omega), hk 52 _ (by omega)]; exact e5 j hj⟩
theorem IvT.keep (h : IvT M) (hk : ∀ a b, ((a = 5 ∧ b = 1) ∨ a = 6 ∨ (a = 49 ∧ b = 4) ∨ a = 53) → M'.1 a b = M.1 a b) : IvT M' := by
  obtain ⟨T, ⟨a1, a2, a3⟩, b1, b2, b3⟩ := h
  exact ⟨T, ⟨(hk 5 1 (by omega)).trans a1, a2, fun i hi => ⟨(hk 6 i (by omega)).trans (a3 i hi).1, (a3 i hi).2⟩⟩, (hk 49 4 (by omega)).trans b1, b2, fun i hi => ⟨(hk 53 i (by omega)).trans (b3 i hi).1, (b3 i hi).2⟩⟩
theorem CRep.same {D : FD} {A : FA} (h : CRep M D A) (hk : ∀ a b, ((8 ≤ a ∧ a ≤ 15) ∨ a = 40 ∨ a = 41 ∨ a = 42) → M'.1 a b = M.1 a b) : CRep M' D A := by
  obtain ⟨c1, c2, c3, c4, nx, q1, q2, q3, q4, q5⟩ := h
  exact ⟨c1.keep (fun b _ => hk 8 b (by omega)) (fun c b h1 h2 => hk c b (by omega)), (hk 8 3 (by omega)).trans c2, c3, fun h hh => (hk 15 h (by omega)).trans (c4 h hh), nx, q1, (hk 40 2 (by omega)).trans q2, (hk 40 3 (by omega)).trans q3, q4, fun i hi => ⟨(hk 41 _ (by omega)).trans (q5 i hi).1, (hk 42 _ (by omega)).trans (q5 i hi).2⟩⟩
theorem MRep.same {D : FD} {A : FA} (h : MRep M D A) (hk : ∀ a b, (a = 54 ∨ a = 58 ∨ (a = 49 ∧ b = 17)) → M'.1 a b = M.1 a b) : MRep M' D A := by
  obtain ⟨m1, m2, m3, q1, q2, q3⟩ := h
  exact ⟨m1.keep2 (fun b _ _ => hk 54 b (by omega)), fun h hh => (hk 54 _ (by omega)).trans (m2 h hh), fun h hh => (hk 54 _ (by omega)).trans (m3 h hh), (hk 49 17 (by omega)).trans q1, q2, fun i hi => ⟨fun a ha => (hk 58 _ (by omega)).trans ((q3 i hi).1 a ha), (hk 58 _ (by omega)).trans (q3 i hi).2⟩⟩
theorem IvG.keep (h : IvG M) (hk : ∀ a b, ((8 ≤ a ∧ a ≤ 15) ∨ a = 40 ∨ a = 41 ∨ a = 42 ∨ a = 54 ∨ a = 58 ∨ (a = 49 ∧ b = 17)) → M'.1 a b = M.1 a b) : IvG M' := by
  obtain ⟨D, A, hC, hM, hW, hd, hz⟩ := h
  exact ⟨D, A, hC.same (fun a b q => hk a b (by omega)), hM.same (fun a b q => hk a b (by omega)), hW, hd, by rw [hk 54 0 (by omega)]; exact hz⟩
theorem imC.keep {f P : Nat} {D : FD} {L : Nat → Int32} (h : imC M f D P L) (hk : ∀ a b, f ≤ a → a ≤ f + 7 → M'.1 a b = M.1 a b) : imC M' f D P L :=
  ⟨h.1.keep (fun b _ => hk f b (by omega) (by omega)) (fun c b h1 h2 => hk c b (by omega) (by omega)), (hk f 3 (by omega) (by omega)).trans h.2.1, fun h' hh => (hk (f + 7) h' (by omega) (by omega)).trans (h.2.2 h' hh)⟩
theorem imR.keep {k P : Nat} {D : FD} {L : Nat → Int32} (h : imR M k D P L) (hk : ∀ b, 168 * k ≤ b → b < 168 * k + 168 → M'.1 56 b = M.1 56 b) : imR M' k D P L := by
  obtain ⟨h1, h2, h3, h4⟩ := h
  have hn := h1.1
  exact ⟨h1.keep2 (fun b _ hb => hk (168 * k + b) (by omega) (by omega)), fun h' hh => (hk (168 * k + (10 + h')) (by omega) (by omega)).trans (h2 h' hh), fun h' hh => (hk (168 * k + (34 + h')) (by omega) (by omega)).trans (h3 h' hh), (hk (168 * k) (by omega) (by omega)).trans h4⟩
theorem IvI1.keep {k f : Nat} (h : IvI1 M k f) (hk : ∀ a b, ((f ≤ a ∧ a ≤ f + 7) ∨ (a = 56 ∧ 168 * k ≤ b ∧ b < 168 * k + 168) ∨ (a = 57 ∧ b = k)) → M'.1 a b = M.1 a b) : IvI1 M' k f := by
  rcases h with ⟨q1, q2⟩ | ⟨D, P, L, h0, hW, h1, h2, h3⟩
  · exact Or.inl ⟨(hk f 2 (by omega)).trans q1, (hk 57 k (by omega)).trans q2⟩
  · exact Or.inr ⟨D, P, L, h0, hW, h1.keep (fun a b p1 p2 => hk a b (by omega)), h2.keep (fun b p1 p2 => hk 56 b (by omega)), (hk 57 k (by omega)).trans h3⟩
theorem IvI.keep (h : IvI M) (hk : ∀ a b, ((24 ≤ a ∧ a ≤ 39) ∨ a = 56 ∨ a = 57) → M'.1 a b = M.1 a b) : IvI M' :=
  ⟨h.1.keep (fun a b q => hk a b (by omega)), h.2.keep (fun a b q => hk a b (by omega))⟩
theorem IvB.keep (h : IvB M) (hk : ∀ a b, ((a = 47 ∧ b = 1) ∨ a = 48 ∨ a = 60 ∨ (a = 49 ∧ b = 20)) → M'.1 a b = M.1 a b) : IvB M' := by
  obtain ⟨n, h1, h2, h3, h4⟩ := h
  exact ⟨n, h1, (hk 47 1 (by omega)).trans h2, (hk 49 20 (by omega)).trans h3, fun i hi => by rw [hk 48 i (by omega), hk 60 i (by omega)]; exact h4 i hi⟩
/-- what nobody looks at between two calls, and the finding, may have changed -/
theorem Inv.fr (h : Inv M) (hf : M'.1 0 7 = M'.1 49 3) (hk : ∀ a b, (a ≠ 55 ∧ a ≠ 59 ∧ a ≠ 61 ∧ a ≠ 62 ∧ ¬ (16 ≤ a ∧ a ≤ 23) ∧ ¬ (43 ≤ a ∧ a ≤ 46) ∧ ¬ (a = 0 ∧ b = 7) ∧ ¬ (a = 49 ∧ (b = 3 ∨ b = 6 ∨ b = 7 ∨ b = 8 ∨ b = 10 ∨ b = 12))) → M'.1 a b = M.1 a b) : Inv M' :=
  ⟨h.1.keep (fun a b q => hk a b (by omega)), hf, h.2.2.1.keep (fun a b q => hk a b (by omega)), (hk 5 3 (by omega)).trans (h.2.2.2.1.trans (hk 49 11 (by omega)).symm), h.2.2.2.2.1.keep (fun a b q => hk a b (by omega)), h.2.2.2.2.2.1.keep (fun a b q => hk a b (by omega)), h.2.2.2.2.2.2.keep (fun a b q => hk a b (by omega))⟩
theorem Inv.find (h : Inv M) (x : Int32) : Inv (xup (xup M 0 7 x) 49 3 x) :=
  h.fr (by rw [xup_cell _ _ (by decide), xup_same, xup_same]) (fun a b q => by rw [xup_at, if_neg (by omega), xup_at, if_neg (by omega)])
/-- a call of both: class first, then reference: the answers are alike, and all holds again -/
def PR2 (g : XG) (l : Launch) (y1 y2 : XY) (as : List XV) (M : XM) : Prop := XC g l y1 10 (xr 0 :: as) M (fun r M1 => ∃ w : Int32, r = some (xi w) ∧ XC g l y2 10 (xr 49 :: as) M1 (fun r2 M2 => r2 = some (xi w) ∧ Inv M2))
theorem PR2.of {y1 y2 : XY} {as : List XV} {w : Int32} {M1 M2 : XM} (h1 : XC g l y1 10 (xr 0 :: as) M (XE (some (xi w)) M1)) (h2 : XC g l y2 10 (xr 49 :: as) M1 (XE (some (xi w)) M2)) (hI : Inv M2) : PR2 g l y1 y2 as M :=
  h1.mono (fun r M' hq => by
    obtain ⟨rfl, rfl⟩ := hq
    exact ⟨w, rfl, h2.mono (fun r2 M2' hq2 => by obtain ⟨rfl, rfl⟩ := hq2; exact ⟨rfl, hI⟩)⟩)
theorem nI_none {n : Nat} (h : n < 2 ^ 31) : ¬ nI n = -1000000 := fun z => absurd (z ▸ nI_pos' (n := n) h) (by decide)
theorem i_nat {a : Int32} {n : Nat} (hn : n < 2 ^ 31) : (∃ h, h < n ∧ a = nI h) ∨ ¬ (0 ≤ a ∧ a < nI n) := by
  by_cases h : 0 ≤ a ∧ a < nI n
  · obtain ⟨j, h1, h2⟩ := nv_lit hn h.1 h.2
    exact Or.inl ⟨j, h1, h2⟩
  · exact Or.inr h
/-- the ground as both have it -/
theorem IvG.get (h : IvG M) : ∃ (D : FD) (A : FA), CRep M D A ∧ MRep M D A ∧ WFA D A ∧ (∀ h, h < dn D → 1 ≤ dK D h) ∧ M.1 8 2 = nI (dn D) ∧ M.1 54 3 = nI (dn D) ∧ dn D ≤ 6 ∧ ((dn D = 0 ∧ ¬ 0 < M.1 8 2 ∧ M.1 54 0 = 0) ∨ (0 < dn D ∧ 0 < M.1 8 2 ∧ ¬ M.1 54 0 = 0)) := by
  obtain ⟨D, A, hC, hM, hW, hd, hz⟩ := h
  have e1 := hC.1.2.2.2.1
  have hn := hC.1.1
  refine ⟨D, A, hC, hM, hW, hd, e1, hM.1.2.2.2.1, hn, ?_⟩
  rcases hz with ⟨z1, z2⟩ | ⟨z1, z2⟩
  · exact Or.inl ⟨z1, by rw [e1, z1]; decide, z2⟩
  · exact Or.inr ⟨z1, by rw [e1]; exact nI_lt (a := 0) z1 (by omega), by rw [z2]; decide⟩
/-- the rows -/
theorem pr_row (hI : Inv M) (a b c : Int32) : PR2 g l mX7_row mX8_row [xi a, xi b, xi c] M := by
  by_cases h : 0 ≤ a ∧ a < 8 ∧ 0 ≤ b ∧ b < 3 ∧ c ≤ 40
  · by_cases hc : c < 0
    · have h' : 0 ≤ a ∧ a < 8 ∧ 0 ≤ b ∧ b < 3 ∧ c < 0 := ⟨h.1, h.2.1, h.2.2.1, h.2.2.2.1, hc⟩
      exact PR2.of (k_X7_row_size (d := 8) h') (k_X8_row_size (d := 8) h') (hI.find 4)
    · obtain ⟨r, hr, rfl⟩ := nv_lit (n := 8) (by decide) h.1 h.2.1
      obtain ⟨t, ht, rfl⟩ := nv_lit (n := 3) (by decide) h.2.2.1 h.2.2.2.1
      obtain ⟨n, hn, rfl⟩ := nI_of2 (M := 40) (n := 40) (by decide) hc h.2.2.2.2
      refine PR2.of (k_X7_row_ok (d := 8) hr ht hn) (k_X8_row_ok (d := 8) hr ht hn) ?_
      have hat : ∀ a b, (xup (mkS (xup (mkR M r n (nI t)) 0 7 0) r n (nI t)) 49 3 0).1 a b = if a = 49 ∧ b = 3 then 0 else if a = 52 then (if 40 * r + 0 ≤ b ∧ b < 40 * r + n then 0 else M.1 52 b) else if a = 51 ∧ b = r then nI n else if a = 50 ∧ b = r then nI t else if a = 0 ∧ b = 7 then 0 else if a = 4 then (if r * 40 ≤ b ∧ b < r * 40 + n then 0 else M.1 4 b) else if a = 3 ∧ b = r then nI n else if a = 2 ∧ b = r then nI t else M.1 a b := by
        intro a b
        simp only [mkS, mkR, xup_at, xum_at]
        split <;> try rfl
      refine ⟨?_, by show _ = _; rw [hat, hat]; simp, hI.2.2.1.keep (fun a b q => ?_), ?_, hI.2.2.2.2.1.keep (fun a b q => ?_), hI.2.2.2.2.2.1.keep (fun a b q => ?_), hI.2.2.2.2.2.2.keep (fun a b q => ?_)⟩
      · intro r2 hr2
        by_cases e : r2 = r
        · subst e
          refine Or.inr ⟨t, n, ht, hn, ?_, ?_, ?_, ?_, fun j hj => ?_⟩
          · rw [hat]; simp
          · rw [hat]; simp
          · rw [hat]; simp
          · rw [hat]; simp
          · rw [hat, hat]; simp; rw [if_pos (by omega), if_pos (by omega)]
        · rcases hI.1 r2 hr2 with ⟨q1, q2⟩ | ⟨t2, s2, ht2, hs2, e1, e2, e3, e4, e5⟩
          · exact Or.inl ⟨by rw [hat]; simp [e]; exact q1, by rw [hat]; simp [e]; exact q2⟩
          · refine Or.inr ⟨t2, s2, ht2, hs2, by rw [hat]; simp [e]; exact e1, by rw [hat]; simp [e]; exact e2, by rw [hat]; simp [e]; exact e3, by rw [hat]; simp [e]; exact e4, fun j hj => ?_⟩
            rw [hat, hat]; simp only [Nat.reduceEqDiff, false_and, if_false, if_true]
            rw [if_neg (by omega), if_neg (by omega)]; exact e5 j hj
      · rw [hat]; repeat rw [if_neg (by omega)]
      · show _ = _; rw [hat, hat]; simp; exact hI.2.2.2.1
      · rw [hat]; repeat rw [if_neg (by omega)]
      · rw [hat]; repeat rw [if_neg (by omega)]
      · rw [hat]; repeat rw [if_neg (by omega)]
  · exact PR2.of (k_X7_row_bad (d := 8) h) (k_X8_row_bad (d := 8) h) hI
end INVAR
