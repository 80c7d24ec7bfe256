section PAIRS5
variable {g : XG} {l : Launch} {M M' : XM}
theorem FCS.bec {f o : Nat} {D : FD} (h : FCS M o D) (e0 : ∀ j, j < 4 → M'.1 f j = M.1 o j) (e1 : ∀ i j, 1 ≤ i → i ≤ 2 → j < 8 → M'.1 (f + i) j = M.1 (o + i) j) (e2 : ∀ i j, 3 ≤ i → i ≤ 7 → j < 6 → M'.1 (f + i) j = M.1 (o + i) j) : FCS M' f D := by
  obtain ⟨h1, h2, h3, h4, h5, h6, h7, h8, h9, h10, h11, h12, h13⟩ := h
  exact ⟨h1, ⟨(e0 0 (by decide)).trans h2.1, h2.2⟩, ⟨(e0 1 (by decide)).trans h3.1, h3.2⟩, (e0 2 (by decide)).trans h4, fun y hy => (e1 1 y (by decide) (by decide) hy).trans (h5 y hy), h6, fun y hy => (e1 2 y (by decide) (by decide) hy).trans (h7 y hy), h8, fun j hj => (e2 3 j (by decide) (by decide) (by omega)).trans (h9 j hj), fun j hj => (e2 4 j (by decide) (by decide) (by omega)).trans (h10 j hj), fun j hj => (e2 5 j (by decide) (by decide) (by omega)).trans (h11 j hj), fun j hj => (e2 6 j (by decide) (by decide) (by omega)).trans (h12 j hj), h13⟩
theorem FMS.bec {a c : Nat} {D : FD} (h : FMS M a D) (e : ∀ j, j < 168 → M'.1 c j = M.1 a j) : FMS M' c D := by
  obtain ⟨h1, h2, h3, h4, h5, h6, h7, h8, h9, h10⟩ := h
  exact ⟨h1, ⟨(e 1 (by decide)).trans h2.1, h2.2⟩, ⟨(e 2 (by decide)).trans h3.1, h3.2⟩, (e 3 (by decide)).trans h4, fun x y hx hy => (e _ (by omega)).trans (h5 x y hx hy), fun j hj => (e _ (by omega)).trans (h6 j hj), fun j hj => (e _ (by omega)).trans (h7 j hj), fun j hj => (e _ (by omega)).trans (h8 j hj), fun j hj => (e _ (by omega)).trans (h9 j hj), h10⟩
theorem becM_atg (M : XM) (f o c j : Nat) : (becM M f o).1 c j = if c = f then (if j < 4 then M.1 o j else M.1 f j) else if f + 1 ≤ c ∧ c ≤ f + 2 then (if j < 8 then M.1 (o + (c - f)) j else M.1 c j) else if f + 3 ≤ c ∧ c ≤ f + 7 then (if j < 6 then M.1 (o + (c - f)) j else M.1 c j) else M.1 c j := rfl
theorem becM_out (M : XM) {f o c j : Nat} (h : ¬ (f ≤ c ∧ c ≤ f + 7)) : (becM M f o).1 c j = M.1 c j := by
  rw [becM_atg, if_neg (by omega), if_neg (by omega), if_neg (by omega)]
theorem becM_0 (M : XM) (f o : Nat) {j : Nat} (h : j < 4) : (becM M f o).1 f j = M.1 o j := by
  rw [becM_atg, if_pos rfl, if_pos h]
theorem becM_1 (M : XM) (f o i : Nat) {j : Nat} (h1 : 1 ≤ i) (h2 : i ≤ 2) (h : j < 8) : (becM M f o).1 (f + i) j = M.1 (o + i) j := by
  rw [becM_atg, if_neg (by omega), if_pos (by omega), if_pos h, show f + i - f = i by omega]
theorem becM_2 (M : XM) (f o i : Nat) {j : Nat} (h1 : 3 ≤ i) (h2 : i ≤ 7) (h : j < 6) : (becM M f o).1 (f + i) j = M.1 (o + i) j := by
  rw [becM_atg, if_neg (by omega), if_neg (by omega), if_pos (by omega), if_pos h, show f + i - f = i by omega]
/-- an image made by both -/
theorem Inv.image {k f : Nat} (hI : Inv M) (hkf : (k = 0 ∧ f = 24) ∨ (k = 1 ∧ f = 32)) {D : FD} {A : FA} (hC : CRep M D A) (hM : MRep M D A) (hW : WFA D A) (hK : ∀ h, h < dn D → 1 ≤ dK D h) (h0 : 0 < dn D) (h1 : M.1 54 0 = 1) : Inv (xup (imM (becM M f 8) k 168) 57 k 1) := by
  have hn := hC.1.1
  have hat : ∀ a b, (xup (imM (becM M f 8) k 168) 57 k 1).1 a b = if a = 57 ∧ b = k then 1 else if a = 56 then (if 168 * k + 0 ≤ b ∧ b < 168 * k + 168 then M.1 54 (b - 168 * k) else M.1 56 b) else (becM M f 8).1 a b := fun a b => by
    rw [xup_at, imM, xum_at, becM_out (c := 54) M (by omega), becM_out (c := 56) M (by omega)]
  have eo : ∀ a b, a ≠ 57 → a ≠ 56 → ¬ (f ≤ a ∧ a ≤ f + 7) → (xup (imM (becM M f 8) k 168) 57 k 1).1 a b = M.1 a b := fun a b q1 q2 q3 => by rw [hat, if_neg (by omega), if_neg q2, becM_out M q3]
  have ef : ∀ a b, a ≠ 57 → a ≠ 56 → (xup (imM (becM M f 8) k 168) 57 k 1).1 a b = (becM M f 8).1 a b := fun a b q1 q2 => by rw [hat, if_neg (by omega), if_neg q2]
  have er : ∀ j, j < 168 → (xup (imM (becM M f 8) k 168) 57 k 1).1 56 (168 * k + j) = M.1 54 j := fun j hj => by rw [hat, if_neg (by omega), if_pos rfl, if_pos (by omega), show 168 * k + j - 168 * k = j by omega]
  have hnew : IvI1 (xup (imM (becM M f 8) k 168) 57 k 1) k f := by
    refine Or.inr ⟨D, A.1, A.2.1, h0, ⟨hW.1, hW.2.1, hK, hn⟩, ⟨hC.1.bec (fun j hj => ?_) (fun i j q1 q2 q3 => ?_) (fun i j q1 q2 q3 => ?_), ?_, fun h hh => ?_⟩, ⟨hM.1.bec (fun j hj => er j hj), fun h hh => (er _ (by omega)).trans (hM.2.1 h hh), fun h hh => (er _ (by omega)).trans (hM.2.2.1 h hh), (er 0 (by decide)).trans h1⟩, ?_⟩
    · rw [ef _ _ (by omega) (by omega), becM_0 M f 8 hj]
    · rw [ef _ _ (by omega) (by omega), becM_1 M f 8 i q1 q2 q3]
    · rw [ef _ _ (by omega) (by omega), becM_2 M f 8 i q1 q2 q3]
    · rw [ef _ _ (by omega) (by omega), becM_0 M f 8 (by decide)]; exact hC.2.1
    · rw [ef _ _ (by omega) (by omega), becM_2 M f 8 7 (by decide) (by decide) (by omega)]; exact hC.2.2.2.1 h hh
    · rw [hat, if_pos ⟨rfl, rfl⟩]
  have eq : ∀ a b, a ≠ 57 → a = 56 → ¬ (168 * k ≤ b ∧ b < 168 * k + 168) → (xup (imM (becM M f 8) k 168) 57 k 1).1 a b = M.1 a b := fun a b q1 q2 q3 => by subst q2; rw [hat, if_neg (by omega), if_pos rfl, if_neg (by omega)]
  have e7 : ∀ b, b ≠ k → (xup (imM (becM M f 8) k 168) 57 k 1).1 57 b = M.1 57 b := fun b q => by rw [hat, if_neg (by omega), if_neg (by omega), becM_out M (by omega)]
  refine ⟨hI.1.keep (fun a b q => eo a b (by omega) (by omega) (by omega)), ?_, hI.2.2.1.keep (fun a b q => eo a b (by omega) (by omega) (by omega)), ?_, hI.2.2.2.2.1.keep (fun a b q => eo a b (by omega) (by omega) (by omega)), ?_, hI.2.2.2.2.2.2.keep (fun a b q => eo a b (by omega) (by omega) (by omega))⟩
  · show _ = _
    rw [eo 0 7 (by omega) (by omega) (by omega), eo 49 3 (by omega) (by omega) (by omega)]; exact hI.2.1
  · show _ = _
    rw [eo 5 3 (by omega) (by omega) (by omega), eo 49 11 (by omega) (by omega) (by omega)]; exact hI.2.2.2.1
  · rcases hkf with ⟨rfl, rfl⟩ | ⟨rfl, rfl⟩
    · refine ⟨hnew, hI.2.2.2.2.2.1.2.keep (fun a b q => ?_)⟩
      rcases q with q | q | q
      · exact eo a b (by omega) (by omega) (by omega)
      · exact eq a b (by omega) q.1 (by omega)
      · rw [q.1]; exact e7 b (by omega)
    · refine ⟨hI.2.2.2.2.2.1.1.keep (fun a b q => ?_), hnew⟩
      rcases q with q | q | q
      · exact eo a b (by omega) (by omega) (by omega)
      · exact eq a b (by omega) q.1 (by omega)
      · rw [q.1]; exact e7 b (by omega)
theorem pr_image (hI : Inv M) (k : Int32) : PR2 g l mX7_image mX8_image [xi k] M := by
  obtain ⟨D, A, hC, hM, hW, hK, hN, hN2, hn6, hz⟩ := hI.2.2.2.2.1.get
  rcases i_nat (a := k) (n := 2) (by decide) with ⟨k, hk, rfl⟩ | h
  · rcases hz with ⟨z0, z1, z2⟩ | ⟨z0, z1, z2⟩
    · exact PR2.of (k_X7_image_state (d := 8) hk z1) (k_X8_image_state (d := 9) hk z2) hI
    have z3 : M.1 54 0 = 1 := by
      obtain ⟨D9, A9, -, -, -, -, hz9⟩ := hI.2.2.2.2.1
      rcases hz9 with ⟨-, h9⟩ | ⟨-, h9⟩
      · exact absurd h9 z2
      · exact h9
    rcases (show k = 0 ∨ k = 1 by omega) with rfl | rfl
    · exact PR2.of (k_X7_image_ok0 (d := 8) z1) (k_X8_image_ok (d := 9) (k := 0) (by decide) (by rw [becM_out M (by omega)]; exact z2)) (hI.image (Or.inl ⟨rfl, rfl⟩) hC hM hW hK z0 z3)
    · exact PR2.of (k_X7_image_ok1 (d := 8) z1) (k_X8_image_ok (d := 9) (k := 1) (by decide) (by rw [becM_out M (by omega)]; exact z2)) (hI.image (Or.inr ⟨rfl, rfl⟩) hC hM hW hK z0 z3)
  · exact PR2.of (k_X7_image_bad (d := 8) h) (k_X8_image_bad (d := 9) h) hI
/-- an image restored by both -/
theorem Inv.restore {k f : Nat} (hI : Inv M) (hkf : (k = 0 ∧ f = 24) ∨ (k = 1 ∧ f = 32)) {D : FD} {P : Nat} {L : Nat → Int32} (h0 : 0 < dn D) (hW : WD D P) (hC : imC M f D P L) (hM : imR M k D P L) : Inv (xup (reM (xup (becM M 8 f) 40 3 0) k 168) 49 17 0) := by
  have hn := hC.1.1
  have hat : ∀ a b, (xup (reM (xup (becM M 8 f) 40 3 0) k 168) 49 17 0).1 a b = if a = 49 ∧ b = 17 then 0 else if a = 54 then (if b < 168 then M.1 56 (168 * k + b) else M.1 54 b) else if a = 40 ∧ b = 3 then 0 else (becM M 8 f).1 a b := fun a b => by
    rw [xup_at, reM, xum_at, xup_cell _ _ (by decide), xup_cell _ _ (by decide), becM_out (c := 54) M (by omega), becM_out (c := 56) M (by omega), xup_at]
  have eb : ∀ c j, 8 ≤ c → c ≤ 15 → (xup (reM (xup (becM M 8 f) 40 3 0) k 168) 49 17 0).1 c j = (becM M 8 f).1 c j := fun c j q1 q2 => by rw [hat, if_neg (by omega), if_neg (by omega), if_neg (by omega)]
  have er : ∀ j, j < 168 → (xup (reM (xup (becM M 8 f) 40 3 0) k 168) 49 17 0).1 54 j = M.1 56 (168 * k + j) := fun j hj => by rw [hat, if_neg (by omega), if_pos rfl, if_pos hj]
  have eo : ∀ a b, ¬ (8 ≤ a ∧ a ≤ 15) → ¬ (a = 40 ∧ b = 3) → a ≠ 54 → ¬ (a = 49 ∧ b = 17) → (xup (reM (xup (becM M 8 f) 40 3 0) k 168) 49 17 0).1 a b = M.1 a b := fun a b q1 q2 q3 q4 => by rw [hat, if_neg q4, if_neg q3, if_neg q2, becM_out M (by omega)]
  obtain ⟨D9, A9, hC9, -⟩ := hI.2.2.2.2.1
  obtain ⟨nx, hnx, hx, -⟩ := hC9.2.2.2.2
  obtain ⟨m1, m2, m3, m4⟩ := hM
  refine hI.ground2 (D := D) (A := (P, L, 0, fun _ => (0, 0))) (Or.inr ⟨h0, (er 0 (by decide)).trans m4⟩) hW.2.2.1 ⟨hW.1, hW.2.1, Nat.zero_le _, fun i hi => absurd hi (Nat.not_lt_zero i)⟩ ⟨hC.1.bec (fun j hj => ?_) (fun i j q1 q2 q3 => ?_) (fun i j q1 q2 q3 => ?_), ?_, hW.2.1, fun h hh => ?_, nx, hnx, ?_, ?_, Nat.zero_le _, fun i hi => absurd hi (Nat.not_lt_zero i)⟩ ⟨m1.bec (fun j hj => er j hj), fun h hh => (er _ (by omega)).trans (m2 h hh), fun h hh => (er _ (by omega)).trans (m3 h hh), ?_, Nat.zero_le _, fun i hi => absurd hi (Nat.not_lt_zero i)⟩ ?_ (fun a b q => eo a b (by omega) (by omega) (by omega) (by omega))
  · rw [eb _ _ (by omega) (by omega), becM_0 M 8 f hj]
  · rw [eb _ _ (by omega) (by omega), becM_1 M 8 f i q1 q2 q3]
  · rw [eb _ _ (by omega) (by omega), becM_2 M 8 f i q1 q2 q3]
  · rw [eb _ _ (by omega) (by omega), becM_0 M 8 f (by decide)]; exact hC.2.1
  · rw [eb 15 _ (by omega) (by omega), becM_2 M 8 f 7 (by decide) (by decide) (by omega)]; exact hC.2.2 h hh
  · rw [eo 40 2 (by omega) (by omega) (by omega) (by omega)]; exact hx
  · rw [hat, if_neg (by omega), if_neg (by omega), if_pos ⟨rfl, rfl⟩]; rfl
  · rw [hat, if_pos ⟨rfl, rfl⟩]; rfl
  · rw [eo 0 7 (by omega) (by omega) (by omega) (by omega), eo 49 3 (by omega) (by omega) (by omega) (by omega)]; exact hI.2.1
theorem pr_restore (hI : Inv M) (k : Int32) : PR2 g l mX7_restore mX8_restore [xi k] M := by
  rcases i_nat (a := k) (n := 2) (by decide) with ⟨k, hk, rfl⟩ | h
  · have key : ∀ f k', IvI1 M k' f → (¬ 0 < M.1 f 2 ∧ M.1 57 k' = 0) ∨ (0 < M.1 f 2 ∧ ¬ M.1 57 k' = 0 ∧ ∃ (D : FD) (P : Nat) (L : Nat → Int32), 0 < dn D ∧ WD D P ∧ imC M f D P L ∧ imR M k' D P L) := by
      intro f k' hh
      rcases hh with ⟨q1, q2⟩ | ⟨D, P, L, h0, hW, h1, h2, h3⟩
      · exact Or.inl ⟨by rw [q1]; decide, q2⟩
      · have hn := h1.1.1
        exact Or.inr ⟨by rw [h1.1.2.2.2.1]; exact nI_lt (a := 0) h0 (by omega), by rw [h3]; decide, D, P, L, h0, hW, h1, h2⟩
    rcases (show k = 0 ∨ k = 1 by omega) with rfl | rfl
    · rcases key 24 0 hI.2.2.2.2.2.1.1 with ⟨q1, q2⟩ | ⟨q1, q2, D, P, L, h0, hW, h1, h2⟩
      · exact PR2.of (k_X7_restore_state0 (d := 8) q1) (k_X8_restore_state (d := 9) (k := 0) (by decide) q2) hI
      · exact PR2.of (k_X7_restore_ok0 (d := 8) q1) (k_X8_restore_ok (d := 9) (k := 0) (by decide) (by rw [xup_cell _ _ (by decide), becM_out M (by omega)]; exact q2)) (hI.restore (Or.inl ⟨rfl, rfl⟩) h0 hW h1 h2)
    · rcases key 32 1 hI.2.2.2.2.2.1.2 with ⟨q1, q2⟩ | ⟨q1, q2, D, P, L, h0, hW, h1, h2⟩
      · exact PR2.of (k_X7_restore_state1 (d := 8) q1) (k_X8_restore_state (d := 9) (k := 1) (by decide) q2) hI
      · exact PR2.of (k_X7_restore_ok1 (d := 8) q1) (k_X8_restore_ok (d := 9) (k := 1) (by decide) (by rw [xup_cell _ _ (by decide), becM_out M (by omega)]; exact q2)) (hI.restore (Or.inr ⟨rfl, rfl⟩) h0 hW h1 h2)
  · exact PR2.of (k_X7_restore_bad (d := 8) h) (k_X8_restore_bad (d := 9) h) hI
end PAIRS5
