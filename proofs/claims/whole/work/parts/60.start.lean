/-! THE START: the memory behind the two constructors -/
section START
def mi {α β : Type} (f : Nat → α → β) : Nat → List α → List β
  | _, [] => []
  | k, a :: t => f k a :: mi f (k + 1) t
theorem mi_get {α β : Type} (f : Nat → α → β) : ∀ (l : List α) (k i : Nat), (mi f k l)[i]? = l[i]?.map (f (k + i))
  | [], k, i => by simp [mi]
  | a :: t, k, i => by
    cases i with
    | zero => simp [mi]
    | succ i => simp only [mi, List.getElem?_cons_succ]; rw [mi_get f t (k + 1) i, show k + 1 + i = k + (i + 1) by omega]
theorem mi_eq {α β : Type} (f : Nat → α → β) (l : List α) : l.mapIdx f = mi f 0 l := by
  apply List.ext_getElem?
  intro i
  rw [List.getElem?_mapIdx, mi_get, Nat.zero_add]
def xcm (g : XG) (M : XM) (k : Nat) : XK → va_E
  | .inl (ci, ks) => .inr (ci, mi (fun j f => xfv g M k j f) 0 ks)
  | .inr (t, n) => .inl (g.2.2.1 t, n, if t = 3 then .inr (.inr (.inr (.inr (fun j => some (g.2.1 (xrf k j)))))) else .inl (M.1 k))
theorem xcm_eq (g : XG) (M : XM) (k : Nat) (s : XK) : xce g M k s = xcm g M k s := by
  rcases s with ⟨ci, ks⟩ | ⟨t, n⟩
  · simp only [xce, xcm, mi_eq]
  · rfl
theorem xws_mi (g : XG) (M : XM) : xws g M = mi (fun k s => (g.2.1 k, xcm g M k s)) 0 xsh := by
  unfold xws
  rw [mi_eq]
  congr 1
  funext k s
  rw [xcm_eq]
def M0 (f2 f50 : Nat → Int32) : XM := (fun a => if a = 2 then f2 else if a = 50 then f50 else fun _ => 0, fun _ _ => 0)
theorem M0_z {f2 f50 : Nat → Int32} {a b : Nat} (h1 : a ≠ 2) (h2 : a ≠ 50) : (M0 f2 f50).1 a b = 0 := by simp [M0, h1, h2]
theorem inv_start {f2 f50 : Nat → Int32} (h2 : ∀ r, r < 8 → f2 r = -1) (h50 : ∀ r, r < 8 → f50 r = -1000000) : Inv (M0 f2 f50) := by
  have z : ∀ a b, a ≠ 2 → a ≠ 50 → (M0 f2 f50).1 a b = 0 := fun a b q1 q2 => M0_z q1 q2
  have e0 : nI 0 = 0 := rfl
  refine ⟨fun r hr => Or.inl ⟨?_, ?_⟩, ?_, ⟨(fun _ => 0, 0), ⟨?_, Nat.zero_le _, fun i hi => absurd hi (Nat.not_lt_zero i)⟩, ?_, Nat.zero_le _, fun i hi => absurd hi (Nat.not_lt_zero i)⟩, ?_, ?_, ⟨Or.inl ⟨?_, ?_⟩, Or.inl ⟨?_, ?_⟩⟩, ⟨0, Nat.zero_le _, ?_, ?_, fun i hi => absurd hi (Nat.not_lt_zero i)⟩⟩
  · show f2 r = -1
    exact h2 r hr
  · show f50 r = -1000000
    exact h50 r hr
  · show _ = _
    rw [z _ _ (by decide) (by decide), z _ _ (by decide) (by decide)]
  · exact z 5 1 (by decide) (by decide)
  · exact z 49 4 (by decide) (by decide)
  · show _ = _
    rw [z _ _ (by decide) (by decide), z _ _ (by decide) (by decide)]
  · have p0 : ∀ h, px 0 h = 0 := fun h => by simp [px]
    have n0 : ∀ (P : Nat → Prop) (h : Nat), h < 0 → P h := fun _ h hh => absurd hh (Nat.not_lt_zero h)
    refine ⟨fun _ _ => 0, (0, fun _ => 0, 0, fun _ => (0, 0)), ⟨⟨Nat.zero_le _, ⟨z _ _ (by decide) (by decide), by decide⟩, ⟨z _ _ (by decide) (by decide), by decide⟩, z _ _ (by decide) (by decide), fun y _ => z _ _ (by decide) (by decide), fun y _ => (by decide : 0 < 65536), fun y _ => z _ _ (by decide) (by decide), fun y _ => (by decide : 0 < 65536), fun h hh => absurd hh (Nat.not_lt_zero h), fun h hh => absurd hh (Nat.not_lt_zero h), fun h hh => absurd hh (Nat.not_lt_zero h), fun h hh => absurd hh (Nat.not_lt_zero h), fun h hh => absurd hh (Nat.not_lt_zero h)⟩, z _ _ (by decide) (by decide), by decide, fun h hh => absurd hh (Nat.not_lt_zero h), ⟨0, by decide, z _ _ (by decide) (by decide), z _ _ (by decide) (by decide), Nat.zero_le _, fun i hi => absurd hi (Nat.not_lt_zero i)⟩⟩, ⟨⟨Nat.zero_le _, ⟨z _ _ (by decide) (by decide), by decide⟩, ⟨z _ _ (by decide) (by decide), by decide⟩, z _ _ (by decide) (by decide), fun x y _ _ => ?_, fun h hh => absurd hh (Nat.not_lt_zero h), fun h hh => absurd hh (Nat.not_lt_zero h), fun h hh => absurd hh (Nat.not_lt_zero h), fun h hh => absurd hh (Nat.not_lt_zero h), fun h hh => absurd hh (Nat.not_lt_zero h)⟩, fun h _ => ?_, fun h hh => absurd hh (Nat.not_lt_zero h), ⟨z _ _ (by decide) (by decide), Nat.zero_le _, fun i hi => absurd hi (Nat.not_lt_zero i)⟩⟩, ⟨⟨fun h hh => absurd hh (Nat.not_lt_zero h), fun a b ha => absurd ha (Nat.not_lt_zero a), by decide⟩, by decide, Nat.zero_le _, fun i hi => absurd hi (Nat.not_lt_zero i)⟩, fun h hh => absurd hh (Nat.not_lt_zero h), Or.inl ⟨rfl, z _ _ (by decide) (by decide)⟩⟩
    · rw [z _ _ (by decide) (by decide)]
      show 0 = nI (0 / 2 ^ x % 2 + 2 * (0 / 2 ^ x % 2))
      rw [Nat.zero_div]; rfl
    · rw [z _ _ (by decide) (by decide)]
      show 0 = nI (px 0 h)
      rw [p0]; rfl
  · exact z _ _ (by decide) (by decide)
  · exact z _ _ (by decide) (by decide)
  · exact z _ _ (by decide) (by decide)
  · exact z _ _ (by decide) (by decide)
  · exact z _ _ (by decide) (by decide)
  · exact z _ _ (by decide) (by decide)
def adrOf (L : List Nat) (t0 t1 t2 b : Nat) (K V : Nat → Nat) : Nat → Nat := fun k => if k < 63 then L.getD k 0 else if k = 1000 then t0 else if k = 1001 then t1 else if k = 1002 then t2 else if k = 1003 then b else if k < 1200 then K (k - 1100) else V (k - 1200)
theorem adrOf_K {L : List Nat} {t0 t1 t2 b : Nat} {K V : Nat → Nat} {i : Nat} (hi : i < 9) : adrOf L t0 t1 t2 b K V (1100 + i) = K i := by
  unfold adrOf
  rw [if_neg (by omega), if_neg (by omega), if_neg (by omega), if_neg (by omega), if_neg (by omega), if_pos (by omega), Nat.add_sub_cancel_left]
theorem adrOf_V {L : List Nat} {t0 t1 t2 b : Nat} {K V : Nat → Nat} {i : Nat} (hi : i < 9) : adrOf L t0 t1 t2 b K V (1200 + i) = V i := by
  unfold adrOf
  rw [if_neg (by omega), if_neg (by omega), if_neg (by omega), if_neg (by omega), if_neg (by omega), if_neg (by omega), Nat.add_sub_cancel_left]
theorem va_P.recell {D : va_G} {cl : List vw_C} {ws : va_W} {H : Heap} {q0 a n : Nat} {cA : ClassId} {f f' : Nat → Option Nat} (hP : va_P D cl ws H) (he : ws[q0]? = some (a, .inl (cA, n, .inr (.inr (.inr (.inr f)))))) (hf : ∀ j, j < n → f j = f' j) : va_P D cl (ws.set q0 (a, .inl (cA, n, .inr (.inr (.inr (.inr f')))))) H := by
  intro k q hq
  by_cases e : k = q0
  · subst e
    have hl := (List.getElem?_eq_some_iff.mp he).1
    rw [List.getElem?_set_self hl] at hq
    cases hq
    have h2 : H[a]? = some (vp_cell cA (n, .inr (.inr (.inr (.inr f))))) := hP k _ he
    show H[a]? = some (vp_cell cA (n, .inr (.inr (.inr (.inr f')))))
    rw [h2, vp_cell_q, vp_cell_q]
    unfold arrV
    congr 3
    funext j
    show va_rf (f j.val) = va_rf (f' j.val)
    rw [hf j.val j.isLt]
  · rw [List.getElem?_set_ne (fun z => e z.symm)] at hq
    exact hP k q hq
set_option maxRecDepth 100000 in
set_option maxHeartbeats 4000000 in
theorem world_start {D : va_G} {cc : Nat → ClassId} {A : Nat → Prop} {H : Heap} {f2 f50 : Nat → Int32} {t0 t1 t2 b sz L : Nat} {xs : Nat → Int32} {K V : Nat → Nat} {h0 q1 q2 q3 q4 q5 q6 q7 q8 q9 q10 q11 q12 q13 q14 q15 q16 q17 q18 q19 q20 q21 q22 q23 q24 q25 q26 q27 q28 q29 q30 q31 q32 q33 q34 q35 q36 q37 q38 q39 q40 q41 q42 q43 q44 q45 q46 q47 q48 q49 q50 q51 q52 q53 q54 q55 q56 q57 q58 q59 q60 q61 q62 : Nat} (hP : va_P D vwCl (wX7 cc f2 h0 q1 q2 q3 q4 q5 q6 q7 q8 q9 q10 q11 q12 q13 q14 q15 q16 q17 q18 q19 q20 q21 q22 q23 q24 q25 q26 q27 q28 q29 q30 q31 q32 q33 q34 q35 q36 q37 q38 q39 q40 q41 q42 q43 q44 q45 q46 q47 q48 ++ wX8 cc f50 q49 q50 q51 q52 q53 q54 q55 q56 q57 q58 q59 q60 q61 q62) H) (hD : va_D A (wX7 cc f2 h0 q1 q2 q3 q4 q5 q6 q7 q8 q9 q10 q11 q12 q13 q14 q15 q16 q17 q18 q19 q20 q21 q22 q23 q24 q25 q26 q27 q28 q29 q30 q31 q32 q33 q34 q35 q36 q37 q38 q39 q40 q41 q42 q43 q44 q45 q46 q47 q48 ++ wX8 cc f50 q49 q50 q51 q52 q53 q54 q55 q56 q57 q58 q59 q60 q61 q62)) :
    va_P D vwCl (xws ((D, adrOf [h0, q1, q2, q3, q4, q5, q6, q7, q8, q9, q10, q11, q12, q13, q14, q15, q16, q17, q18, q19, q20, q21, q22, q23, q24, q25, q26, q27, q28, q29, q30, q31, q32, q33, q34, q35, q36, q37, q38, q39, q40, q41, q42, q43, q44, q45, q46, q47, q48, q49, q50, q51, q52, q53, q54, q55, q56, q57, q58, q59, q60, q61, q62] t0 t1 t2 b K V, cc, sz, L, xs) : XG) (M0 f2 f50)) H ∧ va_D A (xws ((D, adrOf [h0, q1, q2, q3, q4, q5, q6, q7, q8, q9, q10, q11, q12, q13, q14, q15, q16, q17, q18, q19, q20, q21, q22, q23, q24, q25, q26, q27, q28, q29, q30, q31, q32, q33, q34, q35, q36, q37, q38, q39, q40, q41, q42, q43, q44, q45, q46, q47, q48, q49, q50, q51, q52, q53, q54, q55, q56, q57, q58, q59, q60, q61, q62] t0 t1 t2 b K V, cc, sz, L, xs) : XG) (M0 f2 f50)) := by
  obtain ⟨ad, had⟩ : ∃ ad : Nat → Nat, ad = adrOf [h0, q1, q2, q3, q4, q5, q6, q7, q8, q9, q10, q11, q12, q13, q14, q15, q16, q17, q18, q19, q20, q21, q22, q23, q24, q25, q26, q27, q28, q29, q30, q31, q32, q33, q34, q35, q36, q37, q38, q39, q40, q41, q42, q43, q44, q45, q46, q47, q48, q49, q50, q51, q52, q53, q54, q55, q56, q57, q58, q59, q60, q61, q62] t0 t1 t2 b K V := ⟨_, rfl⟩
  have hPs := hP.sub [0, 1, 2, 3, 4, 5, 6, 23, 15, 16, 17, 18, 19, 20, 21, 22, 7, 8, 9, 10, 11, 12, 13, 14, 24, 25, 26, 27, 28, 29, 30, 31, 32, 33, 34, 35, 36, 37, 38, 39, 40, 41, 42, 43, 44, 45, 46, 47, 48, 49, 50, 51, 52, 53, 54, 55, 56, 57, 58, 59, 60, 61, 62] rfl
  have hDs := (hD.sub (ws' := [0, 1, 2, 3, 4, 5, 6, 23, 15, 16, 17, 18, 19, 20, 21, 22, 7, 8, 9, 10, 11, 12, 13, 14, 24, 25, 26, 27, 28, 29, 30, 31, 32, 33, 34, 35, 36, 37, 38, 39, 40, 41, 42, 43, 44, 45, 46, 47, 48, 49, 50, 51, 52, 53, 54, 55, 56, 57, 58, 59, 60, 61, 62].filterMap (fun i => (wX7 cc f2 h0 q1 q2 q3 q4 q5 q6 q7 q8 q9 q10 q11 q12 q13 q14 q15 q16 q17 q18 q19 q20 q21 q22 q23 q24 q25 q26 q27 q28 q29 q30 q31 q32 q33 q34 q35 q36 q37 q38 q39 q40 q41 q42 q43 q44 q45 q46 q47 q48 ++ wX8 cc f50 q49 q50 q51 q52 q53 q54 q55 q56 q57 q58 q59 q60 q61 q62)[i]?)) [0, 1, 2, 3, 4, 5, 6, 23, 15, 16, 17, 18, 19, 20, 21, 22, 7, 8, 9, 10, 11, 12, 13, 14, 24, 25, 26, 27, 28, 29, 30, 31, 32, 33, 34, 35, 36, 37, 38, 39, 40, 41, 42, 43, 44, 45, 46, 47, 48, 49, 50, 51, 52, 53, 54, 55, 56, 57, 58, 59, 60, 61, 62] (by decide) rfl)
  have hPr := hPs.recell (q0 := 7) (f' := fun j => some (ad (xrf 7 j))) rfl (fun j hj => by rw [had]; rcases (show j = 0 ∨ j = 1 by omega) with rfl | rfl <;> rfl)
  have hDr := hDs.set (p := 7) (e := .inl (cc 3, 2, .inr (.inr (.inr (.inr (fun j => some (ad (xrf 7 j)))))))) rfl
  rw [xws_mi]
  subst had
  exact ⟨hPr, hDr⟩
end START
