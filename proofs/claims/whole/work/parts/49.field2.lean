section FIELD2
variable {g : XG} {l : Launch} {d : Nat} {M : XM}
def zFA (P : Nat) : FA := (P, fun _ => 0, 0, fun _ => (0, 0))
def FrFd (M M' : XM) : Prop := (∀ a b, a ≠ 5 → ¬ (8 ≤ a ∧ a ≤ 23) → ¬ (a = 40 ∧ b = 3) → M'.1 a b = M.1 a b) ∧ M'.2 = M.2 ∧ M'.1 5 1 = 0
def FQc (T : TX) (M : XM) : Option XV → XM → Prop := fun r M' => FrFd M M' ∧ ((∃ p D P, fiP T = .inr (p, D, P) ∧ r = some (xi (nI (dn D))) ∧ CRep M' D (zFA P) ∧ WD D P ∧ M'.1 5 3 = M.1 5 3) ∨ (∃ n s, fiP T = .inl (n, s) ∧ r = some (xi (-1000100 - nI s)) ∧ M'.1 5 3 = nI n ∧ (∀ a b, (8 ≤ a ∧ a ≤ 15) ∨ a = 40 → M'.1 a b = M.1 a b)))
theorem becM_at (M : XM) (c j : Nat) : (becM M 8 16).1 c j = if c = 8 then (if j < 4 then M.1 16 j else M.1 8 j) else if 9 ≤ c ∧ c ≤ 10 then (if j < 8 then M.1 (16 + (c - 8)) j else M.1 c j) else if 11 ≤ c ∧ c ≤ 15 then (if j < 6 then M.1 (16 + (c - 8)) j else M.1 c j) else M.1 c j := rfl
theorem becM_rep {M : XM} {D : FD} {P nx : Nat} (h : DC M D P) (hP : P < 2 ^ 24) (hnx : nx < 24) (hx : M.1 40 2 = nI nx) : CRep (xup (becM M 8 16) 40 3 0) D (zFA P) := by
  obtain ⟨⟨h1, h2, h3, h4, h5, h6, h7, h8, h9, h10, h11, h12, h13⟩, hX, hL⟩ := h
  have e0 : ∀ j, j < 4 → (xup (becM M 8 16) 40 3 0).1 8 j = M.1 16 j := fun j hj => by rw [xup_cell _ _ (by decide), becM_at, if_pos rfl, if_pos hj]
  have e1 : ∀ c j, (c = 9 ∨ c = 10) → j < 8 → (xup (becM M 8 16) 40 3 0).1 c j = M.1 (c + 8) j := fun c j hc hj => by rw [xup_cell _ _ (by omega), becM_at, if_neg (by omega), if_pos (by omega), if_pos hj, show 16 + (c - 8) = c + 8 by omega]
  have e2 : ∀ c j, 11 ≤ c → c ≤ 15 → j < 6 → (xup (becM M 8 16) 40 3 0).1 c j = M.1 (c + 8) j := fun c j hc hc2 hj => by rw [xup_cell _ _ (by omega), becM_at, if_neg (by omega), if_neg (by omega), if_pos (by omega), if_pos hj, show 16 + (c - 8) = c + 8 by omega]
  refine ⟨⟨h1, ⟨(e0 0 (by decide)).trans h2.1, h2.2⟩, ⟨(e0 1 (by decide)).trans h3.1, h3.2⟩, (e0 2 (by decide)).trans h4, fun y hy => (e1 9 y (by decide) hy).trans (h5 y hy), h6, fun y hy => (e1 10 y (by decide) hy).trans (h7 y hy), h8, fun j hj => (e2 11 j (by decide) (by decide) (by omega)).trans (h9 j hj), fun j hj => (e2 12 j (by decide) (by decide) (by omega)).trans (h10 j hj), fun j hj => (e2 13 j (by decide) (by decide) (by omega)).trans (h11 j hj), fun j hj => (e2 14 j (by decide) (by decide) (by omega)).trans (h12 j hj), h13⟩, (e0 3 (by decide)).trans hX, hP, fun j hj => (e2 15 j (by decide) (by decide) (by omega)).trans (hL j hj), ?_⟩
  refine ⟨nx, hnx, ?_, xup_same _ _ _ _, Nat.zero_le _, fun i hi => absurd hi (Nat.not_lt_zero i)⟩
  rw [xup_place _ _ (by decide), becM_at, if_neg (by decide), if_neg (by decide), if_neg (by decide)]
  exact hx
theorem becM_fr {M M1 : XM} (h : FrR M M1) : FrFd M (xup (becM M1 8 16) 40 3 0) := ⟨fun a b q1 q2 q3 => by
  rw [xup_at, if_neg q3, becM_at, if_neg (by omega), if_neg (by omega), if_neg (by omega)]
  exact h.1 a b q1 (by omega), h.2.1, by rw [xup_cell _ _ (by decide), becM_at, if_neg (by decide), if_neg (by decide), if_neg (by decide)]; exact h.2.2⟩
set_option maxRecDepth 20000 in
theorem s_X5_faultPlace  : XC g l mX5_faultPlace d [xr 5] M (XE (some (xi (M.1 5 4))) M) := by
  show XW g l mX5_faultPlace _ 0 [some (xr 5)] [] M _
  refine xw_aload_n dX5_faultPlace_0 rfl ?_
  refine xw_getI dX5_faultPlace_1 fl_X5_29 rfl rfl ?_
  refine xw_ireti dX5_faultPlace_4 rfl ?_
  first | exact ⟨rfl, rfl⟩ | exact ⟨by simp_all, rfl⟩ | grind [XE]
set_option maxRecDepth 20000 in
theorem s_X5_draft  : XC g l mX5_draft d [xr 5] M (XE (some (xr 16)) M) := by
  show XW g l mX5_draft _ 0 [some (xr 5)] [] M _
  refine xw_aload_n dX5_draft_0 rfl ?_
  refine xw_getR dX5_draft_1 fl_X5_22 rfl rfl ?_
  exact xw_aret dX5_draft_4 rfl (Or.inl ⟨_, rfl⟩) ⟨rfl, rfl⟩
set_option maxRecDepth 20000 in
theorem c_field {T : TX} {nx : Nat} (hT : TC M T) (hnx : nx < 24) (hx : M.1 40 2 = nI nx) : XC g l mX7_field (d + 9) [xr 0] M (FQc T M) := by
  show XW g l mX7_field _ 0 [some (xr 0)] [] M _
  refine xw_aload_n dX7_field_0 rfl ?_
  refine xw_getR dX7_field_1 fl_X7_19 rfl rfl ?_
  refine xw_cV0Q dX7_field_4 okX5_readTape ml_X7_108 rfl rfl rfl rfl (s_X5_readTape hT) ?_
  rintro _ M1 ⟨hF, ⟨p, D, PP, hz, rfl, hD, hW, h3⟩ | ⟨n, s, hz, rfl, h3, h4⟩⟩
  · refine xw_if_ne (tgt := 21) dX7_field_7 (by decide) (fun _ => ?_) (fun q9 => absurd q9 (by decide))
    refine xw_aload_n dX7_field_21 rfl ?_
    refine xw_getR dX7_field_22 fl_X7_26 rfl rfl ?_
    refine xw_aload_n dX7_field_25 rfl ?_
    refine xw_getR dX7_field_26 fl_X7_19 rfl rfl ?_
    refine xw_cV0E dX7_field_29 okX5_draft ml_X7_116 rfl rfl rfl rfl (s_X5_draft) ?_
    refine xw_cV1N dX7_field_32 okX1_become ml_X7_120 rfl rfl rfl rfl (s_X1_become xf_8 xf_16 (by omega)) ?_
    refine xw_aload_n dX7_field_35 rfl ?_
    refine xw_getR dX7_field_36 fl_X7_37 rfl rfl ?_
    refine xw_cV0N dX7_field_39 okX3_forgetAll ml_X7_124 rfl rfl rfl rfl (s_X3_forgetAll) ?_
    have hx1 : M1.1 40 2 = nI nx := (hF.1 40 2 (by decide) (by omega)).trans hx
    have hR := becM_rep hD hW.2.1 hnx hx1
    refine xw_aload_n dX7_field_42 rfl ?_
    refine xw_getR dX7_field_43 fl_X7_26 rfl rfl ?_
    refine xw_getV dX7_field_46 fl_X7_127 rfl rfl (hR.1.2.2.2.1) ?_
    refine xw_ireti dX7_field_49 rfl ?_
    exact ⟨becM_fr hF, Or.inl ⟨p, D, PP, hz, rfl, hR, hW, by rw [xup_cell _ _ (by decide), becM_at, if_neg (by decide), if_neg (by decide), if_neg (by decide)]; exact h3⟩⟩
  · refine xw_if_ne (tgt := 21) dX7_field_7 (by decide) (fun q9 => absurd q9 (by decide)) (fun _ => ?_)
    refine xw_ldc dX7_field_10 kc_X7_112 ?_
    refine xw_aload_n dX7_field_12 rfl ?_
    refine xw_getR dX7_field_13 fl_X7_19 rfl rfl ?_
    refine xw_cV0E dX7_field_16 okX5_faultPlace ml_X7_113 rfl rfl rfl rfl (s_X5_faultPlace) ?_
    refine xw_isub dX7_field_19 ?_
    refine xw_ireti dX7_field_20 rfl ?_
    refine ⟨⟨fun a b q1 q2 _ => hF.1 a b q1 (by omega), hF.2.1, hF.2.2⟩, Or.inr ⟨n, s, hz, by rw [h4], h3, fun a b q => hF.1 a b (by omega) (by omega)⟩⟩
def cqM (M : XM) (k : Nat) : XM := (fun a b => if a = 54 ∧ b < k then M.1 55 b else M.1 a b, M.2)
theorem cqM_at (M : XM) (k a b : Nat) : (cqM M k).1 a b = if a = 54 ∧ b < k then M.1 55 b else M.1 a b := rfl
theorem cqM_s (M : XM) (k : Nat) : xup (cqM M k) 54 k ((cqM M k).1 55 k) = cqM M (k + 1) := xm_ext (fun a b => by
  rw [xup_at, cqM_at, cqM_at M (k + 1) a b, cqM_at M k a b]
  by_cases q : a = 54
  · subst q
    by_cases q2 : b = k
    · subst q2; simp
    · rw [if_neg (by omega)]
      by_cases q3 : b < k
      · rw [if_pos ⟨rfl, q3⟩, if_pos (by omega)]
      · rw [if_neg (by omega), if_neg (by omega)]
  · rw [if_neg (by omega), if_neg (by omega), if_neg (by omega)]) (fun _ _ => rfl)
theorem cqM_0 (M : XM) : cqM M 0 = M := xm_ext (fun a b => by rw [cqM_at, if_neg (by omega)]) (fun _ _ => rfl)
def FrGd (M M' : XM) : Prop := (∀ a b, a ≠ 54 → a ≠ 55 → ¬ (a = 49 ∧ (b = 4 ∨ b = 6 ∨ b = 7 ∨ b = 8 ∨ b = 10 ∨ b = 11 ∨ b = 12 ∨ b = 17)) → M'.1 a b = M.1 a b) ∧ (∀ a b, ¬ (a = 49 ∧ b = 9) → M'.2 a b = M.2 a b) ∧ M'.1 49 4 = 0
def FQm (T : TX) (M : XM) : Option XV → XM → Prop := fun r M' => FrGd M M' ∧ ((∃ p D P, fiP T = .inr (p, D, P) ∧ r = some (xi (nI (dn D))) ∧ MRep M' D (zFA P) ∧ WD D P ∧ M'.1 54 0 = 1 ∧ M'.1 49 11 = M.1 49 11) ∨ (∃ n s, fiP T = .inl (n, s) ∧ r = some (xi (-1000100 - nI s)) ∧ M'.1 49 11 = nI n ∧ (∀ b, M'.1 54 b = M.1 54 b) ∧ M'.1 49 17 = M.1 49 17))
theorem cp_rep {M : XM} {D : FD} {P : Nat} {x : Int32} (h : DM M D P) : MRep (xup (cqM (xup M 49 4 x) 168) 49 17 0) D (zFA P) ∧ (xup (cqM (xup M 49 4 x) 168) 49 17 0).1 54 0 = 1 := by
  obtain ⟨⟨h1, h2, h3, h4, h5, h6, h7, h8, h9, h10⟩, hX, hL, hO⟩ := h
  have e : ∀ j, j < 168 → (xup (cqM (xup M 49 4 x) 168) 49 17 0).1 54 j = M.1 55 j := fun j hj => by rw [xup_cell _ _ (by decide), cqM_at, if_pos ⟨rfl, hj⟩, xup_cell _ _ (by decide)]
  refine ⟨⟨⟨h1, ⟨(e 1 (by decide)).trans h2.1, h2.2⟩, ⟨(e 2 (by decide)).trans h3.1, h3.2⟩, (e 3 (by decide)).trans h4, fun x y hx hy => (e _ (by omega)).trans (h5 x y hx hy), fun j hj => (e _ (by omega)).trans (h6 j hj), fun j hj => (e _ (by omega)).trans (h7 j hj), fun j hj => (e _ (by omega)).trans (h8 j hj), fun j hj => (e _ (by omega)).trans (h9 j hj), h10⟩, fun j hj => (e _ (by omega)).trans (hX j hj), fun j hj => (e _ (by omega)).trans (hL j hj), ⟨xup_same _ _ _ _, Nat.zero_le _, fun i hi => absurd hi (Nat.not_lt_zero i)⟩⟩, (e 0 (by decide)).trans hO⟩
set_option maxRecDepth 20000 in
theorem lp_X8_field {x1 : Int32} {Q : Option XV → XM → Prop} (K : ∀ v2, XW g l mX8_field (d + 6) 57 [some (xr 49), some (xi x1), v2] [] (cqM M 168) Q) : ∀ (q k : Nat), k + q = 168 → XW g l mX8_field (d + 6) 32 [some (xr 49), some (xi x1), some (xi (nI k))] [] (cqM M k) Q := by
  intro q
  induction q with
  | zero =>
    intro k hk
    have hk : k = 168 := by omega
    subst hk
    refine xw_iload_n dX8_field_32 rfl ?_
    refine xw_sipush (v := 168) dX8_field_33 (by decide) ?_
    refine xw_icmp_geN (b := 168) (tgt := 57) dX8_field_36 (by decide) (by omega) (fun c36 => ?_) (fun c36 => ?_)
    · exact K _
    · exfalso; omega
  | succ q ih =>
    intro k hk
    have ih2 := ih (k + 1) (by omega)
    rw [← cqM_s] at ih2
    refine xw_iload_n dX8_field_32 rfl ?_
    refine xw_sipush (v := 168) dX8_field_33 (by decide) ?_
    refine xw_icmp_geN (b := 168) (tgt := 57) dX8_field_36 (by decide) (by omega) (fun c36 => ?_) (fun c36 => ?_)
    · exfalso; omega
    · refine xw_aload_n dX8_field_39 rfl ?_
      refine xw_getR dX8_field_40 fl_X8_22 rfl rfl ?_
      refine xw_iload_n dX8_field_43 rfl ?_
      refine xw_aload_n dX8_field_44 rfl ?_
      refine xw_getR dX8_field_45 fl_X8_25 rfl rfl ?_
      refine xw_iload_n dX8_field_48 rfl ?_
      refine xw_ialN _ dX8_field_49 rfl (rfl) (rfl) rfl ?_ ?_
      · omega
      refine xw_iasN _ dX8_field_50 rfl (rfl) rfl ?_ ?_
      · omega
      refine xw_iincN (v := 1) dX8_field_51 (by decide) rfl rfl rfl ?_
      refine xw_goto (tgt := 32) dX8_field_54 (by decide) ?_
      exact ih2
set_option maxRecDepth 20000 in
theorem m_field {T : TX} (hT : TM M T) : XC g l mX8_field (d + 6) [xr 49] M (FQm T M) := by
  show XW g l mX8_field _ 0 [some (xr 49), none, none] [] M _
  refine xw_aload_n dX8_field_0 rfl ?_
  refine xw_cV0Q dX8_field_1 okX8_isField ml_X8_174 rfl rfl rfl rfl (s_X8_isField hT) ?_
  rintro _ M1 ⟨hF, ⟨rfl, p, D, PP, hz, hD, hW⟩ | ⟨rfl, n, s, hz, h3, h4⟩⟩
  · refine xw_istore_n dX8_field_4 rfl rfl ?_
    refine xw_aload_n dX8_field_5 rfl ?_
    refine xw_iconst (v := 0) dX8_field_6 (by decide) ?_
    refine xw_putI dX8_field_7 fp_X8_75 rfl rfl ?_
    refine xw_iload_n dX8_field_10 rfl ?_
    refine xw_if_ne (tgt := 30) dX8_field_11 (by decide) (fun _ => ?_) (fun q9 => absurd q9 (by decide))
    refine xw_iconst (v := 0) dX8_field_30 (by decide) ?_
    refine xw_istore_n dX8_field_31 rfl rfl ?_
    have hR := cp_rep (x := 0) hD
    have g0 := lp_X8_field (g := g) (l := l) (d := d) (M := xup M1 49 4 0) (x1 := 1) (Q := FQm T M) (fun v2 => ?_) 168 0 (by omega)
    · rw [cqM_0] at g0; exact g0
    refine xw_aload_n dX8_field_57 rfl ?_
    refine xw_iconst (v := 0) dX8_field_58 (by decide) ?_
    refine xw_putI dX8_field_59 fp_X8_181 rfl rfl ?_
    refine xw_aload_n dX8_field_62 rfl ?_
    refine xw_getR dX8_field_63 fl_X8_22 rfl rfl ?_
    refine xw_iconst (v := 3) dX8_field_66 (by decide) ?_
    refine xw_ialN 3 dX8_field_67 rfl (rfl) (hR.1.1.2.2.2.1) rfl ?_ ?_
    · omega
    refine xw_ireti dX8_field_68 rfl ?_
    refine ⟨⟨fun a b q1 q2 q3 => ?_, fun a b q => hF.2 a b q, ?_⟩, Or.inl ⟨p, D, PP, hz, rfl, hR.1, hW, hR.2, ?_⟩⟩
    · rw [xup_at, if_neg (by omega), cqM_at, if_neg (by omega), xup_at, if_neg (by omega)]; exact hF.1 a b q2 (by omega)
    · rw [xup_place _ _ (by decide), cqM_at, if_neg (by omega), xup_same]
    · rw [xup_place _ _ (by decide), cqM_at, if_neg (by omega), xup_place _ _ (by decide)]; exact hF.1 49 11 (by decide) (by omega)
  · refine xw_istore_n dX8_field_4 rfl rfl ?_
    refine xw_aload_n dX8_field_5 rfl ?_
    refine xw_iconst (v := 0) dX8_field_6 (by decide) ?_
    refine xw_putI dX8_field_7 fp_X8_75 rfl rfl ?_
    refine xw_iload_n dX8_field_10 rfl ?_
    refine xw_if_ne (tgt := 30) dX8_field_11 (by decide) (fun q9 => absurd q9 (by decide)) (fun _ => ?_)
    refine xw_aload_n dX8_field_14 rfl ?_
    refine xw_aload_n dX8_field_15 rfl ?_
    refine xw_getI dX8_field_16 fl_X8_107 rfl rfl ?_
    refine xw_putI dX8_field_19 fp_X8_177 rfl rfl ?_
    refine xw_ldc dX8_field_22 kc_X8_180 ?_
    refine xw_aload_n dX8_field_24 rfl ?_
    refine xw_getI dX8_field_25 fl_X8_88 rfl rfl ?_
    refine xw_isub dX8_field_28 ?_
    refine xw_ireti dX8_field_29 rfl ?_
    have e12 : (xup M1 49 4 0).1 49 12 = nI n := (xup_place _ _ (by decide)).trans h3
    have e7 : (xup (xup M1 49 4 0) 49 11 ((xup M1 49 4 0).1 49 12)).1 49 7 = nI s := (xup_place _ _ (by decide)).trans ((xup_place _ _ (by decide)).trans h4)
    refine ⟨⟨fun a b q1 q2 q3 => by rw [xup_at, if_neg (by omega), xup_at, if_neg (by omega)]; exact hF.1 a b q2 (by omega), fun a b q => hF.2 a b q, by rw [xup_place _ _ (by decide), xup_same]⟩, Or.inr ⟨n, s, hz, by rw [e7], by rw [xup_same]; exact e12, fun b => ?_, ?_⟩⟩
    · rw [xup_cell _ _ (by decide), xup_cell _ _ (by decide)]; exact hF.1 54 b (by decide) (by omega)
    · rw [xup_place _ _ (by decide), xup_place _ _ (by decide)]; exact hF.1 49 17 (by decide) (by omega)
end FIELD2
