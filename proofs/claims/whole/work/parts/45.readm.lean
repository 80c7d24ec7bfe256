section READM
variable {g : XG} {l : Launch} {d : Nat} {M : XM}
def FrW (M M' : XM) : Prop := (∀ a b, a ≠ 55 → ¬ (a = 49 ∧ (b = 6 ∨ b = 7 ∨ b = 8 ∨ b = 10 ∨ b = 12)) → M'.1 a b = M.1 a b) ∧ ∀ a b, ¬ (a = 49 ∧ b = 9) → M'.2 a b = M.2 a b
theorem FrW.rf (M : XM) : FrW M M := ⟨fun _ _ _ _ => rfl, fun _ _ _ => rfl⟩
theorem FrW.tr {M M1 M2 : XM} (h : FrW M M1) (h2 : FrW M1 M2) : FrW M M2 := ⟨fun a b q1 q2 => (h2.1 a b q1 q2).trans (h.1 a b q1 q2), fun a b q => (h2.2 a b q).trans (h.2 a b q)⟩
theorem FrW.ft {M M1 M2 : XM} (h : FrW M M1) (h2 : FrT M1 M2) : FrW M M2 := ⟨fun a b q1 q2 => (h2.1 a b (by omega)).trans (h.1 a b q1 q2), fun a b q => (h2.2 a b q).trans (h.2 a b q)⟩
theorem FrW.u55 {M M1 : XM} {j : Nat} {x : Int32} (h : FrW M M1) : FrW M (xup M1 55 j x) := ⟨fun a b q1 q2 => (xup_cell _ _ q1).trans (h.1 a b q1 q2), h.2⟩
theorem FrW.u12 {M M1 : XM} {x : Int32} (h : FrW M M1) : FrW M (xup M1 49 12 x) := ⟨fun a b q1 q2 => by rw [xup_at, if_neg (by omega)]; exact h.1 a b q1 q2, h.2⟩
theorem FrW.fl {M M1 M2 : XM} {n s : Nat} (h : FrW M M1) (h2 : FlM M1 M2 n s) : FrW M M2 := ⟨fun a b q1 q2 => by
  have e := h2.2.2.1 a b (by omega)
  rw [xup_at, if_neg (by omega)] at e
  exact e.trans (h.1 a b q1 q2), fun a b q => (h2.2.2.2 a b q).trans (h.2 a b q)⟩
theorem TM.frW {M M' : XM} {T : TX} (h : TM M T) (hF : FrW M M') : TM M' T := ⟨(hF.1 49 4 (by decide) (by omega)).trans h.1, h.2.1, fun i hi => ⟨(hF.1 53 i (by decide) (by omega)).trans (h.2.2 i hi).1, (h.2.2 i hi).2⟩⟩
theorem FMS.frT {M M' : XM} {D : FD} (h : FMS M 55 D) (hF : FrT M M') : FMS M' 55 D := h.keep2 (fun b _ _ => hF.1 55 b (by omega))
theorem DM.frT {M M' : XM} {D : FD} {P : Nat} (h : DM M D P) (hF : FrT M M') : DM M' D P := ⟨h.1.frT hF, fun j hj => (hF.1 _ _ (by omega)).trans (h.2.1 j hj), fun j hj => (hF.1 _ _ (by omega)).trans (h.2.2.1 j hj), (hF.1 _ _ (by omega)).trans h.2.2.2⟩
def PQm (T : TX) (Z : PR (Nat × DP)) (M : XM) : Option XV → XM → Prop := fun r M' => (r = some (xi 1) ∧ ∃ p D P, Z = .inr (p, D, P) ∧ DM M' D P ∧ WD D P ∧ M'.1 49 6 = nI p ∧ p ≤ T.2 ∧ FrW M M') ∨ (r = some (xi 0) ∧ ∃ n s, Z = .inl (n, s) ∧ M'.1 49 12 = nI n ∧ M'.1 49 7 = nI s ∧ FrW M M')
theorem PQm.bad {T : TX} {Z : PR (Nat × DP)} {M M1 M2 : XM} {n s : Nat} (h : Z = .inl (n, s)) (hF : FrW M M1) (hf : FlM M1 M2 n s) : PQm T Z M (some (xi 0)) M2 := Or.inr ⟨rfl, n, s, h, hf.1, hf.2.1, hF.fl hf⟩
theorem PQm.fail {T : TX} {Z : PR (Nat × DP)} {M M1 : XM} {n s : Nat} (h : Z = .inl (n, s)) (hF : FrW M M1) (hS : M1.1 49 7 = nI s) : PQm T Z M (some (xi 0)) (xup M1 49 12 (nI n)) := PQm.bad h hF (FlM.of (FrT.rf _) hS)
theorem DM_F {M M' : XM} {t r : Nat} (h : DM M d0 0) (ht : t < 256) (hr : r ≤ 15) (h0 : M'.1 55 1 = nI t) (h1 : M'.1 55 2 = nI r) (he : ∀ b, ¬ (b = 1 ∨ b = 2) → M'.1 55 b = M.1 55 b) : DM M' (adF d0 t r) 0 := by
  obtain ⟨⟨g1, g2, g3, g4, g5, g6, g7, g8, g9, g10⟩, hX, hL, hO⟩ := h
  have hz : ∀ h, ¬ h < dn (adF d0 t r) := fun h => Nat.not_lt_zero h
  exact ⟨⟨show 0 ≤ 6 by decide, ⟨h0, ht⟩, ⟨h1, hr⟩, (he _ (by omega)).trans g4, fun x y hx hy => (he _ (by omega)).trans (g5 x y hx hy), fun h q => absurd q (hz h), fun h q => absurd q (hz h), fun h q => absurd q (hz h), fun h q => absurd q (hz h), fun h q => absurd q (hz h)⟩, fun j hj => (he _ (by omega)).trans (hX j hj), fun h q => absurd q (hz h), (he _ (by omega)).trans hO⟩
theorem DM_W {M : XM} {D : FD} {P x y : Nat} (h : DM M D P) (hx : x < 16) (hy : y < 8) : DM (xup M 55 (40 + x + 16 * y) (M.1 55 (40 + x + 16 * y) ||| 1)) (adW D x y) P := ⟨FMS_W h.1 hx hy, fun j hj => (xup_place _ _ (by omega)).trans (h.2.1 j hj), fun j hj => (xup_place _ _ (by have := h.1.1; have : j < dn D := hj; omega)).trans (h.2.2.1 j hj), (xup_place _ _ (by omega)).trans h.2.2.2⟩
theorem DM_P {M : XM} {D : FD} {P y f k : Nat} (h : DM M (adP D y f k) P) (hf : f ≤ k) (hk : k < 16) (hy : y < 8) : DM (xup M 55 (40 + k + 16 * y) (M.1 55 (40 + k + 16 * y) ||| 2)) (adP D y f (k + 1)) P := ⟨FMS_P h.1 hf hk hy, fun j hj => (xup_place _ _ (by omega)).trans (h.2.1 j hj), fun j hj => (xup_place _ _ (by have : dn D ≤ 6 := h.1.1; have : j < dn D := hj; omega)).trans (h.2.2.1 j hj), (xup_place _ _ (by omega)).trans h.2.2.2⟩
theorem adP_0 (D : FD) (y f : Nat) : adP D y f f = D := by
  funext a b
  unfold adP du
  rw [Nat.sub_self, Nat.or_zero]
  by_cases h : a = 6 ∧ b = y
  · rw [if_pos h, h.1, h.2]; rfl
  · rw [if_neg h]
set_option maxRecDepth 20000 in
theorem s_X8_isFacts {T : TX} {p : Nat} (hT : TM M T) (hE : M.1 49 6 = nI p) (hp : p ≤ T.2) (hD : DM M d0 0) : XC g l mX8_isFacts (d + 3) [xr 49] M (PQm T (facP T p) M) := by
  show XW g l mX8_isFacts _ 0 [some (xr 49)] [] M _
  refine xw_aload_n dX8_isFacts_0 rfl ?_
  refine xw_cV0Q dX8_isFacts_1 okX8_nextToken ml_X8_110 rfl rfl rfl rfl (s_X8_nextToken hT hE hp) ?_
  rintro _ M0 ⟨rfl, hF0, hk0⟩
  have hT0 := hT.fr hF0
  have hE0 := tkE_le hp
  refine xw_aload_n dX8_isFacts_4 rfl ?_
  refine xw_ldc2 dX8_isFacts_5 kc_X8_116 ?_
  refine xw_cV1B dX8_isFacts_8 okX8_isName ml_X8_118 rfl rfl rfl rfl (s_X8_isName (i := 0) (by decide) hk0 rfl) (fun p8 => ?_) (fun p8 => ?_)
  · refine xw_if_ne (tgt := 20) dX8_isFacts_11 (by decide) (fun _ => ?_) (fun q9 => absurd q9 (by decide))
    refine xw_aload_n dX8_isFacts_20 rfl ?_
    refine xw_iconst (v := 0) dX8_isFacts_21 (by decide) ?_
    refine xw_sipush (v := 255) dX8_isFacts_22 (by decide) ?_
    refine xw_cV2Q dX8_isFacts_25 okX8_isNumber ml_X8_122 rfl rfl rfl rfl (s_X8_isNumber (lo := 0) (hi := 255) hT0 hk0.1 hE0.2.1 (by decide) (by decide)) ?_
    rintro _ M1 (⟨rfl, v1, hn1, hv1, hb1, hF1, hk1⟩ | ⟨rfl, n9, s9, hn1, hf1⟩)
    · refine xw_if_ne (tgt := 33) dX8_isFacts_28 (by decide) (fun _ => ?_) (fun q9 => absurd q9 (by decide))
      refine xw_aload_n dX8_isFacts_33 rfl ?_
      refine xw_getR dX8_isFacts_34 fl_X8_25 rfl rfl ?_
      refine xw_iconst (v := 1) dX8_isFacts_37 (by decide) ?_
      refine xw_aload_n dX8_isFacts_38 rfl ?_
      refine xw_getV dX8_isFacts_39 fl_X8_104 rfl rfl (hv1) ?_
      refine xw_iasN 1 dX8_isFacts_42 rfl (rfl) rfl ?_ ?_
      · omega
      have hE1 := tkE_le hE0.2.1
      have hT1 := hT0.fr hF1
      refine xw_aload_n dX8_isFacts_43 rfl ?_
      refine xw_bipush (v := 8) dX8_isFacts_44 (by decide) ?_
      refine xw_bipush (v := 15) dX8_isFacts_46 (by decide) ?_
      refine xw_cV2Q dX8_isFacts_48 okX8_isNumber ml_X8_122 rfl rfl rfl rfl (s_X8_isNumber (lo := 8) (hi := 15) (hT1.frW (FrW.rf _).u55) ((xup_cell _ _ (by decide)).trans hk1.1) hE1.2.1 (by decide) (by decide)) ?_
      rintro _ M2 (⟨rfl, v2, hn2, hv2, hb2, hF2, hk2⟩ | ⟨rfl, n9, s9, hn2, hf2⟩)
      · refine xw_if_ne (tgt := 56) dX8_isFacts_51 (by decide) (fun _ => ?_) (fun q9 => absurd q9 (by decide))
        refine xw_aload_n dX8_isFacts_56 rfl ?_
        refine xw_getR dX8_isFacts_57 fl_X8_25 rfl rfl ?_
        refine xw_iconst (v := 2) dX8_isFacts_60 (by decide) ?_
        refine xw_aload_n dX8_isFacts_61 rfl ?_
        refine xw_getV dX8_isFacts_62 fl_X8_104 rfl rfl (hv2) ?_
        refine xw_iasN 2 dX8_isFacts_65 rfl (rfl) rfl ?_ ?_
        · omega
        have hE2 := tkE_le hE1.2.1
        have hT2 := (hT1.frW (FrW.rf _).u55).fr hF2
        refine xw_aload_n dX8_isFacts_66 rfl ?_
        refine xw_cV0Q dX8_isFacts_67 okX8_isEnd ml_X8_126 rfl rfl rfl rfl (s_X8_isEnd (hT2.frW (FrW.rf _).u55) ((xup_cell _ _ (by decide)).trans hk2.1) hE2.2.1) ?_
        rintro _ M3 (⟨rfl, q3, hn3, hF3, hk3, hq3⟩ | ⟨rfl, n9, s9, hn3, hf3⟩)
        · refine xw_iretz dX8_isFacts_70 rfl (Or.inr rfl) ?_
          refine Or.inl ⟨rfl, q3, adF d0 v1 v2, 0, by simp only [facP_go p8, pb, hn1, hn2, hn3]; rfl, ?_, WD_0 v1 v2, hk3, hq3, ((((((FrW.rf M).ft hF0).ft hF1).u55).ft hF2).u55).ft hF3⟩
          refine DM_F hD (by omega) (by omega) ?_ ?_ (fun b z3 => ?_)
          · rw [hF3.1 55 1 (by omega), xup_place _ _ (by decide), hF2.1 55 1 (by omega), xup_same]
          · rw [hF3.1 55 2 (by omega), xup_same]
          · rw [hF3.1 55 b (by omega), xup_place _ _ (by omega), hF2.1 55 b (by omega), xup_place _ _ (by omega), hF1.1 55 b (by omega), hF0.1 55 b (by omega)]
        · refine xw_iretz dX8_isFacts_70 rfl (Or.inl rfl) ?_
          exact PQm.bad (by simp only [facP_go p8, pb, hn1, hn2, hn3]) ((((((FrW.rf M).ft hF0).ft hF1).u55).ft hF2).u55) hf3
      · refine xw_if_ne (tgt := 56) dX8_isFacts_51 (by decide) (fun q9 => absurd q9 (by decide)) (fun _ => ?_)
        refine xw_iconst (v := 0) dX8_isFacts_54 (by decide) ?_
        refine xw_iretz dX8_isFacts_55 rfl (Or.inl rfl) ?_
        exact PQm.bad (by simp only [facP_go p8, pb, hn1, hn2]) ((((FrW.rf M).ft hF0).ft hF1).u55) hf2
    · refine xw_if_ne (tgt := 33) dX8_isFacts_28 (by decide) (fun q9 => absurd q9 (by decide)) (fun _ => ?_)
      refine xw_iconst (v := 0) dX8_isFacts_31 (by decide) ?_
      refine xw_iretz dX8_isFacts_32 rfl (Or.inl rfl) ?_
      exact PQm.bad (by simp only [facP_go p8, pb, hn1]) ((FrW.rf M).ft hF0) hf1
  · refine xw_if_ne (tgt := 20) dX8_isFacts_11 (by decide) (fun q9 => absurd q9 (by decide)) (fun _ => ?_)
    refine xw_aload_n dX8_isFacts_14 rfl ?_
    refine xw_iconst (v := 1) dX8_isFacts_15 (by decide) ?_
    refine xw_cV1E dX8_isFacts_16 okX8_fails ml_X8_113 rfl rfl rfl rfl (s_X8_fails) ?_
    refine xw_iretz dX8_isFacts_19 rfl (Or.inl rfl) ?_
    exact PQm.fail (n := 1) (facP_no p8) ((FrW.rf M).ft hF0) hk0.2.1
set_option maxRecDepth 20000 in
theorem s_X8_isWall {T : TX} {p : Nat} (hT : TM M T) (hE : M.1 49 6 = nI p) (hp : p ≤ T.2) {PP : Nat} {D : FD} (hD : DM M D PP) (hW : WD D PP)  : XC g l mX8_isWall (d + 3) [xr 49] M (PQm T (walP T p (D, PP)) M) := by
  show XW g l mX8_isWall _ 0 [some (xr 49), none, none] [] M _
  refine xw_aload_n dX8_isWall_0 rfl ?_
  refine xw_iconst (v := 0) dX8_isWall_1 (by decide) ?_
  refine xw_bipush (v := 15) dX8_isWall_2 (by decide) ?_
  refine xw_cV2Q dX8_isWall_4 okX8_isNumber ml_X8_122 rfl rfl rfl rfl (s_X8_isNumber (lo := 0) (hi := 15) hT hE hp (by decide) (by decide)) ?_
  rintro _ M1 (⟨rfl, v1, hn1, hv1, hb1, hF1, hk1⟩ | ⟨rfl, n9, s9, hn1, hf1⟩)
  · refine xw_if_ne (tgt := 12) dX8_isWall_7 (by decide) (fun _ => ?_) (fun q9 => absurd q9 (by decide))
    refine xw_aload_n dX8_isWall_12 rfl ?_
    refine xw_getV dX8_isWall_13 fl_X8_104 rfl rfl (hv1) ?_
    refine xw_istore_n dX8_isWall_16 rfl rfl ?_
    have hE1 := tkE_le hp
    have hT1 := hT.fr hF1
    refine xw_aload_n dX8_isWall_17 rfl ?_
    refine xw_iconst (v := 0) dX8_isWall_18 (by decide) ?_
    refine xw_bipush (v := 7) dX8_isWall_19 (by decide) ?_
    refine xw_cV2Q dX8_isWall_21 okX8_isNumber ml_X8_122 rfl rfl rfl rfl (s_X8_isNumber (lo := 0) (hi := 7) hT1 hk1.1 hE1.2.1 (by decide) (by decide)) ?_
    rintro _ M2 (⟨rfl, v2, hn2, hv2, hb2, hF2, hk2⟩ | ⟨rfl, n9, s9, hn2, hf2⟩)
    · refine xw_if_ne (tgt := 29) dX8_isWall_24 (by decide) (fun _ => ?_) (fun q9 => absurd q9 (by decide))
      have hE2 := tkE_le hE1.2.1
      have hT2 := hT1.fr hF2
      refine xw_bipush (v := 40) dX8_isWall_29 (by decide) ?_
      refine xw_iload_n dX8_isWall_31 rfl ?_
      refine xw_iaddN (a := 40) dX8_isWall_32 ?_
      refine xw_bipush (v := 16) dX8_isWall_33 (by decide) ?_
      refine xw_aload_n dX8_isWall_35 rfl ?_
      refine xw_getV dX8_isWall_36 fl_X8_104 rfl rfl (hv2) ?_
      refine xw_imulN (a := 16) dX8_isWall_39 ?_
      refine xw_iaddN dX8_isWall_40 ?_
      refine xw_istore_n dX8_isWall_41 rfl rfl ?_
      refine xw_aload_n dX8_isWall_42 rfl ?_
      refine xw_getR dX8_isWall_43 fl_X8_25 rfl rfl ?_
      refine xw_iload_n dX8_isWall_46 rfl ?_
      refine xw_aload_n dX8_isWall_47 rfl ?_
      refine xw_getR dX8_isWall_48 fl_X8_25 rfl rfl ?_
      refine xw_iload_n dX8_isWall_51 rfl ?_
      refine xw_ialN _ dX8_isWall_52 rfl (rfl) (rfl) rfl ?_ ?_
      · omega
      refine xw_iconst (v := 1) dX8_isWall_53 (by decide) ?_
      refine xw_ior dX8_isWall_54 ?_
      refine xw_iasN _ dX8_isWall_55 rfl (rfl) rfl ?_ ?_
      · omega
      have hDW := DM_W (x := v1) (y := v2) ((hD.frT hF1).frT hF2) (by omega) (by omega)
      refine xw_aload_n dX8_isWall_56 rfl ?_
      refine xw_cV0Q dX8_isWall_57 okX8_isEnd ml_X8_126 rfl rfl rfl rfl (s_X8_isEnd (hT2.frW (FrW.rf _).u55) ((xup_cell _ _ (by decide)).trans hk2.1) hE2.2.1) ?_
      rintro _ M3 (⟨rfl, q3, hn3, hF3, hk3, hq3⟩ | ⟨rfl, n9, s9, hn3, hf3⟩)
      · refine xw_iretz dX8_isWall_60 rfl (Or.inr rfl) ?_
        exact Or.inl ⟨rfl, q3, adW D v1 v2, PP, by simp only [walP, pb, hn1, hn2, hn3], hDW.frT hF3, WD_W hW, hk3, hq3, ((((FrW.rf M).ft hF1).ft hF2).u55).ft hF3⟩
      · refine xw_iretz dX8_isWall_60 rfl (Or.inl rfl) ?_
        exact PQm.bad (by simp only [walP, pb, hn1, hn2, hn3]) ((((FrW.rf M).ft hF1).ft hF2).u55) hf3
    · refine xw_if_ne (tgt := 29) dX8_isWall_24 (by decide) (fun q9 => absurd q9 (by decide)) (fun _ => ?_)
      refine xw_iconst (v := 0) dX8_isWall_27 (by decide) ?_
      refine xw_iretz dX8_isWall_28 rfl (Or.inl rfl) ?_
      exact PQm.bad (by simp only [walP, pb, hn1, hn2]) ((FrW.rf M).ft hF1) hf2
  · refine xw_if_ne (tgt := 12) dX8_isWall_7 (by decide) (fun q9 => absurd q9 (by decide)) (fun _ => ?_)
    refine xw_iconst (v := 0) dX8_isWall_10 (by decide) ?_
    refine xw_iretz dX8_isWall_11 rfl (Or.inl rfl) ?_
    exact PQm.bad (by simp only [walP, pb, hn1]) (FrW.rf M) hf1
set_option maxRecDepth 20000 in
theorem lp_X8_isPath {D : FD} {PP y f t : Nat} {Q : Option XV → XM → Prop} (hf : f ≤ t) (ht : t ≤ 15) (hy : y ≤ 7) (hN : M.1 49 10 = nI t) (K : ∀ M2 v3, DM M2 (adP D y f (t + 1)) PP → (∀ a b, a ≠ 55 → M2.1 a b = M.1 a b) → M2.2 = M.2 → XW g l mX8_isPath (d + 3) 92 [some (xr 49), some (xi (nI y)), some (xi (nI f)), v3] [] M2 Q) : ∀ (q k : Nat) (M1 : XM), k + q = t + 1 → f ≤ k → DM M1 (adP D y f k) PP → (∀ a b, a ≠ 55 → M1.1 a b = M.1 a b) → M1.2 = M.2 → XW g l mX8_isPath (d + 3) 48 [some (xr 49), some (xi (nI y)), some (xi (nI f)), some (xi (nI k))] [] M1 Q := by
  intro q
  induction q with
  | zero =>
    intro k M1 hk hfk hD hF1 hF2
    have hk : k = t + 1 := by omega
    subst hk
    have hN1 : M1.1 49 10 = nI t := (hF1 _ _ (by decide)).trans hN
    refine xw_iload_n dX8_isPath_48 rfl ?_
    refine xw_aload_n dX8_isPath_49 rfl ?_
    refine xw_getV dX8_isPath_50 fl_X8_104 rfl rfl (hN1) ?_
    refine xw_icmp_gtN (tgt := 92) dX8_isPath_53 (by decide) (by omega) (fun c53 => ?_) (fun c53 => ?_)
    · exact K M1 _ hD hF1 hF2
    · exfalso; omega
  | succ q ih =>
    intro k M1 hk hfk hD hF1 hF2
    have hN1 : M1.1 49 10 = nI t := (hF1 _ _ (by decide)).trans hN
    refine xw_iload_n dX8_isPath_48 rfl ?_
    refine xw_aload_n dX8_isPath_49 rfl ?_
    refine xw_getV dX8_isPath_50 fl_X8_104 rfl rfl (hN1) ?_
    refine xw_icmp_gtN (tgt := 92) dX8_isPath_53 (by decide) (by omega) (fun c53 => ?_) (fun c53 => ?_)
    · exfalso; omega
    · refine xw_aload_n dX8_isPath_56 rfl ?_
      refine xw_getR dX8_isPath_57 fl_X8_25 rfl rfl ?_
      refine xw_bipush (v := 40) dX8_isPath_60 (by decide) ?_
      refine xw_iload_n dX8_isPath_62 rfl ?_
      refine xw_iaddN (a := 40) dX8_isPath_63 ?_
      refine xw_bipush (v := 16) dX8_isPath_64 (by decide) ?_
      refine xw_iload_n dX8_isPath_66 rfl ?_
      refine xw_imulN (a := 16) dX8_isPath_67 ?_
      refine xw_iaddN dX8_isPath_68 ?_
      refine xw_aload_n dX8_isPath_69 rfl ?_
      refine xw_getR dX8_isPath_70 fl_X8_25 rfl rfl ?_
      refine xw_bipush (v := 40) dX8_isPath_73 (by decide) ?_
      refine xw_iload_n dX8_isPath_75 rfl ?_
      refine xw_iaddN (a := 40) dX8_isPath_76 ?_
      refine xw_bipush (v := 16) dX8_isPath_77 (by decide) ?_
      refine xw_iload_n dX8_isPath_79 rfl ?_
      refine xw_imulN (a := 16) dX8_isPath_80 ?_
      refine xw_iaddN dX8_isPath_81 ?_
      refine xw_ialN _ dX8_isPath_82 rfl (rfl) (rfl) rfl ?_ ?_
      · omega
      refine xw_iconst (v := 2) dX8_isPath_83 (by decide) ?_
      refine xw_ior dX8_isPath_84 ?_
      refine xw_iasN _ dX8_isPath_85 rfl (rfl) rfl ?_ ?_
      · omega
      refine xw_iincN (v := 1) dX8_isPath_86 (by decide) rfl rfl rfl ?_
      refine xw_goto (tgt := 48) dX8_isPath_89 (by decide) ?_
      exact ih (k + 1) _ (by omega) (by omega) (DM_P hD hfk (by omega) (by omega)) (fun a b z => (xup_cell _ _ z).trans (hF1 a b z)) hF2
set_option maxRecDepth 20000 in
theorem s_X8_isPath {T : TX} {p : Nat} (hT : TM M T) (hE : M.1 49 6 = nI p) (hp : p ≤ T.2) {PP : Nat} {D : FD} (hD : DM M D PP) (hW : WD D PP)  : XC g l mX8_isPath (d + 3) [xr 49] M (PQm T (patP T p (D, PP)) M) := by
  show XW g l mX8_isPath _ 0 [some (xr 49), none, none, none] [] M _
  refine xw_aload_n dX8_isPath_0 rfl ?_
  refine xw_iconst (v := 0) dX8_isPath_1 (by decide) ?_
  refine xw_bipush (v := 7) dX8_isPath_2 (by decide) ?_
  refine xw_cV2Q dX8_isPath_4 okX8_isNumber ml_X8_122 rfl rfl rfl rfl (s_X8_isNumber (lo := 0) (hi := 7) hT hE hp (by decide) (by decide)) ?_
  rintro _ M1 (⟨rfl, v1, hn1, hv1, hb1, hF1, hk1⟩ | ⟨rfl, n9, s9, hn1, hf1⟩)
  · refine xw_if_ne (tgt := 12) dX8_isPath_7 (by decide) (fun _ => ?_) (fun q9 => absurd q9 (by decide))
    refine xw_aload_n dX8_isPath_12 rfl ?_
    refine xw_getV dX8_isPath_13 fl_X8_104 rfl rfl (hv1) ?_
    refine xw_istore_n dX8_isPath_16 rfl rfl ?_
    have hE1 := tkE_le hp
    have hT1 := hT.fr hF1
    refine xw_aload_n dX8_isPath_17 rfl ?_
    refine xw_iconst (v := 0) dX8_isPath_18 (by decide) ?_
    refine xw_bipush (v := 15) dX8_isPath_19 (by decide) ?_
    refine xw_cV2Q dX8_isPath_21 okX8_isNumber ml_X8_122 rfl rfl rfl rfl (s_X8_isNumber (lo := 0) (hi := 15) hT1 hk1.1 hE1.2.1 (by decide) (by decide)) ?_
    rintro _ M2 (⟨rfl, v2, hn2, hv2, hb2, hF2, hk2⟩ | ⟨rfl, n9, s9, hn2, hf2⟩)
    · refine xw_if_ne (tgt := 29) dX8_isPath_24 (by decide) (fun _ => ?_) (fun q9 => absurd q9 (by decide))
      refine xw_aload_n dX8_isPath_29 rfl ?_
      refine xw_getV dX8_isPath_30 fl_X8_104 rfl rfl (hv2) ?_
      refine xw_istore_n dX8_isPath_33 rfl rfl ?_
      have hE2 := tkE_le hE1.2.1
      have hT2 := hT1.fr hF2
      refine xw_aload_n dX8_isPath_34 rfl ?_
      refine xw_iload_n dX8_isPath_35 rfl ?_
      refine xw_bipush (v := 15) dX8_isPath_36 (by decide) ?_
      refine xw_cV2Q dX8_isPath_38 okX8_isNumber ml_X8_122 rfl rfl rfl rfl (s_X8_isNumber (lo := v2) (hi := 15) hT2 hk2.1 hE2.2.1 (by omega) (by decide)) ?_
      rintro _ M3 (⟨rfl, v3, hn3, hv3, hb3, hF3, hk3⟩ | ⟨rfl, n9, s9, hn3, hf3⟩)
      · refine xw_if_ne (tgt := 46) dX8_isPath_41 (by decide) (fun _ => ?_) (fun q9 => absurd q9 (by decide))
        have hE3 := tkE_le hE2.2.1
        have hT3 := hT2.fr hF3
        have hD3 := ((hD.frT hF1).frT hF2).frT hF3
        have hFF := (((FrW.rf M).ft hF1).ft hF2).ft hF3
        refine xw_iload_n dX8_isPath_46 rfl ?_
        refine xw_istore_n dX8_isPath_47 rfl rfl ?_
        refine lp_X8_isPath (D := D) (PP := PP) (f := v2) (t := v3) hb3.1 hb3.2 hb1.2 hv3 (fun M4 w3 hD4 hF4 hG4 => ?_) (v3 + 1 - v2) v2 M3 (by omega) (Nat.le_refl _) (by rw [adP_0]; exact hD3) (fun _ _ _ => rfl) rfl
        have hF5 : FrW M M4 := hFF.tr ⟨fun a b z1 z2 => hF4 a b z1, fun a b _ => by rw [hG4]⟩
        refine xw_aload_n dX8_isPath_92 rfl ?_
        refine xw_cV0Q dX8_isPath_93 okX8_isEnd ml_X8_126 rfl rfl rfl rfl (s_X8_isEnd (hT.frW hF5) ((hF4 _ _ (by decide)).trans hk3.1) hE3.2.1) ?_
        rintro _ M5 (⟨rfl, q4, hn4, hF4_, hk4, hq4⟩ | ⟨rfl, n9, s9, hn4, hf4⟩)
        · refine xw_iretz dX8_isPath_96 rfl (Or.inr rfl) ?_
          exact Or.inl ⟨rfl, q4, adP D v1 v2 (v3 + 1), PP, by simp only [patP, pb, hn1, hn2, hn3, hn4], hD4.frT hF4_, WD_P hW, hk4, hq4, hF5.ft hF4_⟩
        · refine xw_iretz dX8_isPath_96 rfl (Or.inl rfl) ?_
          exact PQm.bad (by simp only [patP, pb, hn1, hn2, hn3, hn4]) hF5 hf4
      · refine xw_if_ne (tgt := 46) dX8_isPath_41 (by decide) (fun q9 => absurd q9 (by decide)) (fun _ => ?_)
        refine xw_iconst (v := 0) dX8_isPath_44 (by decide) ?_
        refine xw_iretz dX8_isPath_45 rfl (Or.inl rfl) ?_
        exact PQm.bad (by simp only [patP, pb, hn1, hn2, hn3]) (((FrW.rf M).ft hF1).ft hF2) hf3
    · refine xw_if_ne (tgt := 29) dX8_isPath_24 (by decide) (fun q9 => absurd q9 (by decide)) (fun _ => ?_)
      refine xw_iconst (v := 0) dX8_isPath_27 (by decide) ?_
      refine xw_iretz dX8_isPath_28 rfl (Or.inl rfl) ?_
      exact PQm.bad (by simp only [patP, pb, hn1, hn2]) ((FrW.rf M).ft hF1) hf2
  · refine xw_if_ne (tgt := 12) dX8_isPath_7 (by decide) (fun q9 => absurd q9 (by decide)) (fun _ => ?_)
    refine xw_iconst (v := 0) dX8_isPath_10 (by decide) ?_
    refine xw_iretz dX8_isPath_11 rfl (Or.inl rfl) ?_
    exact PQm.bad (by simp only [patP, pb, hn1]) (FrW.rf M) hf1
end READM
