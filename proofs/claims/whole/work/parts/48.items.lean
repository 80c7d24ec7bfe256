section ITEMS
variable {g : XG} {l : Launch} {d : Nat} {M : XM}
def PQt (T : TX) (Z : PR (Nat × DP)) (M : XM) : Option XV → XM → Prop := fun r M' => (r = some (xi 1) ∧ ∃ p D P, Z = .inr (p, D, P) ∧ DM M' D P ∧ WD D P ∧ TkM M' T p ∧ FrW M M') ∨ (r = some (xi 0) ∧ ∃ n s, Z = .inl (n, s) ∧ M'.1 49 12 = nI n ∧ M'.1 49 7 = nI s ∧ FrW M M')
theorem PQt.fail {T : TX} {Z : PR (Nat × DP)} {M M1 : XM} {n s : Nat} (h : Z = .inl (n, s)) (hF : FrW M M1) (hS : M1.1 49 7 = nI s) : PQt T Z M (some (xi 0)) (xup M1 49 12 (nI n)) := Or.inr ⟨rfl, n, s, h, xup_same _ _ _ _, (xup_place _ _ (by decide)).trans hS, hF.u12⟩
def czM (M : XM) (k : Nat) : XM := (fun a b => if a = 55 ∧ b < k then 0 else M.1 a b, M.2)
theorem czM_s (M : XM) (k : Nat) : xup (czM M k) 55 k 0 = czM M (k + 1) := xm_ext (fun a b => by
  rw [xup_at]
  unfold czM
  dsimp only
  by_cases q : a = 55 ∧ b < k + 1
  · rw [if_pos q]
    by_cases q2 : a = 55 ∧ b = k
    · rw [if_pos q2]
    · rw [if_neg q2, if_pos (by omega)]
  · rw [if_neg q, if_neg (by omega), if_neg (by omega)]) (fun _ _ => rfl)
theorem czM_0 (M : XM) : czM M 0 = M := xm_ext (fun a b => by unfold czM; dsimp only; rw [if_neg (by omega)]) (fun _ _ => rfl)
theorem czM_fr (M : XM) (k : Nat) : FrW M (czM M k) := ⟨fun a b q _ => by unfold czM; dsimp only; rw [if_neg (fun z => q z.1)], fun _ _ _ => rfl⟩
theorem czM_DM (M : XM) (x : Int32) : DM (xup (xup (czM M 168) 55 0 1) 49 6 x) d0 0 := by
  have e : ∀ b, b < 168 → ¬ b = 0 → (xup (xup (czM M 168) 55 0 1) 49 6 x).1 55 b = 0 := fun b hb h0 => by
    rw [xup_cell _ _ (by decide), xup_place _ _ h0]
    unfold czM; dsimp only; rw [if_pos ⟨rfl, hb⟩]
  have hz : ∀ h, ¬ h < dn d0 := fun h => Nat.not_lt_zero h
  exact ⟨⟨by decide, ⟨e 1 (by decide) (by decide), by decide⟩, ⟨e 2 (by decide) (by decide), by decide⟩, e 3 (by decide) (by decide), fun x y hx hy => (e _ (by omega) (by omega)).trans (by show (0 : Int32) = nI (0 / 2 ^ x % 2 + 2 * (0 / 2 ^ x % 2)); rw [Nat.zero_div]; rfl), fun h q => absurd q (hz h), fun h q => absurd q (hz h), fun h q => absurd q (hz h), fun h q => absurd q (hz h), fun h q => absurd q (hz h)⟩, fun j hj => (e _ (by omega) (by omega)).trans (by unfold px; rw [Nat.zero_div]; rfl), fun h q => absurd q (hz h), by rw [xup_cell _ _ (by decide), xup_same]⟩
set_option maxRecDepth 20000 in
theorem lp_X8_items0 {T : TX} (hT0 : TM M T) : ∀ (f n p : Nat) (D : FD) (PP : Nat) (M1 : XM) (v6 : Option XV), n + f = 12 → DM M1 D PP → WD D PP → TkM M1 T p → FrW M M1 → XW g l mX8_areItems (d + 4) 3 [some (xr 49), some (xi 0), some (xl 453774), none, some (xi 12), some (xi (nI n)), v6] [] M1 (PQt T (itP T 1 (walP T) f p (D, PP)) M) := by
  intro f
  induction f with
  | zero =>
    intro n p D PP M1 v6 hn hD hW hk hF
    refine xw_aload_n dX8_areItems_3 rfl ?_
    refine xw_lload_n dX8_areItems_4 rfl ?_
    refine xw_cV1B dX8_areItems_5 okX8_isName ml_X8_118 rfl rfl rfl rfl (s_X8_isName (i := 1) (by decide) hk rfl) (fun p5 => ?_) (fun p5 => ?_)
    · refine xw_if_eq (tgt := 70) dX8_areItems_8 (by decide) (fun q9 => absurd q9 (by decide)) (fun _ => ?_)
      refine xw_iload dX8_areItems_11 rfl ?_
      refine xw_iload dX8_areItems_13 rfl ?_
      refine xw_icmp_neN (b := 12) (tgt := 24) dX8_areItems_15 (by decide) (by omega) (fun c15 => ?_) (fun c15 => ?_)
      · exfalso; omega
      · refine xw_aload_n dX8_areItems_18 rfl ?_
        refine xw_iconst (v := 3) dX8_areItems_19 (by decide) ?_
        refine xw_cV1E dX8_areItems_20 okX8_fails ml_X8_113 rfl rfl rfl rfl (s_X8_fails) ?_
        refine xw_iretz dX8_areItems_23 rfl (Or.inl rfl) ?_
        exact PQt.fail (n := 3) (itP_0 p5) hF hk.2.1
    · refine xw_if_eq (tgt := 70) dX8_areItems_8 (by decide) (fun _ => ?_) (fun q9 => absurd q9 (by decide))
      refine xw_iconst (v := 1) dX8_areItems_70 (by decide) ?_
      refine xw_iretz dX8_areItems_71 rfl (Or.inr rfl) ?_
      exact Or.inl ⟨rfl, p, D, PP, itP_no p5, hD, hW, hk, hF⟩
  | succ f ih =>
    intro n p D PP M1 v6 hn hD hW hk hF
    have hT := hT0.frW hF
    have hE := tkE_le hk.2.2.2.2.2
    refine xw_aload_n dX8_areItems_3 rfl ?_
    refine xw_lload_n dX8_areItems_4 rfl ?_
    refine xw_cV1B dX8_areItems_5 okX8_isName ml_X8_118 rfl rfl rfl rfl (s_X8_isName (i := 1) (by decide) hk rfl) (fun p5 => ?_) (fun p5 => ?_)
    · refine xw_if_eq (tgt := 70) dX8_areItems_8 (by decide) (fun q9 => absurd q9 (by decide)) (fun _ => ?_)
      refine xw_iload dX8_areItems_11 rfl ?_
      refine xw_iload dX8_areItems_13 rfl ?_
      refine xw_icmp_neN (b := 12) (tgt := 24) dX8_areItems_15 (by decide) (by omega) (fun c15 => ?_) (fun c15 => ?_)
      · refine xw_iincN (v := 1) dX8_areItems_24 (by decide) rfl rfl rfl ?_
        refine xw_iload_n dX8_areItems_27 rfl ?_
        refine xw_if_ne (tgt := 38) dX8_areItems_28 (by decide) (fun q9 => absurd q9 (by decide)) (fun _ => ?_)
        refine xw_aload_n dX8_areItems_31 rfl ?_
        refine xw_cV0Q dX8_areItems_32 okX8_isWall ml_X8_152 rfl rfl rfl rfl (s_X8_isWall hT hk.1 hE.2.1 hD hW) ?_
        rintro _ M2 (⟨rfl, q1, D1, P1, hn1, hD1, hW1, hE1, hq1, hF1⟩ | ⟨rfl, n9, s9, hn1, hf1, hf2, hf3⟩)
        · refine xw_goto (tgt := 54) dX8_areItems_35 (by decide) ?_
          refine xw_istore dX8_areItems_54 rfl rfl ?_
          refine xw_iload dX8_areItems_56 rfl ?_
          refine xw_if_ne (tgt := 63) dX8_areItems_58 (by decide) (fun _ => ?_) (fun q9 => absurd q9 (by decide))
          refine xw_aload_n dX8_areItems_63 rfl ?_
          refine xw_cV0Q dX8_areItems_64 okX8_nextToken ml_X8_110 rfl rfl rfl rfl (s_X8_nextToken (hT.frW hF1) hE1 hq1) ?_
          rintro _ M3 ⟨rfl, hF2, hk2⟩
          refine xw_goto (tgt := 3) dX8_areItems_67 (by decide) ?_
          rw [show itP T 1 (walP T) (f + 1) p (D, PP) = itP T 1 (walP T) f q1 (D1, P1) by rw [itP_s p5]; simp only [pb, hn1]]
          exact ih (n + 1) q1 D1 P1 M3 _ (by omega) (hD1.frT hF2) hW1 hk2 ((hF.tr hF1).ft hF2)
        · refine xw_goto (tgt := 54) dX8_areItems_35 (by decide) ?_
          refine xw_istore dX8_areItems_54 rfl rfl ?_
          refine xw_iload dX8_areItems_56 rfl ?_
          refine xw_if_ne (tgt := 63) dX8_areItems_58 (by decide) (fun q9 => absurd q9 (by decide)) (fun _ => ?_)
          refine xw_iconst (v := 0) dX8_areItems_61 (by decide) ?_
          refine xw_iretz dX8_areItems_62 rfl (Or.inl rfl) ?_
          exact Or.inr ⟨rfl, n9, s9, by rw [itP_s p5]; simp only [pb, hn1], hf1, hf2, hF.tr hf3⟩
      · exfalso; omega
    · refine xw_if_eq (tgt := 70) dX8_areItems_8 (by decide) (fun _ => ?_) (fun q9 => absurd q9 (by decide))
      refine xw_iconst (v := 1) dX8_areItems_70 (by decide) ?_
      refine xw_iretz dX8_areItems_71 rfl (Or.inr rfl) ?_
      exact Or.inl ⟨rfl, p, D, PP, itP_no p5, hD, hW, hk, hF⟩
set_option maxRecDepth 20000 in
theorem s_X8_items0 {T : TX} {p PP : Nat} {D : FD} (hT : TM M T) (hk : TkM M T p) (hD : DM M D PP) (hW : WD D PP)  : XC g l mX8_areItems (d + 4) [xr 49, xi 0, xl 453774, xi 12] M (PQt T (itP T 1 (walP T) 12 p (D, PP)) M) := by
  show XW g l mX8_areItems _ 0 [some (xr 49), some (xi 0), some (xl 453774), none, some (xi 12), none, none] [] M _
  refine xw_iconst (v := 0) dX8_areItems_0 (by decide) ?_
  refine xw_istore dX8_areItems_1 rfl rfl ?_
  exact lp_X8_items0 hT 12 0 p D PP M none (by omega) hD hW hk (FrW.rf _)
set_option maxRecDepth 20000 in
theorem lp_X8_items1 {T : TX} (hT0 : TM M T) : ∀ (f n p : Nat) (D : FD) (PP : Nat) (M1 : XM) (v6 : Option XV), n + f = 8 → DM M1 D PP → WD D PP → TkM M1 T p → FrW M M1 → XW g l mX8_areItems (d + 4) 3 [some (xr 49), some (xi 1), some (xl 316205), none, some (xi 8), some (xi (nI n)), v6] [] M1 (PQt T (itP T 2 (patP T) f p (D, PP)) M) := by
  intro f
  induction f with
  | zero =>
    intro n p D PP M1 v6 hn hD hW hk hF
    refine xw_aload_n dX8_areItems_3 rfl ?_
    refine xw_lload_n dX8_areItems_4 rfl ?_
    refine xw_cV1B dX8_areItems_5 okX8_isName ml_X8_118 rfl rfl rfl rfl (s_X8_isName (i := 2) (by decide) hk rfl) (fun p5 => ?_) (fun p5 => ?_)
    · refine xw_if_eq (tgt := 70) dX8_areItems_8 (by decide) (fun q9 => absurd q9 (by decide)) (fun _ => ?_)
      refine xw_iload dX8_areItems_11 rfl ?_
      refine xw_iload dX8_areItems_13 rfl ?_
      refine xw_icmp_neN (b := 8) (tgt := 24) dX8_areItems_15 (by decide) (by omega) (fun c15 => ?_) (fun c15 => ?_)
      · exfalso; omega
      · refine xw_aload_n dX8_areItems_18 rfl ?_
        refine xw_iconst (v := 3) dX8_areItems_19 (by decide) ?_
        refine xw_cV1E dX8_areItems_20 okX8_fails ml_X8_113 rfl rfl rfl rfl (s_X8_fails) ?_
        refine xw_iretz dX8_areItems_23 rfl (Or.inl rfl) ?_
        exact PQt.fail (n := 3) (itP_0 p5) hF hk.2.1
    · refine xw_if_eq (tgt := 70) dX8_areItems_8 (by decide) (fun _ => ?_) (fun q9 => absurd q9 (by decide))
      refine xw_iconst (v := 1) dX8_areItems_70 (by decide) ?_
      refine xw_iretz dX8_areItems_71 rfl (Or.inr rfl) ?_
      exact Or.inl ⟨rfl, p, D, PP, itP_no p5, hD, hW, hk, hF⟩
  | succ f ih =>
    intro n p D PP M1 v6 hn hD hW hk hF
    have hT := hT0.frW hF
    have hE := tkE_le hk.2.2.2.2.2
    refine xw_aload_n dX8_areItems_3 rfl ?_
    refine xw_lload_n dX8_areItems_4 rfl ?_
    refine xw_cV1B dX8_areItems_5 okX8_isName ml_X8_118 rfl rfl rfl rfl (s_X8_isName (i := 2) (by decide) hk rfl) (fun p5 => ?_) (fun p5 => ?_)
    · refine xw_if_eq (tgt := 70) dX8_areItems_8 (by decide) (fun q9 => absurd q9 (by decide)) (fun _ => ?_)
      refine xw_iload dX8_areItems_11 rfl ?_
      refine xw_iload dX8_areItems_13 rfl ?_
      refine xw_icmp_neN (b := 8) (tgt := 24) dX8_areItems_15 (by decide) (by omega) (fun c15 => ?_) (fun c15 => ?_)
      · refine xw_iincN (v := 1) dX8_areItems_24 (by decide) rfl rfl rfl ?_
        refine xw_iload_n dX8_areItems_27 rfl ?_
        refine xw_if_ne (tgt := 38) dX8_areItems_28 (by decide) (fun _ => ?_) (fun q9 => absurd q9 (by decide))
        refine xw_iload_n dX8_areItems_38 rfl ?_
        refine xw_iconst (v := 1) dX8_areItems_39 (by decide) ?_
        refine xw_icmp_ne (tgt := 50) dX8_areItems_40 (by decide) (fun q9 => absurd q9 (by decide)) (fun _ => ?_)
        refine xw_aload_n dX8_areItems_43 rfl ?_
        refine xw_cV0Q dX8_areItems_44 okX8_isPath ml_X8_155 rfl rfl rfl rfl (s_X8_isPath hT hk.1 hE.2.1 hD hW) ?_
        rintro _ M2 (⟨rfl, q1, D1, P1, hn1, hD1, hW1, hE1, hq1, hF1⟩ | ⟨rfl, n9, s9, hn1, hf1, hf2, hf3⟩)
        · refine xw_goto (tgt := 54) dX8_areItems_47 (by decide) ?_
          refine xw_istore dX8_areItems_54 rfl rfl ?_
          refine xw_iload dX8_areItems_56 rfl ?_
          refine xw_if_ne (tgt := 63) dX8_areItems_58 (by decide) (fun _ => ?_) (fun q9 => absurd q9 (by decide))
          refine xw_aload_n dX8_areItems_63 rfl ?_
          refine xw_cV0Q dX8_areItems_64 okX8_nextToken ml_X8_110 rfl rfl rfl rfl (s_X8_nextToken (hT.frW hF1) hE1 hq1) ?_
          rintro _ M3 ⟨rfl, hF2, hk2⟩
          refine xw_goto (tgt := 3) dX8_areItems_67 (by decide) ?_
          rw [show itP T 2 (patP T) (f + 1) p (D, PP) = itP T 2 (patP T) f q1 (D1, P1) by rw [itP_s p5]; simp only [pb, hn1]]
          exact ih (n + 1) q1 D1 P1 M3 _ (by omega) (hD1.frT hF2) hW1 hk2 ((hF.tr hF1).ft hF2)
        · refine xw_goto (tgt := 54) dX8_areItems_47 (by decide) ?_
          refine xw_istore dX8_areItems_54 rfl rfl ?_
          refine xw_iload dX8_areItems_56 rfl ?_
          refine xw_if_ne (tgt := 63) dX8_areItems_58 (by decide) (fun q9 => absurd q9 (by decide)) (fun _ => ?_)
          refine xw_iconst (v := 0) dX8_areItems_61 (by decide) ?_
          refine xw_iretz dX8_areItems_62 rfl (Or.inl rfl) ?_
          exact Or.inr ⟨rfl, n9, s9, by rw [itP_s p5]; simp only [pb, hn1], hf1, hf2, hF.tr hf3⟩
      · exfalso; omega
    · refine xw_if_eq (tgt := 70) dX8_areItems_8 (by decide) (fun _ => ?_) (fun q9 => absurd q9 (by decide))
      refine xw_iconst (v := 1) dX8_areItems_70 (by decide) ?_
      refine xw_iretz dX8_areItems_71 rfl (Or.inr rfl) ?_
      exact Or.inl ⟨rfl, p, D, PP, itP_no p5, hD, hW, hk, hF⟩
set_option maxRecDepth 20000 in
theorem s_X8_items1 {T : TX} {p PP : Nat} {D : FD} (hT : TM M T) (hk : TkM M T p) (hD : DM M D PP) (hW : WD D PP)  : XC g l mX8_areItems (d + 4) [xr 49, xi 1, xl 316205, xi 8] M (PQt T (itP T 2 (patP T) 8 p (D, PP)) M) := by
  show XW g l mX8_areItems _ 0 [some (xr 49), some (xi 1), some (xl 316205), none, some (xi 8), none, none] [] M _
  refine xw_iconst (v := 0) dX8_areItems_0 (by decide) ?_
  refine xw_istore dX8_areItems_1 rfl rfl ?_
  exact lp_X8_items1 hT 8 0 p D PP M none (by omega) hD hW hk (FrW.rf _)
set_option maxRecDepth 20000 in
theorem lp_X8_items2 {T : TX} (hT0 : TM M T) : ∀ (f n p : Nat) (D : FD) (PP : Nat) (M1 : XM) (v6 : Option XV), n + f = 6 → dn D = n → DM M1 D PP → WD D PP → TkM M1 T p → FrW M M1 → XW g l mX8_areItems (d + 4) 3 [some (xr 49), some (xi 2), some (xl 4562600), none, some (xi 6), some (xi (nI n)), v6] [] M1 (PQt T (itP T 3 (houP T) f p (D, PP)) M) := by
  intro f
  induction f with
  | zero =>
    intro n p D PP M1 v6 hn hdn hD hW hk hF
    refine xw_aload_n dX8_areItems_3 rfl ?_
    refine xw_lload_n dX8_areItems_4 rfl ?_
    refine xw_cV1B dX8_areItems_5 okX8_isName ml_X8_118 rfl rfl rfl rfl (s_X8_isName (i := 3) (by decide) hk rfl) (fun p5 => ?_) (fun p5 => ?_)
    · refine xw_if_eq (tgt := 70) dX8_areItems_8 (by decide) (fun q9 => absurd q9 (by decide)) (fun _ => ?_)
      refine xw_iload dX8_areItems_11 rfl ?_
      refine xw_iload dX8_areItems_13 rfl ?_
      refine xw_icmp_neN (b := 6) (tgt := 24) dX8_areItems_15 (by decide) (by omega) (fun c15 => ?_) (fun c15 => ?_)
      · exfalso; omega
      · refine xw_aload_n dX8_areItems_18 rfl ?_
        refine xw_iconst (v := 3) dX8_areItems_19 (by decide) ?_
        refine xw_cV1E dX8_areItems_20 okX8_fails ml_X8_113 rfl rfl rfl rfl (s_X8_fails) ?_
        refine xw_iretz dX8_areItems_23 rfl (Or.inl rfl) ?_
        exact PQt.fail (n := 3) (itP_0 p5) hF hk.2.1
    · refine xw_if_eq (tgt := 70) dX8_areItems_8 (by decide) (fun _ => ?_) (fun q9 => absurd q9 (by decide))
      refine xw_iconst (v := 1) dX8_areItems_70 (by decide) ?_
      refine xw_iretz dX8_areItems_71 rfl (Or.inr rfl) ?_
      exact Or.inl ⟨rfl, p, D, PP, itP_no p5, hD, hW, hk, hF⟩
  | succ f ih =>
    intro n p D PP M1 v6 hn hdn hD hW hk hF
    have hT := hT0.frW hF
    have hE := tkE_le hk.2.2.2.2.2
    refine xw_aload_n dX8_areItems_3 rfl ?_
    refine xw_lload_n dX8_areItems_4 rfl ?_
    refine xw_cV1B dX8_areItems_5 okX8_isName ml_X8_118 rfl rfl rfl rfl (s_X8_isName (i := 3) (by decide) hk rfl) (fun p5 => ?_) (fun p5 => ?_)
    · refine xw_if_eq (tgt := 70) dX8_areItems_8 (by decide) (fun q9 => absurd q9 (by decide)) (fun _ => ?_)
      refine xw_iload dX8_areItems_11 rfl ?_
      refine xw_iload dX8_areItems_13 rfl ?_
      refine xw_icmp_neN (b := 6) (tgt := 24) dX8_areItems_15 (by decide) (by omega) (fun c15 => ?_) (fun c15 => ?_)
      · refine xw_iincN (v := 1) dX8_areItems_24 (by decide) rfl rfl rfl ?_
        refine xw_iload_n dX8_areItems_27 rfl ?_
        refine xw_if_ne (tgt := 38) dX8_areItems_28 (by decide) (fun _ => ?_) (fun q9 => absurd q9 (by decide))
        refine xw_iload_n dX8_areItems_38 rfl ?_
        refine xw_iconst (v := 1) dX8_areItems_39 (by decide) ?_
        refine xw_icmp_ne (tgt := 50) dX8_areItems_40 (by decide) (fun _ => ?_) (fun q9 => absurd q9 (by decide))
        refine xw_aload_n dX8_areItems_50 rfl ?_
        refine xw_cV0Q dX8_areItems_51 okX8_isHouse ml_X8_158 rfl rfl rfl rfl (s_X8_isHouse hT hk.1 hE.2.1 hD hW (by omega)) ?_
        rintro _ M2 (⟨rfl, q1, D1, P1, hn1, hD1, hW1, hE1, hq1, hF1⟩ | ⟨rfl, n9, s9, hn1, hf1, hf2, hf3⟩)
        · refine xw_istore dX8_areItems_54 rfl rfl ?_
          refine xw_iload dX8_areItems_56 rfl ?_
          refine xw_if_ne (tgt := 63) dX8_areItems_58 (by decide) (fun _ => ?_) (fun q9 => absurd q9 (by decide))
          refine xw_aload_n dX8_areItems_63 rfl ?_
          refine xw_cV0Q dX8_areItems_64 okX8_nextToken ml_X8_110 rfl rfl rfl rfl (s_X8_nextToken (hT.frW hF1) hE1 hq1) ?_
          rintro _ M3 ⟨rfl, hF2, hk2⟩
          refine xw_goto (tgt := 3) dX8_areItems_67 (by decide) ?_
          rw [show itP T 3 (houP T) (f + 1) p (D, PP) = itP T 3 (houP T) f q1 (D1, P1) by rw [itP_s p5]; simp only [pb, hn1]]
          exact ih (n + 1) q1 D1 P1 M3 _ (by omega) (by rw [houP_dn hn1]; omega) (hD1.frT hF2) hW1 hk2 ((hF.tr hF1).ft hF2)
        · refine xw_istore dX8_areItems_54 rfl rfl ?_
          refine xw_iload dX8_areItems_56 rfl ?_
          refine xw_if_ne (tgt := 63) dX8_areItems_58 (by decide) (fun q9 => absurd q9 (by decide)) (fun _ => ?_)
          refine xw_iconst (v := 0) dX8_areItems_61 (by decide) ?_
          refine xw_iretz dX8_areItems_62 rfl (Or.inl rfl) ?_
          exact Or.inr ⟨rfl, n9, s9, by rw [itP_s p5]; simp only [pb, hn1], hf1, hf2, hF.tr hf3⟩
      · exfalso; omega
    · refine xw_if_eq (tgt := 70) dX8_areItems_8 (by decide) (fun _ => ?_) (fun q9 => absurd q9 (by decide))
      refine xw_iconst (v := 1) dX8_areItems_70 (by decide) ?_
      refine xw_iretz dX8_areItems_71 rfl (Or.inr rfl) ?_
      exact Or.inl ⟨rfl, p, D, PP, itP_no p5, hD, hW, hk, hF⟩
set_option maxRecDepth 20000 in
theorem s_X8_items2 {T : TX} {p PP : Nat} {D : FD} (hT : TM M T) (hk : TkM M T p) (hD : DM M D PP) (hW : WD D PP) (hdn : dn D = 0) : XC g l mX8_areItems (d + 4) [xr 49, xi 2, xl 4562600, xi 6] M (PQt T (itP T 3 (houP T) 6 p (D, PP)) M) := by
  show XW g l mX8_areItems _ 0 [some (xr 49), some (xi 2), some (xl 4562600), none, some (xi 6), none, none] [] M _
  refine xw_iconst (v := 0) dX8_areItems_0 (by decide) ?_
  refine xw_istore dX8_areItems_1 rfl rfl ?_
  exact lp_X8_items2 hT 6 0 p D PP M none (by omega) hdn hD hW hk (FrW.rf _)
set_option maxRecDepth 20000 in
theorem lp_X8_isField {Q : Option XV → XM → Prop} (K : ∀ v1, XW g l mX8_isField (d + 5) 22 [some (xr 49), v1] [] (czM M 168) Q) : ∀ (q k : Nat), k + q = 168 → XW g l mX8_isField (d + 5) 2 [some (xr 49), some (xi (nI k))] [] (czM M k) Q := by
  intro q
  induction q with
  | zero =>
    intro k hk
    have hk : k = 168 := by omega
    subst hk
    refine xw_iload_n dX8_isField_2 rfl ?_
    refine xw_sipush (v := 168) dX8_isField_3 (by decide) ?_
    refine xw_icmp_geN (b := 168) (tgt := 22) dX8_isField_6 (by decide) (by omega) (fun c6 => ?_) (fun c6 => ?_)
    · exact K _
    · exfalso; omega
  | succ q ih =>
    intro k hk
    have ih2 := ih (k + 1) (by omega)
    rw [← czM_s] at ih2
    refine xw_iload_n dX8_isField_2 rfl ?_
    refine xw_sipush (v := 168) dX8_isField_3 (by decide) ?_
    refine xw_icmp_geN (b := 168) (tgt := 22) dX8_isField_6 (by decide) (by omega) (fun c6 => ?_) (fun c6 => ?_)
    · exfalso; omega
    · refine xw_aload_n dX8_isField_9 rfl ?_
      refine xw_getR dX8_isField_10 fl_X8_25 rfl rfl ?_
      refine xw_iload_n dX8_isField_13 rfl ?_
      refine xw_iconst (v := 0) dX8_isField_14 (by decide) ?_
      refine xw_iasN _ dX8_isField_15 rfl (rfl) rfl ?_ ?_
      · omega
      refine xw_iincN (v := 1) dX8_isField_16 (by decide) rfl rfl rfl ?_
      refine xw_goto (tgt := 2) dX8_isField_19 (by decide) ?_
      exact ih2
def RQm (T : TX) (M : XM) : Option XV → XM → Prop := fun r M' => FrW M M' ∧ ((r = some (xi 1) ∧ ∃ p D P, fiP T = .inr (p, D, P) ∧ DM M' D P ∧ WD D P) ∨ (r = some (xi 0) ∧ ∃ n s, fiP T = .inl (n, s) ∧ M'.1 49 12 = nI n ∧ M'.1 49 7 = nI s))
set_option maxRecDepth 20000 in
theorem s_X8_isField {T : TX} (hT : TM M T) : XC g l mX8_isField (d + 5) [xr 49] M (RQm T M) := by
  show XW g l mX8_isField _ 0 [some (xr 49), none] [] M _
  refine xw_iconst (v := 0) dX8_isField_0 (by decide) ?_
  refine xw_istore_n dX8_isField_1 rfl rfl ?_
  have g0 := lp_X8_isField (g := g) (l := l) (d := d) (M := M) (Q := RQm T M) (fun v1 => ?_) 168 0 (by omega)
  · rw [czM_0] at g0; exact g0
  refine xw_aload_n dX8_isField_22 rfl ?_
  refine xw_getR dX8_isField_23 fl_X8_25 rfl rfl ?_
  refine xw_iconst (v := 0) dX8_isField_26 (by decide) ?_
  refine xw_iconst (v := 1) dX8_isField_27 (by decide) ?_
  refine xw_iasN 0 dX8_isField_28 rfl (rfl) rfl ?_ ?_
  · omega
  refine xw_aload_n dX8_isField_29 rfl ?_
  refine xw_iconst (v := 0) dX8_isField_30 (by decide) ?_
  refine xw_putI dX8_isField_31 fp_X8_81 rfl rfl ?_
  have hFA : FrW M (xup (xup (czM M 168) 55 0 1) 49 6 0) := ⟨fun a b q1 q2 => by rw [xup_at, if_neg (by omega)]; exact ((czM_fr M 168).u55).1 a b q1 q2, fun _ _ _ => rfl⟩
  have hDA := czM_DM M 0
  have hTA := hT.frW hFA
  refine xw_aload_n dX8_isField_34 rfl ?_
  refine xw_cV0Q dX8_isField_35 okX8_isFacts ml_X8_161 rfl rfl rfl rfl (s_X8_isFacts (p := 0) hTA (xup_same _ _ _ _) (Nat.zero_le _) hDA) ?_
  rintro _ M1 (⟨rfl, q1, D1, P1, hn1, hD1, hW1, hE1, hq1, hF1⟩ | ⟨rfl, n9, s9, hn1, hf1, hf2, hf3⟩)
  · refine xw_if_ne (tgt := 43) dX8_isField_38 (by decide) (fun _ => ?_) (fun q9 => absurd q9 (by decide))
    refine xw_aload_n dX8_isField_43 rfl ?_
    refine xw_cV0Q dX8_isField_44 okX8_nextToken ml_X8_110 rfl rfl rfl rfl (s_X8_nextToken (hTA.frW hF1) hE1 hq1) ?_
    rintro _ M5 ⟨rfl, hF5, hk5⟩
    have hT5 := (hTA.frW hF1).fr hF5
    refine xw_aload_n dX8_isField_47 rfl ?_
    refine xw_iconst (v := 0) dX8_isField_48 (by decide) ?_
    refine xw_ldc2 dX8_isField_49 kc_X8_164 ?_
    refine xw_bipush (v := 12) dX8_isField_52 (by decide) ?_
    refine xw_cV3Q dX8_isField_54 okX8_areItems ml_X8_166 rfl rfl rfl rfl (s_X8_items0 hT5 hk5 (hD1.frT hF5) hW1) ?_
    rintro _ M2 (⟨rfl, q2, D2, P2, hn2, hD2, hW2, hk2, hF2⟩ | ⟨rfl, n9, s9, hn2, hf1, hf2, hf3⟩)
    · refine xw_if_eq (tgt := 86) dX8_isField_57 (by decide) (fun q9 => absurd q9 (by decide)) (fun _ => ?_)
      refine xw_aload_n dX8_isField_60 rfl ?_
      refine xw_iconst (v := 1) dX8_isField_61 (by decide) ?_
      refine xw_ldc2 dX8_isField_62 kc_X8_170 ?_
      refine xw_bipush (v := 8) dX8_isField_65 (by decide) ?_
      refine xw_cV3Q dX8_isField_67 okX8_areItems ml_X8_166 rfl rfl rfl rfl (s_X8_items1 (hT5.frW hF2) hk2 hD2 hW2) ?_
      rintro _ M3 (⟨rfl, q3, D3, P3, hn3, hD3, hW3, hk3, hF3⟩ | ⟨rfl, n9, s9, hn3, hf1, hf2, hf3⟩)
      · refine xw_if_eq (tgt := 86) dX8_isField_70 (by decide) (fun q9 => absurd q9 (by decide)) (fun _ => ?_)
        have hdn : dn D3 = 0 := (itP_dn patP_dn _ _ _ _ _ hn3).trans ((itP_dn walP_dn _ _ _ _ _ hn2).trans (facP_dn hn1))
        refine xw_aload_n dX8_isField_73 rfl ?_
        refine xw_iconst (v := 2) dX8_isField_74 (by decide) ?_
        refine xw_ldc2 dX8_isField_75 kc_X8_172 ?_
        refine xw_bipush (v := 6) dX8_isField_78 (by decide) ?_
        refine xw_cV3Q dX8_isField_80 okX8_areItems ml_X8_166 rfl rfl rfl rfl (s_X8_items2 ((hT5.frW hF2).frW hF3) hk3 hD3 hW3 hdn) ?_
        rintro _ M4 (⟨rfl, q4, D4, P4, hn4, hD4, hW4, hk4, hF4⟩ | ⟨rfl, n9, s9, hn4, hf1, hf2, hf3⟩)
        · refine xw_if_ne (tgt := 88) dX8_isField_83 (by decide) (fun _ => ?_) (fun q9 => absurd q9 (by decide))
          have h9 : tkK T q4 ≤ 4 := kdT_le T (tkS T q4)
          have hn6 := hD4.1.1
          refine xw_aload_n dX8_isField_88 rfl ?_
          refine xw_getV dX8_isField_89 fl_X8_91 rfl rfl (hk4.2.2.1) ?_
          refine xw_if_neN (tgt := 104) dX8_isField_92 (by decide) (by omega) (fun c92 => ?_) (fun c92 => ?_)
          · refine xw_aload_n dX8_isField_104 rfl ?_
            refine xw_iconst (v := 1) dX8_isField_105 (by decide) ?_
            refine xw_cV1E dX8_isField_106 okX8_fails ml_X8_113 rfl rfl rfl rfl (s_X8_fails) ?_
            refine xw_if_eq (tgt := 116) dX8_isField_109 (by decide) (fun _ => ?_) (fun q9 => absurd q9 (by decide))
            refine xw_iconst (v := 0) dX8_isField_116 (by decide) ?_
            refine xw_iretz dX8_isField_117 rfl (Or.inl rfl) ?_
            exact ⟨(((((hFA.tr hF1).ft hF5).tr hF2).tr hF3).tr hF4).u12, Or.inr ⟨rfl, 1, tkS T q4, by unfold fiP; simp only [pb_r hn1, pb_r hn2, pb_r hn3, pb_r hn4]; rw [enP, if_neg (fun z => by have z1 : tkK T q4 = 0 := z.1; have z2 : 0 < dn D4 := z.2; omega)], xup_same _ _ _ _, (xup_place _ _ (by decide)).trans hk4.2.1⟩⟩
          · refine xw_aload_n dX8_isField_95 rfl ?_
            refine xw_getR dX8_isField_96 fl_X8_25 rfl rfl ?_
            refine xw_iconst (v := 3) dX8_isField_99 (by decide) ?_
            refine xw_ialN 3 dX8_isField_100 rfl (rfl) (hD4.1.2.2.2.1) rfl ?_ ?_
            · omega
            refine xw_if_gtN (tgt := 112) dX8_isField_101 (by decide) (by omega) (fun c101 => ?_) (fun c101 => ?_)
            · refine xw_iconst (v := 1) dX8_isField_112 (by decide) ?_
              refine xw_goto (tgt := 117) dX8_isField_113 (by decide) ?_
              refine xw_iretz dX8_isField_117 rfl (Or.inr rfl) ?_
              exact ⟨((((hFA.tr hF1).ft hF5).tr hF2).tr hF3).tr hF4, Or.inl ⟨rfl, q4, D4, P4, by unfold fiP; simp only [pb_r hn1, pb_r hn2, pb_r hn3, pb_r hn4]; rw [enP, if_pos ⟨show tkK T q4 = 0 by omega, show 0 < dn D4 by omega⟩], hD4, hW4⟩⟩
            · refine xw_aload_n dX8_isField_104 rfl ?_
              refine xw_iconst (v := 1) dX8_isField_105 (by decide) ?_
              refine xw_cV1E dX8_isField_106 okX8_fails ml_X8_113 rfl rfl rfl rfl (s_X8_fails) ?_
              refine xw_if_eq (tgt := 116) dX8_isField_109 (by decide) (fun _ => ?_) (fun q9 => absurd q9 (by decide))
              refine xw_iconst (v := 0) dX8_isField_116 (by decide) ?_
              refine xw_iretz dX8_isField_117 rfl (Or.inl rfl) ?_
              exact ⟨(((((hFA.tr hF1).ft hF5).tr hF2).tr hF3).tr hF4).u12, Or.inr ⟨rfl, 1, tkS T q4, by unfold fiP; simp only [pb_r hn1, pb_r hn2, pb_r hn3, pb_r hn4]; rw [enP, if_neg (fun z => by have z1 : tkK T q4 = 0 := z.1; have z2 : 0 < dn D4 := z.2; omega)], xup_same _ _ _ _, (xup_place _ _ (by decide)).trans hk4.2.1⟩⟩
        · have hz : fiP T = .inl (n9, s9) := by unfold fiP; simp only [pb_r hn1, pb_r hn2, pb_r hn3, pb_l hn4]
          have hFz := ((((hFA.tr hF1).ft hF5).tr hF2).tr hF3).tr hf3
          refine xw_if_ne (tgt := 88) dX8_isField_83 (by decide) (fun q9 => absurd q9 (by decide)) (fun _ => ?_)
          refine xw_iconst (v := 0) dX8_isField_86 (by decide) ?_
          refine xw_iretz dX8_isField_87 rfl (Or.inl rfl) ?_
          exact ⟨hFz, Or.inr ⟨rfl, n9, s9, hz, hf1, hf2⟩⟩
      · have hz : fiP T = .inl (n9, s9) := by unfold fiP; simp only [pb_r hn1, pb_r hn2, pb_l hn3]
        have hFz := (((hFA.tr hF1).ft hF5).tr hF2).tr hf3
        refine xw_if_eq (tgt := 86) dX8_isField_70 (by decide) (fun _ => ?_) (fun q9 => absurd q9 (by decide))
        refine xw_iconst (v := 0) dX8_isField_86 (by decide) ?_
        refine xw_iretz dX8_isField_87 rfl (Or.inl rfl) ?_
        exact ⟨hFz, Or.inr ⟨rfl, n9, s9, hz, hf1, hf2⟩⟩
    · have hz : fiP T = .inl (n9, s9) := by unfold fiP; simp only [pb_r hn1, pb_l hn2]
      have hFz := ((hFA.tr hF1).ft hF5).tr hf3
      refine xw_if_eq (tgt := 86) dX8_isField_57 (by decide) (fun _ => ?_) (fun q9 => absurd q9 (by decide))
      refine xw_iconst (v := 0) dX8_isField_86 (by decide) ?_
      refine xw_iretz dX8_isField_87 rfl (Or.inl rfl) ?_
      exact ⟨hFz, Or.inr ⟨rfl, n9, s9, hz, hf1, hf2⟩⟩
  · have hz : fiP T = .inl (n9, s9) := by unfold fiP; rw [pb_l hn1]
    have hFz := hFA.tr hf3
    refine xw_if_ne (tgt := 43) dX8_isField_38 (by decide) (fun q9 => absurd q9 (by decide)) (fun _ => ?_)
    refine xw_iconst (v := 0) dX8_isField_41 (by decide) ?_
    refine xw_iretz dX8_isField_42 rfl (Or.inl rfl) ?_
    exact ⟨hFz, Or.inr ⟨rfl, n9, s9, hz, hf1, hf2⟩⟩
end ITEMS
