section READT
variable {g : XG} {l : Launch} {d : Nat} {M : XM}
theorem nuP_r {T : TX} {lo hi p : Nat} {a : Nat × Nat} (h : nuP T lo hi p = .inr a) : a = (tkV T p, tkE T p) ∧ tkK T p = 2 ∧ lo ≤ tkV T p ∧ tkV T p ≤ hi := by
  unfold nuP at h
  repeat' split at h
  · cases h
  · cases h
    rename_i h1 h2
    exact ⟨rfl, Classical.not_not.mp h1, h2⟩
  · cases h
theorem pb_inv {α β : Type} {x : PR α} {f : α → PR β} {b : β} (h : pb x f = .inr b) : ∃ a, x = .inr a ∧ f a = .inr b := by
  cases x with
  | inl e => cases h
  | inr a => exact ⟨a, rfl, h⟩
theorem houP_dn {T : TX} {p q PP P1 : Nat} {D D1 : FD} (h : houP T p (D, PP) = .inr (q, D1, P1)) : dn D1 = dn D + 1 := by
  by_cases h0 : knW T p = 0
  · rw [houP_no h0] at h; cases h
  · rw [houP_go h0] at h
    obtain ⟨a, -, h⟩ := pb_inv h
    obtain ⟨c, -, h⟩ := pb_inv h
    obtain ⟨e, -, h⟩ := pb_inv h
    obtain ⟨k, -, h⟩ := pb_inv h
    by_cases hr : roomP D PP a.1 c.1 e.1 k.1
    · rw [endH_go (D := (D, PP)) hr] at h
      obtain ⟨q2, -, h⟩ := pb_inv h
      cases h
      exact adH_n _ _ _ _ _
    · rw [endH_no (D := (D, PP)) hr] at h; cases h
set_option maxRecDepth 20000 in
theorem lp_X5_readHouses {T : TX} (hT0 : TC M T) : ∀ (f n p : Nat) (D : FD) (PP : Nat) (M1 : XM), n + f = 6 → dn D = n → (n = 0 → isWd T 3 p) → DC M1 D PP → WD D PP → Tk M1 T p → FrP 5 M M1 → XW g l mX5_readHouses (d + 7) 17 [some (xr 5), some (xi (nI n))] [] M1 (PQc T (pb (itP T 3 (houP T) f p (D, PP)) (enP T)) M) := by
  intro f
  induction f with
  | zero =>
    intro n p D PP M1 hn hdn h0 hD hW hk hF
    have hT := hT0.frP hF (by decide)
    have h9 : tkK T p ≤ 4 := kdT_le T (tkS T p)
    refine xw_iload_n dX5_readHouses_17 rfl ?_
    refine xw_bipush (v := 6) dX5_readHouses_18 (by decide) ?_
    refine xw_icmp_gtN (b := 6) (tgt := 59) dX5_readHouses_20 (by decide) (by omega) (fun c20 => ?_) (fun c20 => ?_)
    · exfalso; omega
    · refine xw_aload_n dX5_readHouses_23 rfl ?_
      refine xw_ldcS (i := 3) dX5_readHouses_24 rfl (by decide) rfl ?_
      refine xw_cV1B dX5_readHouses_26 okX5_isWord ml_X5_65 rfl rfl rfl rfl (s_X5_isWord (i := 3) (by decide) hT hk) (fun p26 => ?_) (fun p26 => ?_)
      · refine xw_if_eq (tgt := 59) dX5_readHouses_29 (by decide) (fun q9 => absurd q9 (by decide)) (fun _ => ?_)
        refine xw_iload_n dX5_readHouses_32 rfl ?_
        refine xw_bipush (v := 6) dX5_readHouses_33 (by decide) ?_
        refine xw_icmp_neN (b := 6) (tgt := 44) dX5_readHouses_35 (by decide) (by omega) (fun c35 => ?_) (fun c35 => ?_)
        · exfalso; omega
        · refine xw_aload_n dX5_readHouses_38 rfl ?_
          refine xw_iconst (v := 3) dX5_readHouses_39 (by decide) ?_
          refine xw_cV1E dX5_readHouses_40 okX5_failWith ml_X5_69 rfl rfl rfl rfl (s_X5_failWith) ?_
          refine xw_iretz dX5_readHouses_43 rfl (Or.inl rfl) ?_
          exact PQc.fail (n := 3) (by rw [itP_0 p26]; rfl) hF hk.1
      · refine xw_if_eq (tgt := 59) dX5_readHouses_29 (by decide) (fun _ => ?_) (fun q9 => absurd q9 (by decide))
        refine xw_aload_n dX5_readHouses_59 rfl ?_
        refine xw_getV dX5_readHouses_60 fl_X5_38 rfl rfl (hk.2.2.1) ?_
        refine xw_if_eqN (tgt := 74) dX5_readHouses_63 (by decide) (by omega) (fun c63 => ?_) (fun c63 => ?_)
        · refine xw_iconst (v := 1) dX5_readHouses_74 (by decide) ?_
          refine xw_goto (tgt := 79) dX5_readHouses_75 (by decide) ?_
          refine xw_iretz dX5_readHouses_79 rfl (Or.inr rfl) ?_
          exact Or.inl ⟨p, D, PP, by rw [itP_no p26]; show enP T (p, D, PP) = _; rw [enP, if_pos ⟨show tkK T p = 0 by omega, show 0 < dn D by omega⟩], rfl, hD, hW, hk, hF⟩
        · refine xw_aload_n dX5_readHouses_66 rfl ?_
          refine xw_iconst (v := 1) dX5_readHouses_67 (by decide) ?_
          refine xw_cV1E dX5_readHouses_68 okX5_failWith ml_X5_69 rfl rfl rfl rfl (s_X5_failWith) ?_
          refine xw_if_eq (tgt := 78) dX5_readHouses_71 (by decide) (fun _ => ?_) (fun q9 => absurd q9 (by decide))
          refine xw_iconst (v := 0) dX5_readHouses_78 (by decide) ?_
          refine xw_iretz dX5_readHouses_79 rfl (Or.inl rfl) ?_
          exact PQc.fail (n := 1) (by rw [itP_no p26]; show enP T (p, D, PP) = _; rw [enP, if_neg (fun z => by have : tkK T p = 0 := z.1; omega)]) hF hk.1
  | succ f ih =>
    intro n p D PP M1 hn hdn h0 hD hW hk hF
    have hT := hT0.frP hF (by decide)
    have h9 : tkK T p ≤ 4 := kdT_le T (tkS T p)
    refine xw_iload_n dX5_readHouses_17 rfl ?_
    refine xw_bipush (v := 6) dX5_readHouses_18 (by decide) ?_
    refine xw_icmp_gtN (b := 6) (tgt := 59) dX5_readHouses_20 (by decide) (by omega) (fun c20 => ?_) (fun c20 => ?_)
    · exfalso; omega
    · refine xw_aload_n dX5_readHouses_23 rfl ?_
      refine xw_ldcS (i := 3) dX5_readHouses_24 rfl (by decide) rfl ?_
      refine xw_cV1B dX5_readHouses_26 okX5_isWord ml_X5_65 rfl rfl rfl rfl (s_X5_isWord (i := 3) (by decide) hT hk) (fun p26 => ?_) (fun p26 => ?_)
      · refine xw_if_eq (tgt := 59) dX5_readHouses_29 (by decide) (fun q9 => absurd q9 (by decide)) (fun _ => ?_)
        refine xw_iload_n dX5_readHouses_32 rfl ?_
        refine xw_bipush (v := 6) dX5_readHouses_33 (by decide) ?_
        refine xw_icmp_neN (b := 6) (tgt := 44) dX5_readHouses_35 (by decide) (by omega) (fun c35 => ?_) (fun c35 => ?_)
        · refine xw_aload_n dX5_readHouses_44 rfl ?_
          refine xw_cV0Q dX5_readHouses_45 okX5_readHouse ml_X5_99 rfl rfl rfl rfl (s_X5_readHouse hT hk hD hW (by omega)) ?_
          rintro _ M2 (⟨q1, D1, P1, hn1, rfl, hD1, hW1, hk1, hF1⟩ | ⟨n9, s9, hn1, rfl, hf1, hf2, hf3⟩)
          · refine xw_if_ne (tgt := 53) dX5_readHouses_48 (by decide) (fun _ => ?_) (fun q9 => absurd q9 (by decide))
            refine xw_iincN (v := 1) dX5_readHouses_53 (by decide) rfl rfl rfl ?_
            refine xw_goto (tgt := 17) dX5_readHouses_56 (by decide) ?_
            have hdn1 : dn D1 = dn D + 1 := houP_dn hn1
            rw [show pb (itP T 3 (houP T) (f + 1) p (D, PP)) (enP T) = pb (itP T 3 (houP T) f q1 (D1, P1)) (enP T) by rw [itP_s p26]; simp only [pb, hn1]]
            exact ih (n + 1) q1 D1 P1 M2 (by omega) (by omega) (fun z => absurd z (by omega)) hD1 hW1 hk1 (hF.tr hF1)
          · refine xw_if_ne (tgt := 53) dX5_readHouses_48 (by decide) (fun q9 => absurd q9 (by decide)) (fun _ => ?_)
            refine xw_iconst (v := 0) dX5_readHouses_51 (by decide) ?_
            refine xw_iretz dX5_readHouses_52 rfl (Or.inl rfl) ?_
            exact Or.inr ⟨n9, s9, by rw [itP_s p26]; simp only [pb, hn1], rfl, hf1, hf2, (hF.lo (by decide)).tr hf3⟩
        · exfalso; omega
      · refine xw_if_eq (tgt := 59) dX5_readHouses_29 (by decide) (fun _ => ?_) (fun q9 => absurd q9 (by decide))
        have hn0 : n ≠ 0 := fun z => p26 (h0 z)
        refine xw_aload_n dX5_readHouses_59 rfl ?_
        refine xw_getV dX5_readHouses_60 fl_X5_38 rfl rfl (hk.2.2.1) ?_
        refine xw_if_eqN (tgt := 74) dX5_readHouses_63 (by decide) (by omega) (fun c63 => ?_) (fun c63 => ?_)
        · refine xw_iconst (v := 1) dX5_readHouses_74 (by decide) ?_
          refine xw_goto (tgt := 79) dX5_readHouses_75 (by decide) ?_
          refine xw_iretz dX5_readHouses_79 rfl (Or.inr rfl) ?_
          exact Or.inl ⟨p, D, PP, by rw [itP_no p26]; show enP T (p, D, PP) = _; rw [enP, if_pos ⟨show tkK T p = 0 by omega, show 0 < dn D by omega⟩], rfl, hD, hW, hk, hF⟩
        · refine xw_aload_n dX5_readHouses_66 rfl ?_
          refine xw_iconst (v := 1) dX5_readHouses_67 (by decide) ?_
          refine xw_cV1E dX5_readHouses_68 okX5_failWith ml_X5_69 rfl rfl rfl rfl (s_X5_failWith) ?_
          refine xw_if_eq (tgt := 78) dX5_readHouses_71 (by decide) (fun _ => ?_) (fun q9 => absurd q9 (by decide))
          refine xw_iconst (v := 0) dX5_readHouses_78 (by decide) ?_
          refine xw_iretz dX5_readHouses_79 rfl (Or.inl rfl) ?_
          exact PQc.fail (n := 1) (by rw [itP_no p26]; show enP T (p, D, PP) = _; rw [enP, if_neg (fun z => by have : tkK T p = 0 := z.1; omega)]) hF hk.1
set_option maxRecDepth 20000 in
theorem s_X5_readHouses {T : TX} {p PP : Nat} {D : FD} (hT : TC M T) (hk : Tk M T p) (hD : DC M D PP) (hW : WD D PP) (hn0 : dn D = 0) : XC g l mX5_readHouses (d + 7) [xr 5] M (PQc T (pb (itP T 3 (houP T) 6 p (D, PP)) (enP T)) M) := by
  show XW g l mX5_readHouses _ 0 [some (xr 5), none] [] M _
  refine xw_aload_n dX5_readHouses_0 rfl ?_
  refine xw_ldcS (i := 3) dX5_readHouses_1 rfl (by decide) rfl ?_
  refine xw_cV1B dX5_readHouses_3 okX5_isWord ml_X5_65 rfl rfl rfl rfl (s_X5_isWord (i := 3) (by decide) hT hk) (fun p3 => ?_) (fun p3 => ?_)
  · refine xw_if_ne (tgt := 15) dX5_readHouses_6 (by decide) (fun _ => ?_) (fun q9 => absurd q9 (by decide))
    refine xw_iconst (v := 0) dX5_readHouses_15 (by decide) ?_
    refine xw_istore_n dX5_readHouses_16 rfl rfl ?_
    exact lp_X5_readHouses hT 6 0 p D PP M (by omega) hn0 (fun _ => p3) hD hW hk (FrP.rf _ _)
  · refine xw_if_ne (tgt := 15) dX5_readHouses_6 (by decide) (fun q9 => absurd q9 (by decide)) (fun _ => ?_)
    refine xw_aload_n dX5_readHouses_9 rfl ?_
    refine xw_iconst (v := 1) dX5_readHouses_10 (by decide) ?_
    refine xw_cV1E dX5_readHouses_11 okX5_failWith ml_X5_69 rfl rfl rfl rfl (s_X5_failWith) ?_
    refine xw_iretz dX5_readHouses_14 rfl (Or.inl rfl) ?_
    exact PQc.fail (n := 1) (by rw [itP_no p3]; show enP T (p, D, PP) = _; rw [enP, if_neg (fun z => by have : 0 < dn D := z.2; omega)]) (FrP.rf _ _) hk.1
theorem itP_dn {T : TX} {w : Nat} {one : Nat → DP → PR (Nat × DP)} (ho : ∀ p a q b, one p a = .inr (q, b) → dn b.1 = dn a.1) : ∀ (f p : Nat) (a : DP) (q : Nat) (b : DP), itP T w one f p a = .inr (q, b) → dn b.1 = dn a.1 := by
  intro f
  induction f with
  | zero =>
    intro p a q b h
    by_cases hw : isWd T w p
    · rw [itP_0 hw] at h; cases h
    · rw [itP_no hw] at h; cases h; rfl
  | succ f ih =>
    intro p a q b h
    by_cases hw : isWd T w p
    · rw [itP_s hw] at h
      obtain ⟨c, hc, h⟩ := pb_inv h
      exact (ih _ _ _ _ h).trans (ho _ _ _ _ hc)
    · rw [itP_no hw] at h; cases h; rfl
theorem walP_dn {T : TX} (p : Nat) (a : DP) (q : Nat) (b : DP) (h : walP T p a = .inr (q, b)) : dn b.1 = dn a.1 := by
  obtain ⟨c, -, h⟩ := pb_inv h
  obtain ⟨e, -, h⟩ := pb_inv h
  obtain ⟨k, -, h⟩ := pb_inv h
  cases h
  rfl
theorem patP_dn {T : TX} (p : Nat) (a : DP) (q : Nat) (b : DP) (h : patP T p a = .inr (q, b)) : dn b.1 = dn a.1 := by
  obtain ⟨c, -, h⟩ := pb_inv h
  obtain ⟨e, -, h⟩ := pb_inv h
  obtain ⟨k, -, h⟩ := pb_inv h
  obtain ⟨j, -, h⟩ := pb_inv h
  cases h
  rfl
theorem facP_dn {T : TX} {p q : Nat} {b : DP} (h : facP T p = .inr (q, b)) : dn b.1 = 0 := by
  by_cases hw : isWd T 0 p
  · rw [facP_go hw] at h
    obtain ⟨c, -, h⟩ := pb_inv h
    obtain ⟨e, -, h⟩ := pb_inv h
    obtain ⟨k, -, h⟩ := pb_inv h
    cases h
    rfl
  · rw [facP_no hw] at h; cases h
/-- all but the reader's numbers and the draft stays -/
def FrR (M M' : XM) : Prop := (∀ a b, a ≠ 5 → ¬ (16 ≤ a ∧ a ≤ 23) → M'.1 a b = M.1 a b) ∧ M'.2 = M.2 ∧ M'.1 5 1 = 0
def RQc (T : TX) (M : XM) : Option XV → XM → Prop := fun r M' => FrR M M' ∧ ((∃ p D P, fiP T = .inr (p, D, P) ∧ r = some (xi 1) ∧ DC M' D P ∧ WD D P ∧ M'.1 5 3 = M.1 5 3) ∨ (∃ n s, fiP T = .inl (n, s) ∧ r = some (xi 0) ∧ M'.1 5 3 = nI n ∧ M'.1 5 4 = nI s))
theorem FrR.of {M M1 : XM} {k : Nat} (h : FrP k M M1) : FrR M (xup M1 5 1 0) := ⟨fun a b q1 q2 => by rw [xup_cell _ _ q1]; exact h.1 a b (by omega) q2, h.2, xup_same _ _ _ _⟩
theorem DC.u5 {M : XM} {D : FD} {P j : Nat} {x : Int32} (h : DC M D P) : DC (xup M 5 j x) D P := h.f5 (k := 0) ⟨fun a b q => xup_cell _ _ (by omega), rfl⟩
set_option maxRecDepth 20000 in
theorem s_X5_readTape {T : TX} (hT : TC M T) : XC g l mX5_readTape (d + 8) [xr 5] M (RQc T M) := by
  show XW g l mX5_readTape _ 0 [some (xr 5), none] [] M _
  refine xw_aload_n dX5_readTape_0 rfl ?_
  refine xw_getR dX5_readTape_1 fl_X5_22 rfl rfl ?_
  refine xw_cV0N dX5_readTape_4 okX1_clear ml_X5_44 rfl rfl rfl rfl (s_X1_clear) ?_
  refine xw_aload_n dX5_readTape_7 rfl ?_
  refine xw_iconst (v := 0) dX5_readTape_8 (by decide) ?_
  refine xw_putI dX5_readTape_9 fp_X5_35 rfl rfl ?_
  have hT0 : TC (xup (clM M 8) 5 6 0) T := (hT.frP (clM_fr M) (by decide)).fr (k := 6) ((Fr5.rf 6 _).up (by decide)) (by decide)
  refine xw_aload_n dX5_readTape_12 rfl ?_
  refine xw_cV0Q dX5_readTape_13 okX5_takeToken ml_X5_47 rfl rfl rfl rfl (s_X5_takeToken (p := 0) hT0 (xup_same _ _ _ _) (Nat.zero_le _)) ?_
  rintro _ M0 ⟨rfl, hF0, hk0⟩
  have hFA : FrP 5 M M0 := (((clM_fr M)).f5 (j := 6) ((Fr5.rf 6 _).up (by decide)) (by decide)).f5 hF0 (by decide)
  have hTA := hT0.fr hF0 (by decide)
  have hDA : DC M0 d0 0 := (DC.u5 (clM_DC M)).f5 hF0
  have h3 : ∀ M5 : XM, FrP 5 M0 M5 → (xup M5 5 1 0).1 5 3 = M.1 5 3 := fun M5 z => by rw [xup_place _ _ (by decide), z.1 5 3 (by omega) (by omega)]; exact hFA.1 5 3 (by omega) (by omega)
  refine xw_aload_n dX5_readTape_16 rfl ?_
  refine xw_cV0Q dX5_readTape_17 okX5_readFacts ml_X5_50 rfl rfl rfl rfl (s_X5_readFacts hTA hk0 hDA) ?_
  rintro _ M1 (⟨q1, D1, P1, hn1, rfl, hD1, hW1, hk1, hF1⟩ | ⟨n9, s9, hn1, rfl, hf1, hf2, hf3⟩)
  · refine xw_if_eq (tgt := 48) dX5_readTape_20 (by decide) (fun q9 => absurd q9 (by decide)) (fun _ => ?_)
    refine xw_aload_n dX5_readTape_23 rfl ?_
    refine xw_cV0Q dX5_readTape_24 okX5_readWalls ml_X5_54 rfl rfl rfl rfl (s_X5_readWalls (hTA.frP hF1 (by decide)) hk1 hD1 hW1) ?_
    rintro _ M2 (⟨q2, D2, P2, hn2, rfl, hD2, hW2, hk2, hF2⟩ | ⟨n9, s9, hn2, rfl, hf1, hf2, hf3⟩)
    · refine xw_if_eq (tgt := 48) dX5_readTape_27 (by decide) (fun q9 => absurd q9 (by decide)) (fun _ => ?_)
      refine xw_aload_n dX5_readTape_30 rfl ?_
      refine xw_cV0Q dX5_readTape_31 okX5_readPaths ml_X5_57 rfl rfl rfl rfl (s_X5_readPaths ((hTA.frP hF1 (by decide)).frP hF2 (by decide)) hk2 hD2 hW2) ?_
      rintro _ M3 (⟨q3, D3, P3, hn3, rfl, hD3, hW3, hk3, hF3⟩ | ⟨n9, s9, hn3, rfl, hf1, hf2, hf3⟩)
      · refine xw_if_eq (tgt := 48) dX5_readTape_34 (by decide) (fun q9 => absurd q9 (by decide)) (fun _ => ?_)
        have hdn : dn D3 = 0 := (itP_dn patP_dn _ _ _ _ _ hn3).trans ((itP_dn walP_dn _ _ _ _ _ hn2).trans (facP_dn hn1))
        refine xw_aload_n dX5_readTape_37 rfl ?_
        refine xw_cV0Q dX5_readTape_38 okX5_readHouses ml_X5_60 rfl rfl rfl rfl (s_X5_readHouses (((hTA.frP hF1 (by decide)).frP hF2 (by decide)).frP hF3 (by decide)) hk3 hD3 hW3 hdn) ?_
        rintro _ M4 (⟨q4, D4, P4, hn4, rfl, hD4, hW4, hk4, hF4⟩ | ⟨n9, s9, hn4, rfl, hf1, hf2, hf3⟩)
        · refine xw_if_eq (tgt := 48) dX5_readTape_41 (by decide) (fun q9 => absurd q9 (by decide)) (fun _ => ?_)
          refine xw_iconst (v := 1) dX5_readTape_44 (by decide) ?_
          refine xw_goto (tgt := 49) dX5_readTape_45 (by decide) ?_
          refine xw_istore_n dX5_readTape_49 rfl rfl ?_
          refine xw_aload_n dX5_readTape_50 rfl ?_
          refine xw_iconst (v := 0) dX5_readTape_51 (by decide) ?_
          refine xw_putI dX5_readTape_52 fp_X5_15 rfl rfl ?_
          refine xw_iload_n dX5_readTape_55 rfl ?_
          refine xw_iretz dX5_readTape_56 rfl (Or.inr rfl) ?_
          exact ⟨FrR.of ((((hFA.tr hF1).tr hF2).tr hF3).tr hF4), Or.inl ⟨q4, D4, P4, by unfold fiP; simp only [pb_r hn1, pb_r hn2, pb_r hn3]; exact hn4, rfl, hD4.u5, hW4, h3 _ (((hF1.tr hF2).tr hF3).tr hF4)⟩⟩
        · have hz : fiP T = .inl (n9, s9) := by unfold fiP; simp only [pb_r hn1, pb_r hn2, pb_r hn3]; exact hn4
          have hFz := ((((hFA.tr hF1).tr hF2).tr hF3).lo (by decide : 3 ≤ 5)).tr hf3
          refine xw_if_eq (tgt := 48) dX5_readTape_41 (by decide) (fun _ => ?_) (fun q9 => absurd q9 (by decide))
          refine xw_iconst (v := 0) dX5_readTape_48 (by decide) ?_
          refine xw_istore_n dX5_readTape_49 rfl rfl ?_
          refine xw_aload_n dX5_readTape_50 rfl ?_
          refine xw_iconst (v := 0) dX5_readTape_51 (by decide) ?_
          refine xw_putI dX5_readTape_52 fp_X5_15 rfl rfl ?_
          refine xw_iload_n dX5_readTape_55 rfl ?_
          refine xw_iretz dX5_readTape_56 rfl (Or.inl rfl) ?_
          exact ⟨FrR.of hFz, Or.inr ⟨n9, s9, hz, rfl, (xup_place _ _ (by decide)).trans hf1, (xup_place _ _ (by decide)).trans hf2⟩⟩
      · have hz : fiP T = .inl (n9, s9) := by unfold fiP; simp only [pb_r hn1, pb_r hn2, pb_l hn3]
        have hFz := (((hFA.tr hF1).tr hF2).lo (by decide : 3 ≤ 5)).tr hf3
        refine xw_if_eq (tgt := 48) dX5_readTape_34 (by decide) (fun _ => ?_) (fun q9 => absurd q9 (by decide))
        refine xw_iconst (v := 0) dX5_readTape_48 (by decide) ?_
        refine xw_istore_n dX5_readTape_49 rfl rfl ?_
        refine xw_aload_n dX5_readTape_50 rfl ?_
        refine xw_iconst (v := 0) dX5_readTape_51 (by decide) ?_
        refine xw_putI dX5_readTape_52 fp_X5_15 rfl rfl ?_
        refine xw_iload_n dX5_readTape_55 rfl ?_
        refine xw_iretz dX5_readTape_56 rfl (Or.inl rfl) ?_
        exact ⟨FrR.of hFz, Or.inr ⟨n9, s9, hz, rfl, (xup_place _ _ (by decide)).trans hf1, (xup_place _ _ (by decide)).trans hf2⟩⟩
    · have hz : fiP T = .inl (n9, s9) := by unfold fiP; simp only [pb_r hn1, pb_l hn2]
      have hFz := ((hFA.tr hF1).lo (by decide : 3 ≤ 5)).tr hf3
      refine xw_if_eq (tgt := 48) dX5_readTape_27 (by decide) (fun _ => ?_) (fun q9 => absurd q9 (by decide))
      refine xw_iconst (v := 0) dX5_readTape_48 (by decide) ?_
      refine xw_istore_n dX5_readTape_49 rfl rfl ?_
      refine xw_aload_n dX5_readTape_50 rfl ?_
      refine xw_iconst (v := 0) dX5_readTape_51 (by decide) ?_
      refine xw_putI dX5_readTape_52 fp_X5_15 rfl rfl ?_
      refine xw_iload_n dX5_readTape_55 rfl ?_
      refine xw_iretz dX5_readTape_56 rfl (Or.inl rfl) ?_
      exact ⟨FrR.of hFz, Or.inr ⟨n9, s9, hz, rfl, (xup_place _ _ (by decide)).trans hf1, (xup_place _ _ (by decide)).trans hf2⟩⟩
  · have hz : fiP T = .inl (n9, s9) := by unfold fiP; rw [pb_l hn1]
    have hFz := (hFA.lo (by decide : 3 ≤ 5)).tr hf3
    refine xw_if_eq (tgt := 48) dX5_readTape_20 (by decide) (fun _ => ?_) (fun q9 => absurd q9 (by decide))
    refine xw_iconst (v := 0) dX5_readTape_48 (by decide) ?_
    refine xw_istore_n dX5_readTape_49 rfl rfl ?_
    refine xw_aload_n dX5_readTape_50 rfl ?_
    refine xw_iconst (v := 0) dX5_readTape_51 (by decide) ?_
    refine xw_putI dX5_readTape_52 fp_X5_15 rfl rfl ?_
    refine xw_iload_n dX5_readTape_55 rfl ?_
    refine xw_iretz dX5_readTape_56 rfl (Or.inl rfl) ?_
    exact ⟨FrR.of hFz, Or.inr ⟨n9, s9, hz, rfl, (xup_place _ _ (by decide)).trans hf1, (xup_place _ _ (by decide)).trans hf2⟩⟩
end READT
