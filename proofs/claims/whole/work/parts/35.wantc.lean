section WANT2
variable {g : XG} {l : Launch} {d : Nat} {M : XM}
theorem xw_cV6Q {y z : XY} {pc idx : Nat} {lx : List (Option XV)} {rest : List XV} {Q Q' : Option XV → XM → Prop} {a1 a2 a3 a4 a5 a6 : XV} {k ci N : Nat} {T : u_T} {ks : List (Option (Option Nat))} (hd : decode y.2.1 pc = .ok (.invokevirtual idx, 3)) (hz : XOk z 6) (hl : XLV y.1.cls idx z) (hs : xsh[k]? = some (.inl (ci, ks))) (hc : vwCl[ci]? = some (z.1.cls, T, N)) (hw : Nat.ble (xcs rest) 8 = true) (ha : Nat.ble (xcs [xr k, a1, a2, a3, a4, a5, a6]) z.2.2.1 = true) (hb : XC g l z d [xr k, a1, a2, a3, a4, a5, a6] M (Q')) (hk : ∀ r M', Q' r M' → XW g l y (d + 1) (pc + 3) lx (r.toList ++ rest) M' Q) : XW g l y (d + 1) pc lx (a6 :: a5 :: a4 :: a3 :: a2 :: a1 :: xr k :: rest) M Q :=
  xw_callV (as := [a1, a2, a3, a4, a5, a6]) hd hz hl hs hc rfl hw ha hb hk
def FrL (t : Nat) (M M' : XM) : Prop := (∀ a b, a ≠ 46 → M'.1 a b = M.1 a b) ∧ (∀ b, b < t → M'.1 46 b = M.1 46 b) ∧ M'.2 = M.2
theorem FrL.rf (t : Nat) (M : XM) : FrL t M M := ⟨fun _ _ _ => rfl, fun _ _ => rfl, rfl⟩
theorem FCS.frL {M M' : XM} {D : FD} {t : Nat} (h : FCS M 8 D) (hF : FrL t M M') : FCS M' 8 D := h.keep (fun b _ => hF.1 8 b (by decide)) (fun c b h1 h2 => hF.1 c b (by omega))
theorem miss_gt {x p q : Nat} (hx : x < 16) (hp : p < 16) (hq : q < 100) : nI q < nI x - nI p ↔ p + q < x := by
  rw [fa_lt, pk_sub_toInt (by omega) (by omega), nI_toInt (by omega)]
  omega
def crQ (D : FD) (h x j t P : Nat) (M : XM) : Option XV → XM → Prop := fun r M' => FrL t M M' ∧ ((r = some (xi 1) ∧ ∃ c, fsD D h x j P c ∧ ∀ i, i < j → M'.1 46 (t + i) = nI (c / 6 ^ (j - 1 - i) % 6)) ∨ (r = some (xi 0) ∧ ¬ exD D h x j P))
def crH (D : FD) (h x j t P : Nat) (M : XM) : Prop := FCS M 8 D ∧ t + j ≤ 4 ∧ P < 2 ^ 24 ∧ GW D P ∧ ∀ j2, j2 < j → ¬ exD D h x j2 P
theorem exD_0 {D : FD} {h x P : Nat} : exD D h x 0 P ↔ x ≤ px P h := ⟨fun ⟨_, _, h⟩ => h, fun h => ⟨0, by decide, h⟩⟩
set_option maxRecDepth 20000 in
theorem lp_canReach {D : FD} {h x j t PP : Nat} {mm : Int32} (hh : h < dn D) (hx : x < 16) (h0 : crH D h x (j + 1) t PP M) (ih0 : ∀ (t PP : Nat) (M : XM), crH D h x j t PP M → XC g l mX2_canReach (d + 4) [xr 43, xr 8, xi (nI PP), xi (nI h), xi (nI x), xi (nI j), xi (nI t)] M (crQ D h x j t PP M)) : ∀ (q k : Nat) (M1 : XM) (v9 : Option XV), k + q = dn D → FrL t M M1 → (∀ g2, g2 < k → ¬ drowned D PP g2 → ¬ exD D h x j (slP D PP g2)) → XW g l mX2_canReach (d + 5) 36 [some (xr 43), some (xr 8), some (xi (nI PP)), some (xi (nI h)), some (xi (nI x)), some (xi (nI (j + 1))), some (xi (nI t)), some (xi mm), some (xi (nI k)), v9] [] M1 (crQ D h x (j + 1) t PP M) := by
  obtain ⟨hC0, htj, hP, hg, hmin⟩ := h0
  have hhs : ∀ h, h < dn D → 1 ≤ dW D h := fun k hk => (hC0.2.2.2.2.2.2.2.2.2.2.2.2 k hk).2.1
  have hn6 := hC0.1
  intro q
  induction q with
  | zero =>
    intro k M1 v9 hk hF hno
    have hN := (hC0.frL hF).2.2.2.1
    refine xw_iload dX2_canReach_36 rfl ?_
    refine xw_aload_n dX2_canReach_38 rfl ?_
    refine xw_getV dX2_canReach_39 fl_X2_56 rfl rfl (hN) ?_
    refine xw_icmp_geN (tgt := 116) dX2_canReach_42 (by decide) (by omega) (fun c42 => ?_) (fun c42 => ?_)
    · refine xw_iconst (v := 0) dX2_canReach_116 (by decide) ?_
      refine xw_iretz dX2_canReach_117 rfl ?_ ?_
      · exact Or.inl rfl
      · exact ⟨hF, Or.inr ⟨rfl, fun z => by
          obtain ⟨g2, z1, z2, z3⟩ := (exD_step hn6).mp z
          exact hno g2 (by omega) z2 z3⟩⟩
    · exfalso; omega
  | succ q ih =>
    intro k M1 v9 hk hF hno
    have hC := hC0.frL hF
    have hN := hC.2.2.2.1
    have hsl := slV_lt D PP k hn6
    have nx : ∀ M2 u9, FrL t M M2 → (¬ drowned D PP k → ¬ exD D h x j (slP D PP k)) → XW g l mX2_canReach (d + 5) 36 [some (xr 43), some (xr 8), some (xi (nI PP)), some (xi (nI h)), some (xi (nI x)), some (xi (nI (j + 1))), some (xi (nI t)), some (xi mm), some (xi (nI (k + 1))), u9] [] M2 (crQ D h x (j + 1) t PP M) := fun M2 u9 z1 z2 => ih (k + 1) M2 u9 (by omega) z1 (fun g2 hg2 hd2 => by
      rcases Nat.lt_or_ge g2 k with z | z
      · exact hno g2 z hd2
      · have z : g2 = k := by omega
        subst z
        exact z2 hd2)
    refine xw_iload dX2_canReach_36 rfl ?_
    refine xw_aload_n dX2_canReach_38 rfl ?_
    refine xw_getV dX2_canReach_39 fl_X2_56 rfl rfl (hN) ?_
    refine xw_icmp_geN (tgt := 116) dX2_canReach_42 (by decide) (by omega) (fun c42 => ?_) (fun c42 => ?_)
    · exfalso; omega
    · refine xw_aload_n dX2_canReach_45 rfl ?_
      refine xw_iload_n dX2_canReach_46 rfl ?_
      refine xw_iload dX2_canReach_47 rfl ?_
      refine xw_cV2B dX2_canReach_49 okX1_isDrowned ml_X2_59 rfl rfl rfl rfl (s_X1_isDrowned xf_8 hC hP (by omega)) (fun p49 => ?_) (fun p49 => ?_)
      · refine xw_if_eq (tgt := 59) dX2_canReach_52 (by decide) (fun q9 => absurd q9 (by decide)) (fun _ => ?_)
        refine xw_iconst (v := 0) dX2_canReach_55 (by decide) ?_
        refine xw_goto (tgt := 66) dX2_canReach_56 (by decide) ?_
        refine xw_istore dX2_canReach_66 rfl rfl ?_
        refine xw_iload dX2_canReach_68 rfl ?_
        refine xw_if_eq (tgt := 110) dX2_canReach_70 (by decide) (fun _ => ?_) (fun q9 => absurd q9 (by decide))
        refine xw_iincN (v := 1) dX2_canReach_110 (by decide) rfl rfl rfl ?_
        refine xw_goto (tgt := 36) dX2_canReach_113 (by decide) ?_
        first
        | exact nx M1 _ hF (fun z => absurd (by assumption) z)
        | exact nx M1 _ hF (fun _ => by rw [slP_0 (by assumption)]; exact hmin j (by omega))
      · refine xw_if_eq (tgt := 59) dX2_canReach_52 (by decide) (fun _ => ?_) (fun q9 => absurd q9 (by decide))
        refine xw_aload_n dX2_canReach_59 rfl ?_
        refine xw_iload_n dX2_canReach_60 rfl ?_
        refine xw_iload dX2_canReach_61 rfl ?_
        refine xw_cV2E dX2_canReach_63 okX1_slidBy ml_X2_25 rfl rfl rfl rfl (s_X1_slidBy xf_8 hC hP (by omega)) ?_
        refine xw_istore dX2_canReach_66 rfl rfl ?_
        refine xw_iload dX2_canReach_68 rfl ?_
        refine xw_if_eqN (tgt := 110) dX2_canReach_70 (by decide) (by omega) (fun c70 => ?_) (fun c70 => ?_)
        · refine xw_iincN (v := 1) dX2_canReach_110 (by decide) rfl rfl rfl ?_
          refine xw_goto (tgt := 36) dX2_canReach_113 (by decide) ?_
          first
          | exact nx M1 _ hF (fun z => absurd (by assumption) z)
          | exact nx M1 _ hF (fun _ => by rw [slP_0 (by assumption)]; exact hmin j (by omega))
        · refine xw_aload_n dX2_canReach_73 rfl ?_
          refine xw_getR dX2_canReach_74 fl_X2_22 rfl rfl ?_
          refine xw_iload dX2_canReach_77 rfl ?_
          refine xw_iload dX2_canReach_79 rfl ?_
          refine xw_iasN _ dX2_canReach_81 rfl (rfl) rfl ?_ ?_
          · omega
          refine xw_aload_n dX2_canReach_82 rfl ?_
          refine xw_aload_n dX2_canReach_83 rfl ?_
          refine xw_aload_n dX2_canReach_84 rfl ?_
          refine xw_iload_n dX2_canReach_85 rfl ?_
          refine xw_iload dX2_canReach_86 rfl ?_
          refine xw_cV2E dX2_canReach_88 okX1_afterSlide ml_X2_31 rfl rfl rfl rfl (s_X1_afterSlide xf_8 (hC.keep (fun b _ => xup_cell _ _ (by decide)) (fun c b q1 q2 => xup_cell _ _ (by omega))) hsl) ?_
          refine xw_iload_n dX2_canReach_91 rfl ?_
          refine xw_iload dX2_canReach_92 rfl ?_
          refine xw_iload dX2_canReach_94 rfl ?_
          refine xw_iconst (v := 1) dX2_canReach_96 (by decide) ?_
          refine xw_isubN (b := 1) dX2_canReach_97 ?_ ?_
          · omega
          refine xw_iload dX2_canReach_98 rfl ?_
          refine xw_iconst (v := 1) dX2_canReach_100 (by decide) ?_
          refine xw_iaddN (b := 1) dX2_canReach_101 ?_
          have hm2 : crH D h x j (t + 1) (slP D PP k) (xup M1 46 t (nI k)) := ⟨hC.keep (fun b _ => xup_cell _ _ (by decide)) (fun c b q1 q2 => xup_cell _ _ (by omega)), by omega, (slP_px hP hn6 hg hhs).1, slP_GW hP hn6 (by omega) hg hhs, fun j2 hj2 z => hmin (j2 + 1) (by omega) ((exD_step hn6).mpr ⟨k, by omega, p49, z⟩)⟩
          refine xw_cV6Q dX2_canReach_102 okX2_canReach ml_X2_49 rfl rfl rfl rfl (ih0 (t + 1) (slP D PP k) _ hm2) ?_
          rintro _ M2 ⟨hF2, hz⟩
          have hF3 : FrL t M M2 := ⟨fun a b q => (hF2.1 a b q).trans ((xup_cell _ _ q).trans (hF.1 a b q)), fun b q => (hF2.2.1 b (by omega)).trans ((xup_place _ _ (by omega)).trans (hF.2.1 b q)), hF2.2.2.trans hF.2.2⟩
          rcases hz with ⟨rfl, c, hc, hd⟩ | ⟨rfl, hz⟩
          · refine xw_if_eq (tgt := 110) dX2_canReach_105 (by decide) (fun q9 => absurd q9 (by decide)) (fun _ => ?_)
            refine xw_iconst (v := 1) dX2_canReach_108 (by decide) ?_
            refine xw_iretz dX2_canReach_109 rfl (Or.inr rfl) ?_
            refine ⟨hF3, Or.inl ⟨rfl, k * 6 ^ j + c, fsD_step hn6 (by omega) p49 hc hno, fun i hi => ?_⟩⟩
            obtain ⟨e1, e2⟩ := dig_top (j := j) (g := k) (c := c) (by omega) hc.1
            cases i with
            | zero =>
              rw [show j + 1 - 1 - 0 = j by omega, e1]
              show M2.1 46 t = _
              rw [hF2.2.1 t (by omega), xup_same]
            | succ i =>
              rw [show t + (i + 1) = t + 1 + i by omega, hd i (by omega), show j + 1 - 1 - (i + 1) = j - 1 - i by omega, dig_same e2 (by omega)]
          refine xw_if_eq (tgt := 110) dX2_canReach_105 (by decide) (fun _ => ?_) (fun q9 => absurd rfl q9)
          refine xw_iincN (v := 1) dX2_canReach_110 (by decide) rfl rfl rfl ?_
          refine xw_goto (tgt := 36) dX2_canReach_113 (by decide) ?_
          exact nx M2 _ hF3 (fun _ => hz)
theorem c_canReach {D : FD} {h x : Nat} (hh : h < dn D) (hx : x < 16) : ∀ (j d t PP : Nat) (M : XM), crH D h x j t PP M → XC g l mX2_canReach (d + 4 + j) [xr 43, xr 8, xi (nI PP), xi (nI h), xi (nI x), xi (nI j), xi (nI t)] M (crQ D h x j t PP M) := by
  intro j
  induction j with
  | zero =>
    intro d t PP M h0
    obtain ⟨hC, htj, hP, hg, hmin⟩ := h0
    have hn6 := hC.1
    have hp := px_lt PP h
    have e1 := miss_gt (x := x) (p := px PP h) (q := 0) hx hp (by omega)
    show XW g l mX2_canReach _ 0 [some (xr 43), some (xr 8), some (xi (nI PP)), some (xi (nI h)), some (xi (nI x)), some (xi (nI 0)), some (xi (nI t)), none, none, none] [] M _
    refine xw_iload dX2_canReach_0 rfl ?_
    refine xw_aload_n dX2_canReach_2 rfl ?_
    refine xw_iload_n dX2_canReach_3 rfl ?_
    refine xw_iload_n dX2_canReach_4 rfl ?_
    refine xw_cV2E dX2_canReach_5 okX1_xOf ml_X2_53 rfl rfl rfl rfl (s_X1_xOf hP (by omega)) ?_
    refine xw_isub dX2_canReach_8 ?_
    refine xw_istore dX2_canReach_9 rfl rfl ?_
    refine xw_iload dX2_canReach_11 rfl ?_
    refine xw_if_gt (tgt := 18) dX2_canReach_13 (by decide) (fun c13 => ?_) (fun c13 => ?_)
    · refine xw_iload dX2_canReach_18 rfl ?_
      refine xw_iload dX2_canReach_20 rfl ?_
      refine xw_icmp_gt (tgt := 31) dX2_canReach_22 (by decide) (fun c22 => ?_) (fun c22 => ?_)
      · refine xw_iconst (v := 0) dX2_canReach_31 (by decide) ?_
        refine xw_iretz dX2_canReach_32 rfl (Or.inl rfl) ?_
        exact ⟨FrL.rf _ _, Or.inr ⟨rfl, fun z => absurd (exD_0.mp z) (by have := e1.mp c13; omega)⟩⟩
      · exact absurd c13 c22
    · refine xw_iconst (v := 1) dX2_canReach_16 (by decide) ?_
      refine xw_iretz dX2_canReach_17 rfl (Or.inr rfl) ?_
      have e2 : x ≤ px PP h := by
        have : ¬ px PP h + 0 < x := fun z => c13 (e1.mpr z)
        omega
      exact ⟨FrL.rf _ _, Or.inl ⟨rfl, 0, ⟨by decide, e2, fun _ z => absurd z (by omega)⟩, fun _ z => absurd z (by omega)⟩⟩
  | succ j ih =>
    intro d t PP M h0
    have h00 := h0
    obtain ⟨hC, htj, hP, hg, hmin⟩ := h0
    have hhs : ∀ h, h < dn D → 1 ≤ dW D h := fun k hk => (hC.2.2.2.2.2.2.2.2.2.2.2.2 k hk).2.1
    have hn6 := hC.1
    have hp := px_lt PP h
    have e1 := miss_gt (x := x) (p := px PP h) (q := 0) hx hp (by omega)
    have e2 := miss_gt (x := x) (p := px PP h) (q := j + 1) hx hp (by omega)
    have e3 : px PP h < x := Nat.lt_of_not_le fun z => hmin 0 (by omega) (exD_0.mpr z)
    rw [show d + 4 + (j + 1) = d + j + 5 by omega]
    show XW g l mX2_canReach (d + j + 5) 0 [some (xr 43), some (xr 8), some (xi (nI PP)), some (xi (nI h)), some (xi (nI x)), some (xi (nI (j + 1))), some (xi (nI t)), none, none, none] [] M _
    refine xw_iload dX2_canReach_0 rfl ?_
    refine xw_aload_n dX2_canReach_2 rfl ?_
    refine xw_iload_n dX2_canReach_3 rfl ?_
    refine xw_iload_n dX2_canReach_4 rfl ?_
    refine xw_cV2E dX2_canReach_5 okX1_xOf ml_X2_53 rfl rfl rfl rfl (s_X1_xOf hP (by omega)) ?_
    refine xw_isub dX2_canReach_8 ?_
    refine xw_istore dX2_canReach_9 rfl rfl ?_
    refine xw_iload dX2_canReach_11 rfl ?_
    refine xw_if_gt (tgt := 18) dX2_canReach_13 (by decide) (fun c13 => ?_) (fun c13 => ?_)
    · refine xw_iload dX2_canReach_18 rfl ?_
      refine xw_iload dX2_canReach_20 rfl ?_
      refine xw_icmp_gt (tgt := 31) dX2_canReach_22 (by decide) (fun c22 => ?_) (fun c22 => ?_)
      · refine xw_iconst (v := 0) dX2_canReach_31 (by decide) ?_
        refine xw_iretz dX2_canReach_32 rfl (Or.inl rfl) ?_
        exact ⟨FrL.rf _ _, Or.inr ⟨rfl, fun z => by
            obtain ⟨c, z1, z2⟩ := z
            have := okD_far hn6 hhs hh (j + 1) PP hP hg z2
            have := e2.mp c22
            omega⟩⟩
      · refine xw_iload dX2_canReach_25 rfl ?_
        refine xw_iconst (v := 4) dX2_canReach_27 (by decide) ?_
        refine xw_icmp_ltN (b := 4) (tgt := 33) dX2_canReach_28 (by decide) (by omega) (fun c28 => ?_) (fun c28 => ?_)
        · refine xw_iconst (v := 0) dX2_canReach_33 (by decide) ?_
          refine xw_istore dX2_canReach_34 rfl rfl ?_
          exact lp_canReach (d := d + j) hh hx h00 (fun t2 P2 M2 z => by have := ih (d) t2 P2 M2 z; rwa [show d + 4 + j = d + j + 4 by omega] at this) (dn D) 0 M none (by omega) (FrL.rf _ _) (fun _ z => absurd z (by omega))
        · first | exact absurd (e1.mpr (by omega)) c13 | (exfalso; omega)
    · first | exact absurd (e1.mpr (by omega)) c13 | (exfalso; omega)
/-- what wanted() finds: n lies, of code c -/
def wnR (D : FD) (h x P n c : Nat) : Prop := n ≤ 4 ∧ (∀ j2, j2 < n → ¬ exD D h x j2 P) ∧ fsD D h x n P c
def wnN (D : FD) (h x P : Nat) : Prop := ∀ j, j ≤ 4 → ¬ exD D h x j P
def wnA (D : FD) (h x P : Nat) (k r : Int32) : Prop := (∃ n c, wnR D h x P n c ∧ ((k = -1 ∧ r = nI n) ∨ (∃ i, i < n ∧ k = nI i ∧ r = nI (c / 6 ^ (n - 1 - i) % 6)) ∨ (k ≠ -1 ∧ ¬ (0 ≤ k ∧ k < nI n) ∧ r = -1000000))) ∨ (wnN D h x P ∧ r = -1000000)
theorem wnR_one {D : FD} {h x P n c n2 c2 : Nat} (h1 : wnR D h x P n c) (h2 : wnR D h x P n2 c2) : n = n2 ∧ c = c2 := by
  have e : n = n2 := by
    rcases Nat.lt_trichotomy n n2 with z | z | z
    · exact absurd ⟨c, h1.2.2.1, h1.2.2.2.1⟩ (h2.2.1 n z)
    · exact z
    · exact absurd ⟨c2, h2.2.2.1, h2.2.2.2.1⟩ (h1.2.1 n2 z)
  subst e
  exact ⟨rfl, fsD_one h1.2.2 h2.2.2⟩
theorem wnA_one {D : FD} {h x P : Nat} {k r r2 : Int32} (h1 : wnA D h x P k r) (h2 : wnA D h x P k r2) : r = r2 := by
  rcases h1 with ⟨n, c, a1, a2⟩ | ⟨a1, a2⟩ <;> rcases h2 with ⟨n2, c2, b1, b2⟩ | ⟨b1, b2⟩
  · obtain ⟨rfl, rfl⟩ := wnR_one a1 b1
    have hn := a1.1
    rcases a2 with ⟨q1, q2⟩ | ⟨i, q1, q2, q3⟩ | ⟨q1, q2, q3⟩ <;> rcases b2 with ⟨p1, p2⟩ | ⟨i2, p1, p2, p3⟩ | ⟨p1, p2, p3⟩
    · rw [q2, p2]
    · rw [q1] at p2; exact absurd p2.symm (nI_ne_m1 (by omega))
    · exact absurd q1 p1
    · rw [p1] at q2; exact absurd q2.symm (nI_ne_m1 (by omega))
    · have e : i = i2 := (nI_eq (by omega) (by omega)).mp (q2.symm.trans p2)
      rw [q3, p3, e]
    · exact absurd (by rw [q2]; exact nI_in0 (by omega) q1) p2
    · exact absurd p1 q1
    · exact absurd (by rw [p2]; exact nI_in0 (by omega) p1) q2
    · rw [q3, p3]
  · exact absurd ⟨c, a1.2.2.1, a1.2.2.2.1⟩ (b1 n a1.1)
  · exact absurd ⟨c2, b1.2.2.1, b1.2.2.2.1⟩ (a1 n2 b1.1)
  · rw [a2, b2]
set_option maxRecDepth 20000 in
theorem lp_X2_findLiars {D : FD} {h x PP : Nat} (hC : FCS M 8 D) (hh : h < dn D) (hx : x < 16) (hX : M.1 8 3 = nI PP) (hP : PP < 2 ^ 24) (hg : GW D PP)  : ∀ (q k : Nat) (M1 : XM), k + q = 5 → FrL 0 M M1 → (∀ j, j < k → ¬ exD D h x j PP) → XW g l mX2_findLiars (d + 9) 3 [some (xr 43), some (xr 8), some (xi (nI h)), some (xi (nI x)), some (xi (nI k))] [] M1 (fun r M' => FrL 0 M M' ∧ ((∃ n c, wnR D h x PP n c ∧ r = some (xi (nI n)) ∧ ∀ i, i < n → M'.1 46 i = nI (c / 6 ^ (n - 1 - i) % 6)) ∨ (wnN D h x PP ∧ r = some (xi (-1000000))))) := by
  intro q
  induction q with
  | zero =>
    intro k M1 hk hF hno
    refine xw_iload dX2_findLiars_3 rfl ?_
    refine xw_iconst (v := 4) dX2_findLiars_5 (by decide) ?_
    refine xw_icmp_gtN (b := 4) (tgt := 35) dX2_findLiars_6 (by decide) (by omega) (fun c6 => ?_) (fun c6 => ?_)
    · refine xw_ldc dX2_findLiars_35 kc_X2_34 ?_
      refine xw_ireti dX2_findLiars_37 rfl ?_
      exact ⟨hF, Or.inr ⟨fun j hj => hno j (by omega), rfl⟩⟩
    · exfalso; omega
  | succ q ih =>
    intro k M1 hk hF hno
    have hX1 : M1.1 8 3 = nI PP := (hF.1 8 3 (by decide)).trans hX
    have hcr := c_canReach (g := g) (l := l) hh hx k (d + 4 - k) 0 PP M1 ⟨hC.frL hF, by omega, hP, hg, hno⟩
    rw [show d + 4 - k + 4 + k = d + 8 by omega] at hcr
    refine xw_iload dX2_findLiars_3 rfl ?_
    refine xw_iconst (v := 4) dX2_findLiars_5 (by decide) ?_
    refine xw_icmp_gtN (b := 4) (tgt := 35) dX2_findLiars_6 (by decide) (by omega) (fun c6 => ?_) (fun c6 => ?_)
    · exfalso; omega
    · refine xw_aload_n dX2_findLiars_9 rfl ?_
      refine xw_aload_n dX2_findLiars_10 rfl ?_
      refine xw_aload_n dX2_findLiars_11 rfl ?_
      refine xw_getV dX2_findLiars_12 fl_X2_46 rfl rfl (hX1) ?_
      refine xw_iload_n dX2_findLiars_15 rfl ?_
      refine xw_iload_n dX2_findLiars_16 rfl ?_
      refine xw_iload dX2_findLiars_17 rfl ?_
      refine xw_iconst (v := 0) dX2_findLiars_19 (by decide) ?_
      refine xw_cV6Q dX2_findLiars_20 okX2_canReach ml_X2_49 rfl rfl rfl rfl hcr ?_
      rintro _ M2 ⟨hF2, hz⟩
      have hF3 : FrL 0 M M2 := ⟨fun a b q => (hF2.1 a b q).trans (hF.1 a b q), fun b q => absurd q (by omega), hF2.2.2.trans hF.2.2⟩
      rcases hz with ⟨rfl, c, hc, hd⟩ | ⟨rfl, hz⟩
      · refine xw_if_eq (tgt := 29) dX2_findLiars_23 (by decide) (fun q9 => absurd q9 (by decide)) (fun _ => ?_)
        refine xw_iload dX2_findLiars_26 rfl ?_
        refine xw_ireti dX2_findLiars_28 rfl ?_
        exact ⟨hF3, Or.inl ⟨k, c, ⟨by omega, hno, hc⟩, rfl, fun i hi => by have := hd i hi; rwa [Nat.zero_add] at this⟩⟩
      refine xw_if_eq (tgt := 29) dX2_findLiars_23 (by decide) (fun _ => ?_) (fun q9 => absurd rfl q9)
      refine xw_iincN (v := 1) dX2_findLiars_29 (by decide) rfl rfl rfl ?_
      refine xw_goto (tgt := 3) dX2_findLiars_32 (by decide) ?_
      exact ih (k + 1) M2 (by omega) hF3 (fun j hj => by
        rcases Nat.lt_or_ge j k with z | z
        · exact hno j z
        · rw [show j = k by omega]; exact hz)
set_option maxRecDepth 20000 in
theorem c_findLiars {D : FD} {h x PP : Nat} (hC : FCS M 8 D) (hh : h < dn D) (hx : x < 16) (hX : M.1 8 3 = nI PP) (hP : PP < 2 ^ 24) (hg : GW D PP)  : XC g l mX2_findLiars (d + 9) [xr 43, xr 8, xi (nI h), xi (nI x)] M (fun r M' => FrL 0 M M' ∧ ((∃ n c, wnR D h x PP n c ∧ r = some (xi (nI n)) ∧ ∀ i, i < n → M'.1 46 i = nI (c / 6 ^ (n - 1 - i) % 6)) ∨ (wnN D h x PP ∧ r = some (xi (-1000000))))) := by
  show XW g l mX2_findLiars _ 0 [some (xr 43), some (xr 8), some (xi (nI h)), some (xi (nI x)), none] [] M _
  refine xw_iconst (v := 0) dX2_findLiars_0 (by decide) ?_
  refine xw_istore dX2_findLiars_1 rfl rfl ?_
  exact lp_X2_findLiars hC hh hx hX hP hg 5 0 M (by omega) (FrL.rf _ _) (fun _ z => absurd z (by omega))
set_option maxRecDepth 20000 in
theorem s_X2_liar_no {k f : Int32} (h : ¬ (0 ≤ k ∧ k < f)) : XC g l mX2_liar d [xr 43, xi k, xi f] M (XE (some (xi (-1000000))) M) := by
  show XW g l mX2_liar _ 0 [some (xr 43), some (xi k), some (xi f)] [] M _
  refine xw_iload_n dX2_liar_0 rfl ?_
  refine xw_if_lt (tgt := 18) dX2_liar_1 (by decide) (fun c1 => ?_) (fun c1 => ?_)
  · refine xw_ldc dX2_liar_18 kc_X2_34 ?_
    refine xw_ireti dX2_liar_20 rfl ?_
    first | exact ⟨rfl, rfl⟩ | exact ⟨by simp_all, rfl⟩ | grind [XE]
  · refine xw_iload_n dX2_liar_4 rfl ?_
    refine xw_iload_n dX2_liar_5 rfl ?_
    refine xw_icmp_ge (tgt := 18) dX2_liar_6 (by decide) (fun c6 => ?_) (fun c6 => ?_)
    · refine xw_ldc dX2_liar_18 kc_X2_34 ?_
      refine xw_ireti dX2_liar_20 rfl ?_
      first | exact ⟨rfl, rfl⟩ | exact ⟨by simp_all, rfl⟩ | grind [XE]
    · exfalso; first | contradiction | omega | grind | simp_all
set_option maxRecDepth 20000 in
theorem s_X2_liar_ok {k f : Nat} (h : k < f) (hf : f ≤ 4) : XC g l mX2_liar d [xr 43, xi (nI k), xi (nI f)] M (XE (some (xi (M.1 46 k))) M) := by
  show XW g l mX2_liar _ 0 [some (xr 43), some (xi (nI k)), some (xi (nI f))] [] M _
  refine xw_iload_n dX2_liar_0 rfl ?_
  refine xw_if_ltN (tgt := 18) dX2_liar_1 (by decide) (by omega) ?_
  refine xw_iload_n dX2_liar_4 rfl ?_
  refine xw_iload_n dX2_liar_5 rfl ?_
  refine xw_icmp_geN (tgt := 18) dX2_liar_6 (by decide) (by omega) (fun c6 => ?_) (fun c6 => ?_)
  · exfalso; omega
  · refine xw_aload_n dX2_liar_9 rfl ?_
    refine xw_getR dX2_liar_10 fl_X2_22 rfl rfl ?_
    refine xw_iload_n dX2_liar_13 rfl ?_
    refine xw_ialN _ dX2_liar_14 rfl (rfl) (rfl) rfl ?_ ?_
    · omega
    refine xw_goto (tgt := 20) dX2_liar_15 (by decide) ?_
    refine xw_ireti dX2_liar_20 rfl ?_
    first | exact ⟨rfl, rfl⟩ | exact ⟨by simp_all, rfl⟩ | grind [XE]
set_option maxRecDepth 20000 in
theorem k_X7_wanted_bad {a x k : Int32} (h : ¬ ((0 ≤ a ∧ a < M.1 8 2) ∧ (0 ≤ x ∧ x < 16) ∧ -1 ≤ k)) : XC g l mX7_wanted (d + 10) [xr 0, xi a, xi x, xi k] M (XE (some (xi (-1000001))) M) := by
  show XW g l mX7_wanted _ 0 [some (xr 0), some (xi a), some (xi x), some (xi k), none] [] M _
  refine xw_aload_n dX7_wanted_0 rfl ?_
  refine xw_getR dX7_wanted_1 fl_X7_26 rfl rfl ?_
  refine xw_iload_n dX7_wanted_4 rfl ?_
  refine xw_cV1B dX7_wanted_5 okX1_isHouse ml_X7_133 rfl rfl rfl rfl (s_X1_isHouse xf_8 _) (fun p5 => ?_) (fun p5 => ?_)
  · refine xw_if_eq (tgt := 26) dX7_wanted_8 (by decide) (fun q9 => absurd q9 (by decide)) (fun _ => ?_)
    refine xw_iload_n dX7_wanted_11 rfl ?_
    refine xw_if_lt (tgt := 26) dX7_wanted_12 (by decide) (fun c12 => ?_) (fun c12 => ?_)
    · refine xw_ldc dX7_wanted_26 kc_X7_66 ?_
      refine xw_ireti dX7_wanted_28 rfl ?_
      first | exact ⟨rfl, rfl⟩ | exact ⟨by simp_all, rfl⟩ | grind [XE]
    · refine xw_iload_n dX7_wanted_15 rfl ?_
      refine xw_bipush (v := 16) dX7_wanted_16 (by decide) ?_
      refine xw_icmp_ge (tgt := 26) dX7_wanted_18 (by decide) (fun c18 => ?_) (fun c18 => ?_)
      · refine xw_ldc dX7_wanted_26 kc_X7_66 ?_
        refine xw_ireti dX7_wanted_28 rfl ?_
        first | exact ⟨rfl, rfl⟩ | exact ⟨by simp_all, rfl⟩ | grind [XE]
      · refine xw_iload_n dX7_wanted_21 rfl ?_
        refine xw_iconst (v := (-1)) dX7_wanted_22 (by decide) ?_
        refine xw_icmp_ge (tgt := 29) dX7_wanted_23 (by decide) (fun c23 => ?_) (fun c23 => ?_)
        · exfalso; first | contradiction | omega | grind | simp_all
        · refine xw_ldc dX7_wanted_26 kc_X7_66 ?_
          refine xw_ireti dX7_wanted_28 rfl ?_
          first | exact ⟨rfl, rfl⟩ | exact ⟨by simp_all, rfl⟩ | grind [XE]
  · refine xw_if_eq (tgt := 26) dX7_wanted_8 (by decide) (fun _ => ?_) (fun q9 => absurd q9 (by decide))
    refine xw_ldc dX7_wanted_26 kc_X7_66 ?_
    refine xw_ireti dX7_wanted_28 rfl ?_
    first | exact ⟨rfl, rfl⟩ | exact ⟨by simp_all, rfl⟩ | grind [XE]
set_option maxRecDepth 20000 in
theorem c_wanted {D : FD} {h x PP : Nat} (hC : FCS M 8 D) (hh : h < dn D) (hx : x < 16) (hX : M.1 8 3 = nI PP) (hP : PP < 2 ^ 24) (hg : GW D PP) {k : Int32} (hk : -1 ≤ k) : XC g l mX7_wanted (d + 10) [xr 0, xi (nI h), xi (nI x), xi k] M (fun r M' => (∃ w, r = some (xi w) ∧ wnA D h x PP k w) ∧ FrL 0 M M') := by
  have hN := hC.2.2.2.1
  have hn6 := hC.1
  have e0 : 0 ≤ nI h ∧ nI h < M.1 8 2 := by rw [hN]; exact nI_in0 (by omega) hh
  show XW g l mX7_wanted _ 0 [some (xr 0), some (xi (nI h)), some (xi (nI x)), some (xi k), none] [] M _
  refine xw_aload_n dX7_wanted_0 rfl ?_
  refine xw_getR dX7_wanted_1 fl_X7_26 rfl rfl ?_
  refine xw_iload_n dX7_wanted_4 rfl ?_
  refine xw_cV1B dX7_wanted_5 okX1_isHouse ml_X7_133 rfl rfl rfl rfl (s_X1_isHouse xf_8 _) (fun p5 => ?_) (fun p5 => ?_)
  · refine xw_if_eq (tgt := 26) dX7_wanted_8 (by decide) (fun q9 => absurd q9 (by decide)) (fun _ => ?_)
    refine xw_iload_n dX7_wanted_11 rfl ?_
    refine xw_if_ltN (tgt := 26) dX7_wanted_12 (by decide) (by omega) ?_
    refine xw_iload_n dX7_wanted_15 rfl ?_
    refine xw_bipush (v := 16) dX7_wanted_16 (by decide) ?_
    refine xw_icmp_geN (b := 16) (tgt := 26) dX7_wanted_18 (by decide) (by omega) (fun c18 => ?_) (fun c18 => ?_)
    · exfalso; first | contradiction | omega | grind
    · refine xw_iload_n dX7_wanted_21 rfl ?_
      refine xw_iconst (v := (-1)) dX7_wanted_22 (by decide) ?_
      refine xw_icmp_ge (tgt := 29) dX7_wanted_23 (by decide) (fun c23 => ?_) (fun c23 => ?_)
      · refine xw_aload_n dX7_wanted_29 rfl ?_
        refine xw_getR dX7_wanted_30 fl_X7_44 rfl rfl ?_
        refine xw_aload_n dX7_wanted_33 rfl ?_
        refine xw_getR dX7_wanted_34 fl_X7_26 rfl rfl ?_
        refine xw_iload_n dX7_wanted_37 rfl ?_
        refine xw_iload_n dX7_wanted_38 rfl ?_
        refine xw_cV3Q dX7_wanted_39 okX2_findLiars ml_X7_213 rfl rfl rfl rfl (c_findLiars hC hh hx hX hP hg) ?_
        rintro _ M2 ⟨hF2, hz⟩
        rcases hz with ⟨n, c, hw, rfl, hd⟩ | ⟨hw, rfl⟩
        · refine xw_istore dX7_wanted_42 rfl rfl ?_
          refine xw_iload_n dX7_wanted_44 rfl ?_
          refine xw_iconst (v := (-1)) dX7_wanted_45 (by decide) ?_
          refine xw_icmp_ne (tgt := 54) dX7_wanted_46 (by decide) (fun c46 => ?_) (fun c46 => ?_)
          · have hlr : XC g l mX2_liar (d + 9) [xr 43, xi k, xi (nI n)] M2 (fun r M' => (∃ w, r = some (xi w) ∧ wnA D h x PP k w) ∧ M' = M2) := by
              by_cases hkn : 0 ≤ k ∧ k < nI n
              · obtain ⟨i, hi, rfl⟩ := nv_lit (x := k) (n := n) (by have := hw.1; omega) hkn.1 hkn.2
                refine (s_X2_liar_ok hi hw.1).mono (fun r M3 hq => ?_)
                obtain ⟨rfl, rfl⟩ := hq
                exact ⟨⟨_, rfl, Or.inl ⟨n, c, hw, Or.inr (Or.inl ⟨i, hi, rfl, hd i hi⟩)⟩⟩, rfl⟩
              · refine (s_X2_liar_no hkn).mono (fun r M3 hq => ?_)
                obtain ⟨rfl, rfl⟩ := hq
                exact ⟨⟨_, rfl, Or.inl ⟨n, c, hw, Or.inr (Or.inr ⟨c46, hkn, rfl⟩)⟩⟩, rfl⟩
            refine xw_aload_n dX7_wanted_54 rfl ?_
            refine xw_getR dX7_wanted_55 fl_X7_44 rfl rfl ?_
            refine xw_iload_n dX7_wanted_58 rfl ?_
            refine xw_iload dX7_wanted_59 rfl ?_
            refine xw_cV2Q dX7_wanted_61 okX2_liar ml_X7_217 rfl rfl rfl rfl (hlr) ?_
            rintro _ M3 ⟨⟨w, rfl, hw2⟩, rfl⟩
            refine xw_ireti dX7_wanted_64 rfl ?_
            first | exact ⟨⟨_, rfl, hw2⟩, hF2⟩ | exact ⟨⟨_, rfl, Or.inl ⟨n, c, hw, Or.inl ⟨c46, rfl⟩⟩⟩, hF2⟩
          · refine xw_iload dX7_wanted_49 rfl ?_
            refine xw_goto (tgt := 64) dX7_wanted_51 (by decide) ?_
            refine xw_ireti dX7_wanted_64 rfl ?_
            first | exact ⟨⟨_, rfl, hw2⟩, hF2⟩ | exact ⟨⟨_, rfl, Or.inl ⟨n, c, hw, Or.inl ⟨c46, rfl⟩⟩⟩, hF2⟩
        · refine xw_istore dX7_wanted_42 rfl rfl ?_
          refine xw_iload_n dX7_wanted_44 rfl ?_
          refine xw_iconst (v := (-1)) dX7_wanted_45 (by decide) ?_
          refine xw_icmp_ne (tgt := 54) dX7_wanted_46 (by decide) (fun c46 => ?_) (fun c46 => ?_)
          · refine xw_aload_n dX7_wanted_54 rfl ?_
            refine xw_getR dX7_wanted_55 fl_X7_44 rfl rfl ?_
            refine xw_iload_n dX7_wanted_58 rfl ?_
            refine xw_iload dX7_wanted_59 rfl ?_
            refine xw_cV2E dX7_wanted_61 okX2_liar ml_X7_217 rfl rfl rfl rfl (s_X2_liar_no (by grind)) ?_
            refine xw_ireti dX7_wanted_64 rfl ?_
            exact ⟨⟨_, rfl, Or.inr ⟨hw, rfl⟩⟩, hF2⟩
          · refine xw_iload dX7_wanted_49 rfl ?_
            refine xw_goto (tgt := 64) dX7_wanted_51 (by decide) ?_
            refine xw_ireti dX7_wanted_64 rfl ?_
            exact ⟨⟨_, rfl, Or.inr ⟨hw, rfl⟩⟩, hF2⟩
      · exfalso; first | contradiction | omega | grind
  · exfalso; first | contradiction | omega | grind
end WANT2
