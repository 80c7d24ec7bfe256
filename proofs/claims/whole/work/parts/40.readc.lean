section READC
variable {g : XG} {l : Launch} {d : Nat} {M : XM}
def FrP (k : Nat) (M M' : XM) : Prop := (∀ a b, ¬ (a = 5 ∧ k ≤ b) → ¬ (16 ≤ a ∧ a ≤ 23) → M'.1 a b = M.1 a b) ∧ M'.2 = M.2
theorem FrP.rf (k : Nat) (M : XM) : FrP k M M := ⟨fun _ _ _ _ => rfl, rfl⟩
theorem FrP.f5 {k j : Nat} {M M1 M2 : XM} (h : FrP k M M1) (h2 : Fr5 j M1 M2) (hj : k ≤ j) : FrP k M M2 := ⟨fun a b q1 q2 => (h2.1 a b (by omega)).trans (h.1 a b q1 q2), h2.2.trans h.2⟩
theorem FrP.lo {k j : Nat} {M M1 : XM} (h : FrP k M M1) (hj : j ≤ k) : FrP j M M1 := ⟨fun a b q1 q2 => h.1 a b (by omega) q2, h.2⟩
theorem FrP.up {k a j : Nat} {M M1 : XM} {x : Int32} (h : FrP k M M1) (ha : 16 ≤ a ∧ a ≤ 23) : FrP k M (xup M1 a j x) := ⟨fun c b q1 q2 => by rw [xup_at, if_neg (by omega)]; exact h.1 c b q1 q2, h.2⟩
theorem FrP.tr {k : Nat} {M M1 M2 : XM} (h : FrP k M M1) (h2 : FrP k M1 M2) : FrP k M M2 := ⟨fun a b q1 q2 => (h2.1 a b q1 q2).trans (h.1 a b q1 q2), h2.2.trans h.2⟩
theorem TC.up {M : XM} {T : TX} {a j : Nat} {x : Int32} (h : TC M T) (ha : 16 ≤ a ∧ a ≤ 23) : TC (xup M a j x) T := ⟨(xup_cell _ _ (by omega)).trans h.1, h.2.1, fun i hi => ⟨(xup_cell _ _ (by omega)).trans (h.2.2 i hi).1, (h.2.2 i hi).2⟩⟩
theorem TC.frP {M M' : XM} {T : TX} {k : Nat} (h : TC M T) (hF : FrP k M M') (hk : 2 ≤ k) : TC M' T := ⟨(hF.1 5 1 (by omega) (by omega)).trans h.1, h.2.1, fun i hi => ⟨(hF.1 6 i (by omega) (by omega)).trans (h.2.2 i hi).1, (h.2.2 i hi).2⟩⟩
theorem DC.f5 {M M' : XM} {D : FD} {P k : Nat} (h : DC M D P) (hF : Fr5 k M M') : DC M' D P := ⟨h.1.keep (fun b _ => hF.1 _ _ (by omega)) (fun c b q1 q2 => hF.1 _ _ (by omega)), (hF.1 _ _ (by omega)).trans h.2.1, fun j hj => (hF.1 _ _ (by omega)).trans (h.2.2 j hj)⟩
/-- what a reading's piece leaves: R is what the text holds -/
def PQc (T : TX) (Z : PR (Nat × DP)) (M : XM) : Option XV → XM → Prop := fun r M' => (∃ p D P, Z = .inr (p, D, P) ∧ r = some (xi 1) ∧ DC M' D P ∧ WD D P ∧ Tk M' T p ∧ FrP 5 M M') ∨ (∃ n s, Z = .inl (n, s) ∧ r = some (xi 0) ∧ M'.1 5 3 = nI n ∧ M'.1 5 4 = nI s ∧ FrP 3 M M')
theorem PQc.bad {T : TX} {Z : PR (Nat × DP)} {M M1 M2 : XM} {n s : Nat} (h : Z = .inl (n, s)) (hF : FrP 5 M M1) (hf : FlC M1 M2 n s) : PQc T Z M (some (xi 0)) M2 := Or.inr ⟨n, s, h, rfl, hf.1, hf.2.1, (hF.lo (by decide)).f5 hf.2.2 (Nat.le_refl _)⟩
theorem PQc.fail {T : TX} {Z : PR (Nat × DP)} {M M1 : XM} {n s : Nat} (h : Z = .inl (n, s)) (hF : FrP 5 M M1) (hS : M1.1 5 5 = nI s) : PQc T Z M (some (xi 0)) (xup (xup M1 5 3 (nI n)) 5 4 (M1.1 5 5)) := PQc.bad h hF (FlC.of (Fr5.rf _ _) hS)
def clM (M : XM) (k : Nat) : XM := (fun a b => if a = 16 ∧ b < 4 then 0 else if (a = 17 ∨ a = 18) ∧ b < k then 0 else M.1 a b, M.2)
theorem clM_s (M : XM) (k : Nat) : xup (xup (clM M k) 17 k 0) 18 k 0 = clM M (k + 1) := xm_ext (fun a b => by
  rw [xup_at, xup_at]
  unfold clM
  dsimp only
  by_cases q : a = 16 ∧ b < 4
  · rw [if_neg (by omega), if_neg (by omega), if_pos q, if_pos q]
  · rw [if_neg q, if_neg q]
    by_cases q2 : (a = 17 ∨ a = 18) ∧ b < k + 1
    · rw [if_pos q2]
      by_cases q3 : a = 18 ∧ b = k
      · rw [if_pos q3]
      · rw [if_neg q3]
        by_cases q4 : a = 17 ∧ b = k
        · rw [if_pos q4]
        · rw [if_neg q4, if_pos (by omega)]
    · rw [if_neg q2, if_neg (by omega), if_neg (by omega), if_neg (by omega)]) (fun _ _ => rfl)
theorem clM_0 (M : XM) : xup (xup (xup (xup M 16 0 0) 16 1 0) 16 2 0) 16 3 0 = clM M 0 := xm_ext (fun a b => by
  rw [xup_at, xup_at, xup_at, xup_at]
  unfold clM
  dsimp only
  by_cases q : a = 16 ∧ b < 4
  · rw [if_pos q]
    repeat' split
    all_goals first | rfl | omega
  · rw [if_neg q, if_neg (by omega), if_neg (by omega), if_neg (by omega), if_neg (by omega), if_neg (by omega)]) (fun _ _ => rfl)
theorem clM_fr (M : XM) : FrP 5 M (clM M 8) := ⟨fun a b _ q => by unfold clM; dsimp only; rw [if_neg (by omega), if_neg (by omega)], rfl⟩
theorem clM_DC (M : XM) : DC (clM M 8) d0 0 := by
  have e : ∀ b, b < 4 → (clM M 8).1 16 b = 0 := fun b hb => by unfold clM; dsimp only; rw [if_pos ⟨rfl, hb⟩]
  have e1 : ∀ b, b < 8 → (clM M 8).1 17 b = 0 := fun b hb => by unfold clM; dsimp only; rw [if_neg (by omega), if_pos ⟨Or.inl rfl, hb⟩]
  have e2 : ∀ b, b < 8 → (clM M 8).1 18 b = 0 := fun b hb => by unfold clM; dsimp only; rw [if_neg (by omega), if_pos ⟨Or.inr rfl, hb⟩]
  have hz : ∀ h, ¬ h < dn d0 := fun h => Nat.not_lt_zero h
  exact ⟨⟨by decide, ⟨e 0 (by decide), by decide⟩, ⟨e 1 (by decide), by decide⟩, e 2 (by decide), e1, fun _ _ => (show 0 < 65536 by decide), e2, fun _ _ => (show 0 < 65536 by decide), fun h q => absurd q (hz h), fun h q => absurd q (hz h), fun h q => absurd q (hz h), fun h q => absurd q (hz h), fun h q => absurd q (hz h)⟩, e 3 (by decide), fun h q => absurd q (hz h)⟩
theorem DC_F {M M' : XM} {t r : Nat} (h : DC M d0 0) (ht : t < 256) (hr : r ≤ 15) (h0 : M'.1 16 0 = nI t) (h1 : M'.1 16 1 = nI r) (he : ∀ a b, 16 ≤ a → a ≤ 23 → ¬ (a = 16 ∧ b < 2) → M'.1 a b = M.1 a b) : DC M' (adF d0 t r) 0 := by
  obtain ⟨⟨g1, g2, g3, g4, g5, g6, g7, g8, g9, g10, g11, g12, g13⟩, hX, hL⟩ := h
  have hz : ∀ h, ¬ h < dn (adF d0 t r) := fun h => Nat.not_lt_zero h
  exact ⟨⟨show 0 ≤ 6 by decide, ⟨h0, ht⟩, ⟨h1, hr⟩, (he _ _ (by decide) (by decide) (by omega)).trans g4, fun v hv => (he _ _ (by decide) (by decide) (by omega)).trans (g5 v hv), g6, fun v hv => (he _ _ (by decide) (by decide) (by omega)).trans (g7 v hv), g8, fun h q => absurd q (hz h), fun h q => absurd q (hz h), fun h q => absurd q (hz h), fun h q => absurd q (hz h), fun h q => absurd q (hz h)⟩, (he _ _ (by decide) (by decide) (by omega)).trans hX, fun h q => absurd q (hz h)⟩
theorem DC_W {M : XM} {D : FD} {P x y : Nat} (h : DC M D P) (hx : x < 16) (hy : y < 8) : DC (xup M 17 y (nI (dwl D y ||| 2 ^ x))) (adW D x y) P := ⟨FCS_W h.1 hx hy, (xup_cell _ _ (by decide)).trans h.2.1, fun j hj => (xup_cell _ _ (by decide)).trans (h.2.2 j hj)⟩
theorem DC_P {M : XM} {D : FD} {P y f k : Nat} (h : DC M D P) (hf : f ≤ k) (hk : k ≤ 16) (hy : y < 8) : DC (xup M 18 y (nI (dpt D y ||| (2 ^ k - 2 ^ f)))) (adP D y f k) P := ⟨FCS_P h.1 hf hk hy, (xup_cell _ _ (by decide)).trans h.2.1, fun j hj => (xup_cell _ _ (by decide)).trans (h.2.2 j hj)⟩
theorem ahM_fr {M M1 : XM} {n k : Nat} {a b c e f : Int32} (h : FrP k M M1) : FrP k M (ahM M1 n a b c e f) := ((((((h.up (by decide)).up (by decide)).up (by decide)).up (by decide)).up (by decide)).up (by decide)).up (by decide)
theorem ahM_5 (M1 : XM) (n c j : Nat) (a b w e f : Int32) (hc : c < 16) : (ahM M1 n a b w e f).1 c j = M1.1 c j := by
  unfold ahM
  rw [xup_cell _ _ (by omega), xup_cell _ _ (by omega), xup_cell _ _ (by omega), xup_cell _ _ (by omega), xup_cell _ _ (by omega), xup_cell _ _ (by omega), xup_cell _ _ (by omega)]
set_option maxRecDepth 20000 in
theorem lp_X1_clear  : ∀ (q k : Nat), k + q = 8 → XW g l mX1_clear d 22 [some (xr 16), some (xi (nI k))] [] (clM M k) (XE none (clM M 8)) := by
  intro q
  induction q with
  | zero =>
    intro k hk
    have hk : k = 8 := by omega
    subst hk
    refine xw_iload_n dX1_clear_22 rfl ?_
    refine xw_bipush (v := 8) dX1_clear_23 (by decide) ?_
    refine xw_icmp_geN (b := 8) (tgt := 48) dX1_clear_25 (by decide) (by omega) (fun c25 => ?_) (fun c25 => ?_)
    · refine xw_ret dX1_clear_48 rfl ?_
      first | exact ⟨rfl, rfl⟩ | exact ⟨rfl, by simp_all⟩
    · exfalso; omega
  | succ q ih =>
    intro k hk
    have ih2 := ih (k + 1) (by omega)
    rw [← clM_s] at ih2
    refine xw_iload_n dX1_clear_22 rfl ?_
    refine xw_bipush (v := 8) dX1_clear_23 (by decide) ?_
    refine xw_icmp_geN (b := 8) (tgt := 48) dX1_clear_25 (by decide) (by omega) (fun c25 => ?_) (fun c25 => ?_)
    · exfalso; omega
    · refine xw_aload_n dX1_clear_28 rfl ?_
      refine xw_getR dX1_clear_29 fl_X1_24 rfl rfl ?_
      refine xw_iload_n dX1_clear_32 rfl ?_
      refine xw_iconst (v := 0) dX1_clear_33 (by decide) ?_
      refine xw_iasN _ dX1_clear_34 rfl (rfl) rfl ?_ ?_
      · omega
      refine xw_aload_n dX1_clear_35 rfl ?_
      refine xw_getR dX1_clear_36 fl_X1_28 rfl rfl ?_
      refine xw_iload_n dX1_clear_39 rfl ?_
      refine xw_iconst (v := 0) dX1_clear_40 (by decide) ?_
      refine xw_iasN _ dX1_clear_41 rfl (rfl) rfl ?_ ?_
      · omega
      refine xw_iincN (v := 1) dX1_clear_42 (by decide) rfl rfl rfl ?_
      refine xw_goto (tgt := 22) dX1_clear_45 (by decide) ?_
      exact ih2
set_option maxRecDepth 20000 in
theorem s_X1_clear  : XC g l mX1_clear d [xr 16] M (XE none (clM M 8)) := by
  show XW g l mX1_clear _ 0 [some (xr 16), none] [] M _
  refine xw_aload_n dX1_clear_0 rfl ?_
  refine xw_iconst (v := 0) dX1_clear_1 (by decide) ?_
  refine xw_putI dX1_clear_2 fp_X1_9 rfl rfl ?_
  refine xw_aload_n dX1_clear_5 rfl ?_
  refine xw_iconst (v := 0) dX1_clear_6 (by decide) ?_
  refine xw_putI dX1_clear_7 fp_X1_15 rfl rfl ?_
  refine xw_aload_n dX1_clear_10 rfl ?_
  refine xw_iconst (v := 0) dX1_clear_11 (by decide) ?_
  refine xw_putI dX1_clear_12 fp_X1_18 rfl rfl ?_
  refine xw_aload_n dX1_clear_15 rfl ?_
  refine xw_iconst (v := 0) dX1_clear_16 (by decide) ?_
  refine xw_putI dX1_clear_17 fp_X1_21 rfl rfl ?_
  refine xw_iconst (v := 0) dX1_clear_20 (by decide) ?_
  refine xw_istore_n dX1_clear_21 rfl rfl ?_
  rw [clM_0]
  exact lp_X1_clear 8 0 (by omega)
set_option maxRecDepth 20000 in
theorem s_X1_addHouse {n PP x : Nat} {kd y w h : Int32} (hN : M.1 16 2 = nI n) (hX : M.1 16 3 = nI PP) (hn : n < 6) (hx : x < 16) : XC g l mX1_addHouse d [xr 16, xi kd, xi (nI x), xi y, xi w, xi h] M (XE none (ahM M n kd y w h (nI (PP ||| x * 2 ^ (4 * n))))) := by
  have h24 : x * 2 ^ (4 * n) < 2 ^ 32 := Nat.lt_of_lt_of_le (Nat.mul_lt_mul_of_pos_right hx (Nat.two_pow_pos _)) (Nat.le_trans (Nat.mul_le_mul_left 16 (Nat.pow_le_pow_right (by decide) (show 4 * n ≤ 20 by omega))) (by decide))
  show XW g l mX1_addHouse _ 0 [some (xr 16), some (xi kd), some (xi (nI x)), some (xi y), some (xi w), some (xi h)] [] M _
  refine xw_aload_n dX1_addHouse_0 rfl ?_
  refine xw_getR dX1_addHouse_1 fl_X1_31 rfl rfl ?_
  refine xw_aload_n dX1_addHouse_4 rfl ?_
  refine xw_getV dX1_addHouse_5 fl_X1_18 rfl rfl (hN) ?_
  refine xw_iload_n dX1_addHouse_8 rfl ?_
  refine xw_iasN _ dX1_addHouse_9 rfl (rfl) rfl ?_ ?_
  · omega
  refine xw_aload_n dX1_addHouse_10 rfl ?_
  refine xw_getR dX1_addHouse_11 fl_X1_34 rfl rfl ?_
  refine xw_aload_n dX1_addHouse_14 rfl ?_
  refine xw_getV dX1_addHouse_15 fl_X1_18 rfl rfl (show _ = nI n by simp only [xup_at]; simpa using hN) ?_
  refine xw_iload_n dX1_addHouse_18 rfl ?_
  refine xw_iasN _ dX1_addHouse_19 rfl (rfl) rfl ?_ ?_
  · omega
  refine xw_aload_n dX1_addHouse_20 rfl ?_
  refine xw_getR dX1_addHouse_21 fl_X1_37 rfl rfl ?_
  refine xw_aload_n dX1_addHouse_24 rfl ?_
  refine xw_getV dX1_addHouse_25 fl_X1_18 rfl rfl (show _ = nI n by simp only [xup_at]; simpa using hN) ?_
  refine xw_iload dX1_addHouse_28 rfl ?_
  refine xw_iasN _ dX1_addHouse_30 rfl (rfl) rfl ?_ ?_
  · omega
  refine xw_aload_n dX1_addHouse_31 rfl ?_
  refine xw_getR dX1_addHouse_32 fl_X1_40 rfl rfl ?_
  refine xw_aload_n dX1_addHouse_35 rfl ?_
  refine xw_getV dX1_addHouse_36 fl_X1_18 rfl rfl (show _ = nI n by simp only [xup_at]; simpa using hN) ?_
  refine xw_iload dX1_addHouse_39 rfl ?_
  refine xw_iasN _ dX1_addHouse_41 rfl (rfl) rfl ?_ ?_
  · omega
  refine xw_aload_n dX1_addHouse_42 rfl ?_
  refine xw_getR dX1_addHouse_43 fl_X1_43 rfl rfl ?_
  refine xw_aload_n dX1_addHouse_46 rfl ?_
  refine xw_getV dX1_addHouse_47 fl_X1_18 rfl rfl (show _ = nI n by simp only [xup_at]; simpa using hN) ?_
  refine xw_iconst (v := 0) dX1_addHouse_50 (by decide) ?_
  refine xw_iasN _ dX1_addHouse_51 rfl (rfl) rfl ?_ ?_
  · omega
  refine xw_aload_n dX1_addHouse_52 rfl ?_
  refine xw_dup dX1_addHouse_53 rfl ?_
  refine xw_getV dX1_addHouse_54 fl_X1_21 rfl rfl (show _ = nI PP by simp only [xup_at]; simpa using hX) ?_
  refine xw_iload_n dX1_addHouse_57 rfl ?_
  refine xw_iconst (v := 4) dX1_addHouse_58 (by decide) ?_
  refine xw_aload_n dX1_addHouse_59 rfl ?_
  refine xw_getV dX1_addHouse_60 fl_X1_18 rfl rfl (show _ = nI n by simp only [xup_at]; simpa using hN) ?_
  refine xw_imulN (a := 4) dX1_addHouse_63 ?_
  refine xw_ishlN dX1_addHouse_64 ?_ ?_ ?_
  · omega
  · exact h24
  refine xw_iorN dX1_addHouse_65 ?_
  refine xw_putI dX1_addHouse_66 fp_X1_21 rfl rfl ?_
  refine xw_aload_n dX1_addHouse_69 rfl ?_
  refine xw_dup dX1_addHouse_70 rfl ?_
  refine xw_getV dX1_addHouse_71 fl_X1_18 rfl rfl (show _ = nI n by simp only [xup_at]; simpa using hN) ?_
  refine xw_iconst (v := 1) dX1_addHouse_74 (by decide) ?_
  refine xw_iaddN (b := 1) dX1_addHouse_75 ?_
  refine xw_putI dX1_addHouse_76 fp_X1_18 rfl rfl ?_
  refine xw_ret dX1_addHouse_79 rfl ?_
  exact ⟨rfl, rfl⟩
set_option maxRecDepth 20000 in
theorem lp2_X1_room {D : FD} {PP x y w h : Nat} (hC : FCS M 16 D) (hX : M.1 16 3 = nI PP) (hP : PP < 2 ^ 24) (hx : x < 16) (hy : y < 8) (hw : 1 ≤ w ∧ w ≤ 4) (hh : 1 ≤ h ∧ h ≤ 3) {v : Nat} (hxw : x + w ≤ 16) (hyh : y + h ≤ 8) (hv : y ≤ v) (hv2 : v < y + h) {v6 : Nat} (K : (∀ u, x ≤ u → u < x + w → ¬ wallAt D u v ∧ ¬ hAt D PP (nI u) v < dn D) → XW g l mX1_hasRoomFor (d + 2) 72 [some (xr 16), some (xi (nI x)), some (xi (nI y)), some (xi (nI w)), some (xi (nI h)), some (xi (nI v)), some (xi (nI v6))] [] M (XB (roomP D PP x y w h) M M)) : ∀ (q u : Nat), u + q = x + w → x ≤ u → v6 = x + w → (∀ u2, x ≤ u2 → u2 < u → ¬ wallAt D u2 v ∧ ¬ hAt D PP (nI u2) v < dn D) → XW g l mX1_hasRoomFor (d + 2) 34 [some (xr 16), some (xi (nI x)), some (xi (nI y)), some (xi (nI w)), some (xi (nI h)), some (xi (nI v)), some (xi (nI u))] [] M (XB (roomP D PP x y w h) M M) := by
  have hn6 := hC.1
  intro q
  induction q with
  | zero =>
    intro u hu hxu hv6 hno
    have hu : u = v6 := by omega
    subst hu
    refine xw_iload dX1_hasRoomFor_34 rfl ?_
    refine xw_iload_n dX1_hasRoomFor_36 rfl ?_
    refine xw_iload_n dX1_hasRoomFor_37 rfl ?_
    refine xw_iaddN dX1_hasRoomFor_38 ?_
    refine xw_icmp_geN (tgt := 72) dX1_hasRoomFor_39 (by decide) (by omega) (fun c39 => ?_) (fun c39 => ?_)
    · exact K (fun u2 z1 z2 => hno u2 z1 (by omega))
    · exfalso; omega
  | succ q ih =>
    intro u hu hxu hv6 hno
    have hng := hV_neg (D := D) (P := PP) (x := nI u) (y := v) hn6
    refine xw_iload dX1_hasRoomFor_34 rfl ?_
    refine xw_iload_n dX1_hasRoomFor_36 rfl ?_
    refine xw_iload_n dX1_hasRoomFor_37 rfl ?_
    refine xw_iaddN dX1_hasRoomFor_38 ?_
    refine xw_icmp_geN (tgt := 72) dX1_hasRoomFor_39 (by decide) (by omega) (fun c39 => ?_) (fun c39 => ?_)
    · exfalso; omega
    · refine xw_aload_n dX1_hasRoomFor_42 rfl ?_
      refine xw_iload dX1_hasRoomFor_43 rfl ?_
      refine xw_iload dX1_hasRoomFor_45 rfl ?_
      refine xw_cV2B dX1_hasRoomFor_47 okX1_isWall ml_X1_52 rfl rfl rfl rfl (s_X1_isWall xf_16 hC (by omega) (by omega)) (fun p47 => ?_) (fun p47 => ?_)
      · refine xw_if_ne (tgt := 64) dX1_hasRoomFor_50 (by decide) (fun _ => ?_) (fun q9 => absurd q9 (by decide))
        refine xw_iconst (v := 0) dX1_hasRoomFor_64 (by decide) ?_
        refine xw_iretz dX1_hasRoomFor_65 rfl (Or.inl rfl) (Or.inr ⟨?_, rfl, rfl⟩)
        first | exact fun z => absurd p47 (z.2.2 u v hxu (by omega) hv hv2).1 | exact fun z => absurd (hng.mpr (z.2.2 u v hxu (by omega) hv hv2).2) c61
      · refine xw_if_ne (tgt := 64) dX1_hasRoomFor_50 (by decide) (fun q9 => absurd q9 (by decide)) (fun _ => ?_)
        refine xw_aload_n dX1_hasRoomFor_53 rfl ?_
        refine xw_iload dX1_hasRoomFor_54 rfl ?_
        refine xw_iload dX1_hasRoomFor_56 rfl ?_
        refine xw_cV2E dX1_hasRoomFor_58 okX1_houseAt ml_X1_56 rfl rfl rfl rfl (s_X1_houseAt xf_16 hC hX hP (by omega)) ?_
        refine xw_if_lt (tgt := 66) dX1_hasRoomFor_61 (by decide) (fun c61 => ?_) (fun c61 => ?_)
        · refine xw_iincN (v := 1) dX1_hasRoomFor_66 (by decide) rfl rfl rfl ?_
          refine xw_goto (tgt := 34) dX1_hasRoomFor_69 (by decide) ?_
          exact ih (u + 1) (by omega) (by omega) hv6 (fun u2 z1 z2 => by
            rcases Nat.lt_or_ge u2 u with z | z
            · exact hno u2 z1 z
            · rw [show u2 = u by omega]; exact ⟨p47, hng.mp c61⟩)
        · refine xw_iconst (v := 0) dX1_hasRoomFor_64 (by decide) ?_
          refine xw_iretz dX1_hasRoomFor_65 rfl (Or.inl rfl) (Or.inr ⟨?_, rfl, rfl⟩)
          first | exact fun z => absurd p47 (z.2.2 u v hxu (by omega) hv hv2).1 | exact fun z => absurd (hng.mpr (z.2.2 u v hxu (by omega) hv hv2).2) c61
set_option maxRecDepth 20000 in
theorem lp_X1_room {D : FD} {PP x y w h : Nat} (hC : FCS M 16 D) (hX : M.1 16 3 = nI PP) (hP : PP < 2 ^ 24) (hx : x < 16) (hy : y < 8) (hw : 1 ≤ w ∧ w ≤ 4) (hh : 1 ≤ h ∧ h ≤ 3) (hxw : x + w ≤ 16) (hyh : y + h ≤ 8) : ∀ (q v : Nat) (v6 : Option XV), v + q = y + h → y ≤ v → (∀ v2, y ≤ v2 → v2 < v → ∀ u, x ≤ u → u < x + w → ¬ wallAt D u v2 ∧ ¬ hAt D PP (nI u) v2 < dn D) → XW g l mX1_hasRoomFor (d + 2) 22 [some (xr 16), some (xi (nI x)), some (xi (nI y)), some (xi (nI w)), some (xi (nI h)), some (xi (nI v)), v6] [] M (XB (roomP D PP x y w h) M M) := by
  intro q
  induction q with
  | zero =>
    intro v v6 hv hyv hno
    refine xw_iload dX1_hasRoomFor_22 rfl ?_
    refine xw_iload_n dX1_hasRoomFor_24 rfl ?_
    refine xw_iload dX1_hasRoomFor_25 rfl ?_
    refine xw_iaddN dX1_hasRoomFor_27 ?_
    refine xw_icmp_geN (tgt := 78) dX1_hasRoomFor_28 (by decide) (by omega) (fun c28 => ?_) (fun c28 => ?_)
    · refine xw_iconst (v := 1) dX1_hasRoomFor_78 (by decide) ?_
      refine xw_iretz dX1_hasRoomFor_79 rfl (Or.inr rfl) (Or.inl ⟨?_, rfl, rfl⟩)
      exact ⟨hxw, hyh, fun u v2 z1 z2 z3 z4 => hno v2 z3 (by omega) u z1 z2⟩
    · exfalso; omega
  | succ q ih =>
    intro v v6 hv hyv hno
    refine xw_iload dX1_hasRoomFor_22 rfl ?_
    refine xw_iload_n dX1_hasRoomFor_24 rfl ?_
    refine xw_iload dX1_hasRoomFor_25 rfl ?_
    refine xw_iaddN dX1_hasRoomFor_27 ?_
    refine xw_icmp_geN (tgt := 78) dX1_hasRoomFor_28 (by decide) (by omega) (fun c28 => ?_) (fun c28 => ?_)
    · exfalso; omega
    · refine xw_iload_n dX1_hasRoomFor_31 rfl ?_
      refine xw_istore dX1_hasRoomFor_32 rfl rfl ?_
      refine lp2_X1_room hC hX hP hx hy hw hh hxw hyh hyv (by omega) (v6 := x + w) (fun hz => ?_) w x rfl (Nat.le_refl _) rfl (fun _ z1 z2 => absurd z1 (by omega))
      refine xw_iincN (v := 1) dX1_hasRoomFor_72 (by decide) rfl rfl rfl ?_
      refine xw_goto (tgt := 22) dX1_hasRoomFor_75 (by decide) ?_
      exact ih (v + 1) _ (by omega) (by omega) (fun v2 z1 z2 => by
        rcases Nat.lt_or_ge v2 v with z | z
        · exact hno v2 z1 z
        · rw [show v2 = v by omega]; exact hz)
set_option maxRecDepth 20000 in
theorem s_X1_hasRoomFor {D : FD} {PP x y w h : Nat} (hC : FCS M 16 D) (hX : M.1 16 3 = nI PP) (hP : PP < 2 ^ 24) (hx : x < 16) (hy : y < 8) (hw : 1 ≤ w ∧ w ≤ 4) (hh : 1 ≤ h ∧ h ≤ 3)  : XC g l mX1_hasRoomFor (d + 2) [xr 16, xi (nI x), xi (nI y), xi (nI w), xi (nI h)] M (XB (roomP D PP x y w h) M M) := by
  show XW g l mX1_hasRoomFor _ 0 [some (xr 16), some (xi (nI x)), some (xi (nI y)), some (xi (nI w)), some (xi (nI h)), none, none] [] M _
  refine xw_iload_n dX1_hasRoomFor_0 rfl ?_
  refine xw_iload_n dX1_hasRoomFor_1 rfl ?_
  refine xw_iaddN dX1_hasRoomFor_2 ?_
  refine xw_bipush (v := 16) dX1_hasRoomFor_3 (by decide) ?_
  refine xw_icmp_gtN (b := 16) (tgt := 17) dX1_hasRoomFor_5 (by decide) (by omega) (fun c5 => ?_) (fun c5 => ?_)
  · refine xw_iconst (v := 0) dX1_hasRoomFor_17 (by decide) ?_
    refine xw_iretz dX1_hasRoomFor_18 rfl (Or.inl rfl) (Or.inr ⟨?_, rfl, rfl⟩)
    exact fun z => by have := z.1; have := z.2.1; omega
  · refine xw_iload_n dX1_hasRoomFor_8 rfl ?_
    refine xw_iload dX1_hasRoomFor_9 rfl ?_
    refine xw_iaddN dX1_hasRoomFor_11 ?_
    refine xw_bipush (v := 8) dX1_hasRoomFor_12 (by decide) ?_
    refine xw_icmp_leN (b := 8) (tgt := 19) dX1_hasRoomFor_14 (by decide) (by omega) (fun c14 => ?_) (fun c14 => ?_)
    · refine xw_iload_n dX1_hasRoomFor_19 rfl ?_
      refine xw_istore dX1_hasRoomFor_20 rfl rfl ?_
      exact lp_X1_room hC hX hP hx hy hw hh (by omega) (by omega) h y none rfl (Nat.le_refl _) (fun _ z1 z2 => absurd z1 (by omega))
    · refine xw_iconst (v := 0) dX1_hasRoomFor_17 (by decide) ?_
      refine xw_iretz dX1_hasRoomFor_18 rfl (Or.inl rfl) (Or.inr ⟨?_, rfl, rfl⟩)
      exact fun z => by have := z.1; have := z.2.1; omega
set_option maxRecDepth 20000 in
theorem s_X5_readFacts {T : TX} {p : Nat} (hT : TC M T) (hk : Tk M T p) (hD : DC M d0 0) : XC g l mX5_readFacts (d + 5) [xr 5] M (PQc T (facP T p) M) := by
  have hE := tkE_le hk.2.2.2.2
  show XW g l mX5_readFacts _ 0 [some (xr 5)] [] M _
  refine xw_aload_n dX5_readFacts_0 rfl ?_
  refine xw_ldcS (i := 0) dX5_readFacts_1 rfl (by decide) rfl ?_
  refine xw_cV1B dX5_readFacts_3 okX5_isWord ml_X5_65 rfl rfl rfl rfl (s_X5_isWord (i := 0) (by decide) hT hk) (fun p3 => ?_) (fun p3 => ?_)
  · refine xw_if_ne (tgt := 15) dX5_readFacts_6 (by decide) (fun _ => ?_) (fun q9 => absurd q9 (by decide))
    refine xw_aload_n dX5_readFacts_15 rfl ?_
    refine xw_iconst (v := 0) dX5_readFacts_16 (by decide) ?_
    refine xw_sipush (v := 255) dX5_readFacts_17 (by decide) ?_
    refine xw_cV2Q dX5_readFacts_20 okX5_takeNumber ml_X5_73 rfl rfl rfl rfl (s_X5_takeNumber (lo := 0) (hi := 255) hT hk.2.1 hE.2.1 (by decide) (by decide)) ?_
    rintro _ M1 (⟨rfl, v1, hn1, hv1, hb1, hF1, hk1⟩ | ⟨rfl, n9, s9, hn1, hf1⟩)
    · refine xw_if_ne (tgt := 28) dX5_readFacts_23 (by decide) (fun _ => ?_) (fun q9 => absurd q9 (by decide))
      refine xw_aload_n dX5_readFacts_28 rfl ?_
      refine xw_getR dX5_readFacts_29 fl_X5_22 rfl rfl ?_
      refine xw_aload_n dX5_readFacts_32 rfl ?_
      refine xw_getV dX5_readFacts_33 fl_X5_41 rfl rfl (hv1) ?_
      refine xw_putI dX5_readFacts_36 fp_X5_77 rfl rfl ?_
      have hE1 := tkE_le hk1.2.2.2.2
      refine xw_aload_n dX5_readFacts_39 rfl ?_
      refine xw_bipush (v := 8) dX5_readFacts_40 (by decide) ?_
      refine xw_bipush (v := 15) dX5_readFacts_42 (by decide) ?_
      refine xw_cV2Q dX5_readFacts_44 okX5_takeNumber ml_X5_73 rfl rfl rfl rfl (s_X5_takeNumber (lo := 8) (hi := 15) ((hT.fr hF1 (by decide)).up (by decide)) ((xup_cell _ _ (by decide)).trans hk1.2.1) hE1.2.1 (by decide) (by decide)) ?_
      rintro _ M2 (⟨rfl, v2, hn2, hv2, hb2, hF2, hk2⟩ | ⟨rfl, n9, s9, hn2, hf2⟩)
      · refine xw_if_ne (tgt := 52) dX5_readFacts_47 (by decide) (fun _ => ?_) (fun q9 => absurd q9 (by decide))
        refine xw_aload_n dX5_readFacts_52 rfl ?_
        refine xw_getR dX5_readFacts_53 fl_X5_22 rfl rfl ?_
        refine xw_aload_n dX5_readFacts_56 rfl ?_
        refine xw_getV dX5_readFacts_57 fl_X5_41 rfl rfl (hv2) ?_
        refine xw_putI dX5_readFacts_60 fp_X5_80 rfl rfl ?_
        have hE2 := tkE_le hk2.2.2.2.2
        refine xw_aload_n dX5_readFacts_63 rfl ?_
        refine xw_cV0Q dX5_readFacts_64 okX5_takeSemicolon ml_X5_83 rfl rfl rfl rfl (s_X5_takeSemicolon (((((hT.fr hF1 (by decide)).up (by decide)).fr hF2 (by decide))).up (by decide)) ((xup_cell _ _ (by decide)).trans hk2.2.1) hE2.2.1) ?_
        rintro _ M3 (⟨rfl, q3, hn3, hF3, hk3⟩ | ⟨rfl, n9, s9, hn3, hf3⟩)
        · refine xw_iretz dX5_readFacts_67 rfl (Or.inr rfl) ?_
          refine Or.inl ⟨q3, adF d0 v1 v2, 0, by simp only [facP_go p3, pb, hn1, hn2, hn3]; rfl, rfl, ?_, WD_0 v1 v2, hk3, (((((FrP.rf 5 _).f5 hF1 (by decide)).up (by decide)).f5 hF2 (by decide)).up (by decide)).f5 hF3 (by decide)⟩
          refine DC_F hD (by omega) (by omega) ?_ ?_ (fun a b z1 z2 z3 => ?_)
          · rw [hF3.1 16 0 (by omega), xup_place _ _ (by decide), hF2.1 16 0 (by omega), xup_same]
          · rw [hF3.1 16 1 (by omega), xup_same]
          · rw [hF3.1 a b (by omega), xup_at, if_neg (by omega), hF2.1 a b (by omega), xup_at, if_neg (by omega), hF1.1 a b (by omega)]
        · refine xw_iretz dX5_readFacts_67 rfl (Or.inl rfl) ?_
          exact PQc.bad (by simp only [facP_go p3, pb, hn1, hn2, hn3]) (((((FrP.rf 5 _).f5 hF1 (by decide)).up (by decide)).f5 hF2 (by decide)).up (by decide)) hf3
      · refine xw_if_ne (tgt := 52) dX5_readFacts_47 (by decide) (fun q9 => absurd q9 (by decide)) (fun _ => ?_)
        refine xw_iconst (v := 0) dX5_readFacts_50 (by decide) ?_
        refine xw_iretz dX5_readFacts_51 rfl (Or.inl rfl) ?_
        exact PQc.bad (by simp only [facP_go p3, pb, hn1, hn2]) (((FrP.rf 5 _).f5 hF1 (by decide)).up (by decide)) hf2
    · refine xw_if_ne (tgt := 28) dX5_readFacts_23 (by decide) (fun q9 => absurd q9 (by decide)) (fun _ => ?_)
      refine xw_iconst (v := 0) dX5_readFacts_26 (by decide) ?_
      refine xw_iretz dX5_readFacts_27 rfl (Or.inl rfl) ?_
      exact PQc.bad (by simp only [facP_go p3, pb, hn1]) (FrP.rf _ _) hf1
  · refine xw_if_ne (tgt := 15) dX5_readFacts_6 (by decide) (fun q9 => absurd q9 (by decide)) (fun _ => ?_)
    refine xw_aload_n dX5_readFacts_9 rfl ?_
    refine xw_iconst (v := 1) dX5_readFacts_10 (by decide) ?_
    refine xw_cV1E dX5_readFacts_11 okX5_failWith ml_X5_69 rfl rfl rfl rfl (s_X5_failWith) ?_
    refine xw_iretz dX5_readFacts_14 rfl (Or.inl rfl) ?_
    exact PQc.fail (n := 1) (facP_no p3) (FrP.rf _ _) hk.1
set_option maxRecDepth 20000 in
theorem lp_X5_readWalls {T : TX} (hT0 : TC M T) : ∀ (f n p : Nat) (D : FD) (PP : Nat) (M1 : XM) (v2 : Option XV), n + f = 12 → DC M1 D PP → WD D PP → Tk M1 T p → FrP 5 M M1 → XW g l mX5_readWalls (d + 5) 2 [some (xr 5), some (xi (nI n)), v2] [] M1 (PQc T (itP T 1 (walP T) f p (D, PP)) M) := by
  intro f
  induction f with
  | zero =>
    intro n p D PP M1 v2 hn hD hW hk hF
    have hT := hT0.frP hF (by decide)
    refine xw_iload_n dX5_readWalls_2 rfl ?_
    refine xw_bipush (v := 12) dX5_readWalls_3 (by decide) ?_
    refine xw_icmp_gtN (b := 12) (tgt := 91) dX5_readWalls_5 (by decide) (by omega) (fun c5 => ?_) (fun c5 => ?_)
    · exfalso; omega
    · refine xw_aload_n dX5_readWalls_8 rfl ?_
      refine xw_ldcS (i := 1) dX5_readWalls_9 rfl (by decide) rfl ?_
      refine xw_cV1B dX5_readWalls_11 okX5_isWord ml_X5_65 rfl rfl rfl rfl (s_X5_isWord (i := 1) (by decide) hT hk) (fun p11 => ?_) (fun p11 => ?_)
      · refine xw_if_eq (tgt := 91) dX5_readWalls_14 (by decide) (fun q9 => absurd q9 (by decide)) (fun _ => ?_)
        refine xw_iload_n dX5_readWalls_17 rfl ?_
        refine xw_bipush (v := 12) dX5_readWalls_18 (by decide) ?_
        refine xw_icmp_neN (b := 12) (tgt := 29) dX5_readWalls_20 (by decide) (by omega) (fun c20 => ?_) (fun c20 => ?_)
        · exfalso; omega
        · refine xw_aload_n dX5_readWalls_23 rfl ?_
          refine xw_iconst (v := 3) dX5_readWalls_24 (by decide) ?_
          refine xw_cV1E dX5_readWalls_25 okX5_failWith ml_X5_69 rfl rfl rfl rfl (s_X5_failWith) ?_
          refine xw_iretz dX5_readWalls_28 rfl (Or.inl rfl) ?_
          exact PQc.fail (n := 3) (itP_0 p11) hF hk.1
      · refine xw_if_eq (tgt := 91) dX5_readWalls_14 (by decide) (fun _ => ?_) (fun q9 => absurd q9 (by decide))
        refine xw_iconst (v := 1) dX5_readWalls_91 (by decide) ?_
        refine xw_iretz dX5_readWalls_92 rfl (Or.inr rfl) ?_
        exact Or.inl ⟨p, D, PP, itP_no p11, rfl, hD, hW, hk, hF⟩
  | succ f ih =>
    intro n p D PP M1 v2 hn hD hW hk hF
    have hT := hT0.frP hF (by decide)
    have hE := tkE_le hk.2.2.2.2
    refine xw_iload_n dX5_readWalls_2 rfl ?_
    refine xw_bipush (v := 12) dX5_readWalls_3 (by decide) ?_
    refine xw_icmp_gtN (b := 12) (tgt := 91) dX5_readWalls_5 (by decide) (by omega) (fun c5 => ?_) (fun c5 => ?_)
    · exfalso; omega
    · refine xw_aload_n dX5_readWalls_8 rfl ?_
      refine xw_ldcS (i := 1) dX5_readWalls_9 rfl (by decide) rfl ?_
      refine xw_cV1B dX5_readWalls_11 okX5_isWord ml_X5_65 rfl rfl rfl rfl (s_X5_isWord (i := 1) (by decide) hT hk) (fun p11 => ?_) (fun p11 => ?_)
      · refine xw_if_eq (tgt := 91) dX5_readWalls_14 (by decide) (fun q9 => absurd q9 (by decide)) (fun _ => ?_)
        refine xw_iload_n dX5_readWalls_17 rfl ?_
        refine xw_bipush (v := 12) dX5_readWalls_18 (by decide) ?_
        refine xw_icmp_neN (b := 12) (tgt := 29) dX5_readWalls_20 (by decide) (by omega) (fun c20 => ?_) (fun c20 => ?_)
        · refine xw_aload_n dX5_readWalls_29 rfl ?_
          refine xw_iconst (v := 0) dX5_readWalls_30 (by decide) ?_
          refine xw_bipush (v := 15) dX5_readWalls_31 (by decide) ?_
          refine xw_cV2Q dX5_readWalls_33 okX5_takeNumber ml_X5_73 rfl rfl rfl rfl (s_X5_takeNumber (lo := 0) (hi := 15) hT hk.2.1 hE.2.1 (by decide) (by decide)) ?_
          rintro _ M2 (⟨rfl, v1, hn1, hv1, hb1, hF1, hk1⟩ | ⟨rfl, n9, s9, hn1, hf1⟩)
          · refine xw_if_ne (tgt := 41) dX5_readWalls_36 (by decide) (fun _ => ?_) (fun q9 => absurd q9 (by decide))
            refine xw_aload_n dX5_readWalls_41 rfl ?_
            refine xw_getV dX5_readWalls_42 fl_X5_41 rfl rfl (hv1) ?_
            refine xw_istore_n dX5_readWalls_45 rfl rfl ?_
            have hE1 := tkE_le hk1.2.2.2.2
            refine xw_aload_n dX5_readWalls_46 rfl ?_
            refine xw_iconst (v := 0) dX5_readWalls_47 (by decide) ?_
            refine xw_bipush (v := 7) dX5_readWalls_48 (by decide) ?_
            refine xw_cV2Q dX5_readWalls_50 okX5_takeNumber ml_X5_73 rfl rfl rfl rfl (s_X5_takeNumber (lo := 0) (hi := 7) (hT.fr hF1 (by decide)) hk1.2.1 hE1.2.1 (by decide) (by decide)) ?_
            rintro _ M3 (⟨rfl, v2, hn2, hv2, hb2, hF2, hk2⟩ | ⟨rfl, n9, s9, hn2, hf2⟩)
            · refine xw_if_ne (tgt := 58) dX5_readWalls_53 (by decide) (fun _ => ?_) (fun q9 => absurd q9 (by decide))
              have hE2 := tkE_le hk2.2.2.2.2
              have hD3 := (hD.f5 hF1).f5 hF2
              have hwl := hD3.1.2.2.2.2.1 v2 (by omega)
              have hp1 := pw_lt (x := v1) (by omega)
              refine xw_aload_n dX5_readWalls_58 rfl ?_
              refine xw_getR dX5_readWalls_59 fl_X5_22 rfl rfl ?_
              refine xw_getR dX5_readWalls_62 fl_X5_88 rfl rfl ?_
              refine xw_aload_n dX5_readWalls_65 rfl ?_
              refine xw_getV dX5_readWalls_66 fl_X5_41 rfl rfl (hv2) ?_
              refine xw_dup2 dX5_readWalls_69 rfl rfl ?_
              refine xw_ialN _ dX5_readWalls_70 rfl (rfl) (hwl) rfl ?_ ?_
              · omega
              refine xw_iconst (v := 1) dX5_readWalls_71 (by decide) ?_
              refine xw_iload_n dX5_readWalls_72 rfl ?_
              refine xw_ishlN (a := 1) dX5_readWalls_73 ?_ ?_ ?_
              · omega
              · omega
              refine xw_iorN dX5_readWalls_74 ?_
              refine xw_iasN _ dX5_readWalls_75 rfl (rfl) rfl ?_ ?_
              · omega
              rw [Nat.one_mul]
              have hD4 := DC_W (x := v1) hD3 (by omega) (by omega : v2 < 8)
              refine xw_aload_n dX5_readWalls_76 rfl ?_
              refine xw_cV0Q dX5_readWalls_77 okX5_takeSemicolon ml_X5_83 rfl rfl rfl rfl (s_X5_takeSemicolon (((hT.fr hF1 (by decide)).fr hF2 (by decide)).up (by decide)) ((xup_cell _ _ (by decide)).trans hk2.2.1) hE2.2.1) ?_
              rintro _ M4 (⟨rfl, q3, hn3, hF3, hk3⟩ | ⟨rfl, n9, s9, hn3, hf3⟩)
              · refine xw_if_ne (tgt := 85) dX5_readWalls_80 (by decide) (fun _ => ?_) (fun q9 => absurd q9 (by decide))
                refine xw_iincN (v := 1) dX5_readWalls_85 (by decide) rfl rfl rfl ?_
                refine xw_goto (tgt := 2) dX5_readWalls_88 (by decide) ?_
                rw [show itP T 1 (walP T) (f + 1) p (D, PP) = itP T 1 (walP T) f q3 (adW D v1 v2, PP) by simp only [itP_s p11, walP, pb, hn1, hn2, hn3]]
                exact ih (n + 1) q3 (adW D v1 v2) PP M4 _ (by omega) (hD4.f5 hF3) (WD_W hW) hk3 ((((hF.f5 hF1 (by decide)).f5 hF2 (by decide)).up (by decide)).f5 hF3 (by decide))
              · refine xw_if_ne (tgt := 85) dX5_readWalls_80 (by decide) (fun q9 => absurd q9 (by decide)) (fun _ => ?_)
                refine xw_iconst (v := 0) dX5_readWalls_83 (by decide) ?_
                refine xw_iretz dX5_readWalls_84 rfl (Or.inl rfl) ?_
                exact PQc.bad (by simp only [itP_s p11, walP, pb, hn1, hn2, hn3]) (((hF.f5 hF1 (by decide)).f5 hF2 (by decide)).up (by decide)) hf3
            · refine xw_if_ne (tgt := 58) dX5_readWalls_53 (by decide) (fun q9 => absurd q9 (by decide)) (fun _ => ?_)
              refine xw_iconst (v := 0) dX5_readWalls_56 (by decide) ?_
              refine xw_iretz dX5_readWalls_57 rfl (Or.inl rfl) ?_
              exact PQc.bad (by simp only [itP_s p11, walP, pb, hn1, hn2]) (hF.f5 hF1 (by decide)) hf2
          · refine xw_if_ne (tgt := 41) dX5_readWalls_36 (by decide) (fun q9 => absurd q9 (by decide)) (fun _ => ?_)
            refine xw_iconst (v := 0) dX5_readWalls_39 (by decide) ?_
            refine xw_iretz dX5_readWalls_40 rfl (Or.inl rfl) ?_
            exact PQc.bad (by simp only [itP_s p11, walP, pb, hn1]) hF hf1
        · exfalso; omega
      · refine xw_if_eq (tgt := 91) dX5_readWalls_14 (by decide) (fun _ => ?_) (fun q9 => absurd q9 (by decide))
        refine xw_iconst (v := 1) dX5_readWalls_91 (by decide) ?_
        refine xw_iretz dX5_readWalls_92 rfl (Or.inr rfl) ?_
        exact Or.inl ⟨p, D, PP, itP_no p11, rfl, hD, hW, hk, hF⟩
set_option maxRecDepth 20000 in
theorem s_X5_readWalls {T : TX} {p PP : Nat} {D : FD} (hT : TC M T) (hk : Tk M T p) (hD : DC M D PP) (hW : WD D PP)  : XC g l mX5_readWalls (d + 5) [xr 5] M (PQc T (itP T 1 (walP T) 12 p (D, PP)) M) := by
  show XW g l mX5_readWalls _ 0 [some (xr 5), none, none] [] M _
  refine xw_iconst (v := 0) dX5_readWalls_0 (by decide) ?_
  refine xw_istore_n dX5_readWalls_1 rfl rfl ?_
  exact lp_X5_readWalls hT 12 0 p D PP M none (by omega) hD hW hk (FrP.rf _ _)
set_option maxRecDepth 20000 in
theorem lp_X5_readPaths {T : TX} (hT0 : TC M T) : ∀ (f n p : Nat) (D : FD) (PP : Nat) (M1 : XM) (v2 v3 : Option XV), n + f = 8 → DC M1 D PP → WD D PP → Tk M1 T p → FrP 5 M M1 → XW g l mX5_readPaths (d + 5) 2 [some (xr 5), some (xi (nI n)), v2, v3] [] M1 (PQc T (itP T 2 (patP T) f p (D, PP)) M) := by
  intro f
  induction f with
  | zero =>
    intro n p D PP M1 v2 v3 hn hD hW hk hF
    have hT := hT0.frP hF (by decide)
    refine xw_iload_n dX5_readPaths_2 rfl ?_
    refine xw_bipush (v := 8) dX5_readPaths_3 (by decide) ?_
    refine xw_icmp_gtN (b := 8) (tgt := 112) dX5_readPaths_5 (by decide) (by omega) (fun c5 => ?_) (fun c5 => ?_)
    · exfalso; omega
    · refine xw_aload_n dX5_readPaths_8 rfl ?_
      refine xw_ldcS (i := 2) dX5_readPaths_9 rfl (by decide) rfl ?_
      refine xw_cV1B dX5_readPaths_11 okX5_isWord ml_X5_65 rfl rfl rfl rfl (s_X5_isWord (i := 2) (by decide) hT hk) (fun p11 => ?_) (fun p11 => ?_)
      · refine xw_if_eq (tgt := 112) dX5_readPaths_14 (by decide) (fun q9 => absurd q9 (by decide)) (fun _ => ?_)
        refine xw_iload_n dX5_readPaths_17 rfl ?_
        refine xw_bipush (v := 8) dX5_readPaths_18 (by decide) ?_
        refine xw_icmp_neN (b := 8) (tgt := 29) dX5_readPaths_20 (by decide) (by omega) (fun c20 => ?_) (fun c20 => ?_)
        · exfalso; omega
        · refine xw_aload_n dX5_readPaths_23 rfl ?_
          refine xw_iconst (v := 3) dX5_readPaths_24 (by decide) ?_
          refine xw_cV1E dX5_readPaths_25 okX5_failWith ml_X5_69 rfl rfl rfl rfl (s_X5_failWith) ?_
          refine xw_iretz dX5_readPaths_28 rfl (Or.inl rfl) ?_
          exact PQc.fail (n := 3) (itP_0 p11) hF hk.1
      · refine xw_if_eq (tgt := 112) dX5_readPaths_14 (by decide) (fun _ => ?_) (fun q9 => absurd q9 (by decide))
        refine xw_iconst (v := 1) dX5_readPaths_112 (by decide) ?_
        refine xw_iretz dX5_readPaths_113 rfl (Or.inr rfl) ?_
        exact Or.inl ⟨p, D, PP, itP_no p11, rfl, hD, hW, hk, hF⟩
  | succ f ih =>
    intro n p D PP M1 v2 v3 hn hD hW hk hF
    have hT := hT0.frP hF (by decide)
    have hE := tkE_le hk.2.2.2.2
    refine xw_iload_n dX5_readPaths_2 rfl ?_
    refine xw_bipush (v := 8) dX5_readPaths_3 (by decide) ?_
    refine xw_icmp_gtN (b := 8) (tgt := 112) dX5_readPaths_5 (by decide) (by omega) (fun c5 => ?_) (fun c5 => ?_)
    · exfalso; omega
    · refine xw_aload_n dX5_readPaths_8 rfl ?_
      refine xw_ldcS (i := 2) dX5_readPaths_9 rfl (by decide) rfl ?_
      refine xw_cV1B dX5_readPaths_11 okX5_isWord ml_X5_65 rfl rfl rfl rfl (s_X5_isWord (i := 2) (by decide) hT hk) (fun p11 => ?_) (fun p11 => ?_)
      · refine xw_if_eq (tgt := 112) dX5_readPaths_14 (by decide) (fun q9 => absurd q9 (by decide)) (fun _ => ?_)
        refine xw_iload_n dX5_readPaths_17 rfl ?_
        refine xw_bipush (v := 8) dX5_readPaths_18 (by decide) ?_
        refine xw_icmp_neN (b := 8) (tgt := 29) dX5_readPaths_20 (by decide) (by omega) (fun c20 => ?_) (fun c20 => ?_)
        · refine xw_aload_n dX5_readPaths_29 rfl ?_
          refine xw_iconst (v := 0) dX5_readPaths_30 (by decide) ?_
          refine xw_bipush (v := 7) dX5_readPaths_31 (by decide) ?_
          refine xw_cV2Q dX5_readPaths_33 okX5_takeNumber ml_X5_73 rfl rfl rfl rfl (s_X5_takeNumber (lo := 0) (hi := 7) hT hk.2.1 hE.2.1 (by decide) (by decide)) ?_
          rintro _ M2 (⟨rfl, v1, hn1, hv1, hb1, hF1, hk1⟩ | ⟨rfl, n9, s9, hn1, hf1⟩)
          · refine xw_if_ne (tgt := 41) dX5_readPaths_36 (by decide) (fun _ => ?_) (fun q9 => absurd q9 (by decide))
            refine xw_aload_n dX5_readPaths_41 rfl ?_
            refine xw_getV dX5_readPaths_42 fl_X5_41 rfl rfl (hv1) ?_
            refine xw_istore_n dX5_readPaths_45 rfl rfl ?_
            have hE1 := tkE_le hk1.2.2.2.2
            refine xw_aload_n dX5_readPaths_46 rfl ?_
            refine xw_iconst (v := 0) dX5_readPaths_47 (by decide) ?_
            refine xw_bipush (v := 15) dX5_readPaths_48 (by decide) ?_
            refine xw_cV2Q dX5_readPaths_50 okX5_takeNumber ml_X5_73 rfl rfl rfl rfl (s_X5_takeNumber (lo := 0) (hi := 15) (hT.fr hF1 (by decide)) hk1.2.1 hE1.2.1 (by decide) (by decide)) ?_
            rintro _ M3 (⟨rfl, v2, hn2, hv2, hb2, hF2, hk2⟩ | ⟨rfl, n9, s9, hn2, hf2⟩)
            · refine xw_if_ne (tgt := 58) dX5_readPaths_53 (by decide) (fun _ => ?_) (fun q9 => absurd q9 (by decide))
              refine xw_aload_n dX5_readPaths_58 rfl ?_
              refine xw_getV dX5_readPaths_59 fl_X5_41 rfl rfl (hv2) ?_
              refine xw_istore_n dX5_readPaths_62 rfl rfl ?_
              have hE2 := tkE_le hk2.2.2.2.2
              refine xw_aload_n dX5_readPaths_63 rfl ?_
              refine xw_iload_n dX5_readPaths_64 rfl ?_
              refine xw_bipush (v := 15) dX5_readPaths_65 (by decide) ?_
              refine xw_cV2Q dX5_readPaths_67 okX5_takeNumber ml_X5_73 rfl rfl rfl rfl (s_X5_takeNumber (lo := v2) (hi := 15) ((hT.fr hF1 (by decide)).fr hF2 (by decide)) hk2.2.1 hE2.2.1 (by omega) (by decide)) ?_
              rintro _ M4 (⟨rfl, v3, hn3, hv3, hb3, hF3, hk3⟩ | ⟨rfl, n9, s9, hn3, hf3⟩)
              · refine xw_if_ne (tgt := 75) dX5_readPaths_70 (by decide) (fun _ => ?_) (fun q9 => absurd q9 (by decide))
                have hE3 := tkE_le hk3.2.2.2.2
                have hD3 := ((hD.f5 hF1).f5 hF2).f5 hF3
                have hpt := hD3.1.2.2.2.2.2.2.1 v1 (by omega)
                have hpw : 2 ^ v2 ≤ 2 ^ v3 := Nat.pow_le_pow_right (by decide) (by omega)
                have hp3 := pw_lt (x := v3) (by omega)
                refine xw_aload_n dX5_readPaths_75 rfl ?_
                refine xw_getR dX5_readPaths_76 fl_X5_22 rfl rfl ?_
                refine xw_getR dX5_readPaths_79 fl_X5_94 rfl rfl ?_
                refine xw_iload_n dX5_readPaths_82 rfl ?_
                refine xw_dup2 dX5_readPaths_83 rfl rfl ?_
                refine xw_ialN _ dX5_readPaths_84 rfl (rfl) (hpt) rfl ?_ ?_
                · omega
                refine xw_iconst (v := 2) dX5_readPaths_85 (by decide) ?_
                refine xw_aload_n dX5_readPaths_86 rfl ?_
                refine xw_getV dX5_readPaths_87 fl_X5_41 rfl rfl (hv3) ?_
                refine xw_ishlN (a := 2) dX5_readPaths_90 ?_ ?_ ?_
                · omega
                · omega
                refine xw_iconst (v := 1) dX5_readPaths_91 (by decide) ?_
                refine xw_iload_n dX5_readPaths_92 rfl ?_
                refine xw_ishlN (a := 1) dX5_readPaths_93 ?_ ?_ ?_
                · omega
                · omega
                refine xw_isubN dX5_readPaths_94 ?_ ?_
                · omega
                refine xw_iorN dX5_readPaths_95 ?_
                refine xw_iasN _ dX5_readPaths_96 rfl (rfl) rfl ?_ ?_
                · omega
                rw [show 2 * 2 ^ v3 - 1 * 2 ^ v2 = 2 ^ (v3 + 1) - 2 ^ v2 by rw [Nat.pow_succ]; omega]
                have hD4 := DC_P (f := v2) (k := v3 + 1) hD3 (by omega) (by omega) (by omega : v1 < 8)
                refine xw_aload_n dX5_readPaths_97 rfl ?_
                refine xw_cV0Q dX5_readPaths_98 okX5_takeSemicolon ml_X5_83 rfl rfl rfl rfl (s_X5_takeSemicolon ((((hT.fr hF1 (by decide)).fr hF2 (by decide)).fr hF3 (by decide)).up (by decide)) ((xup_cell _ _ (by decide)).trans hk3.2.1) hE3.2.1) ?_
                rintro _ M5 (⟨rfl, q4, hn4, hF4, hk4⟩ | ⟨rfl, n9, s9, hn4, hf4⟩)
                · refine xw_if_ne (tgt := 106) dX5_readPaths_101 (by decide) (fun _ => ?_) (fun q9 => absurd q9 (by decide))
                  refine xw_iincN (v := 1) dX5_readPaths_106 (by decide) rfl rfl rfl ?_
                  refine xw_goto (tgt := 2) dX5_readPaths_109 (by decide) ?_
                  rw [show itP T 2 (patP T) (f + 1) p (D, PP) = itP T 2 (patP T) f q4 (adP D v1 v2 (v3 + 1), PP) by simp only [itP_s p11, patP, pb, hn1, hn2, hn3, hn4]]
                  exact ih (n + 1) q4 (adP D v1 v2 (v3 + 1)) PP M5 _ _ (by omega) (hD4.f5 hF4) (WD_P hW) hk4 (((((hF.f5 hF1 (by decide)).f5 hF2 (by decide)).f5 hF3 (by decide)).up (by decide)).f5 hF4 (by decide))
                · refine xw_if_ne (tgt := 106) dX5_readPaths_101 (by decide) (fun q9 => absurd q9 (by decide)) (fun _ => ?_)
                  refine xw_iconst (v := 0) dX5_readPaths_104 (by decide) ?_
                  refine xw_iretz dX5_readPaths_105 rfl (Or.inl rfl) ?_
                  exact PQc.bad (by simp only [itP_s p11, patP, pb, hn1, hn2, hn3, hn4]) ((((hF.f5 hF1 (by decide)).f5 hF2 (by decide)).f5 hF3 (by decide)).up (by decide)) hf4
              · refine xw_if_ne (tgt := 75) dX5_readPaths_70 (by decide) (fun q9 => absurd q9 (by decide)) (fun _ => ?_)
                refine xw_iconst (v := 0) dX5_readPaths_73 (by decide) ?_
                refine xw_iretz dX5_readPaths_74 rfl (Or.inl rfl) ?_
                exact PQc.bad (by simp only [itP_s p11, patP, pb, hn1, hn2, hn3]) ((hF.f5 hF1 (by decide)).f5 hF2 (by decide)) hf3
            · refine xw_if_ne (tgt := 58) dX5_readPaths_53 (by decide) (fun q9 => absurd q9 (by decide)) (fun _ => ?_)
              refine xw_iconst (v := 0) dX5_readPaths_56 (by decide) ?_
              refine xw_iretz dX5_readPaths_57 rfl (Or.inl rfl) ?_
              exact PQc.bad (by simp only [itP_s p11, patP, pb, hn1, hn2]) (hF.f5 hF1 (by decide)) hf2
          · refine xw_if_ne (tgt := 41) dX5_readPaths_36 (by decide) (fun q9 => absurd q9 (by decide)) (fun _ => ?_)
            refine xw_iconst (v := 0) dX5_readPaths_39 (by decide) ?_
            refine xw_iretz dX5_readPaths_40 rfl (Or.inl rfl) ?_
            exact PQc.bad (by simp only [itP_s p11, patP, pb, hn1]) hF hf1
        · exfalso; omega
      · refine xw_if_eq (tgt := 112) dX5_readPaths_14 (by decide) (fun _ => ?_) (fun q9 => absurd q9 (by decide))
        refine xw_iconst (v := 1) dX5_readPaths_112 (by decide) ?_
        refine xw_iretz dX5_readPaths_113 rfl (Or.inr rfl) ?_
        exact Or.inl ⟨p, D, PP, itP_no p11, rfl, hD, hW, hk, hF⟩
set_option maxRecDepth 20000 in
theorem s_X5_readPaths {T : TX} {p PP : Nat} {D : FD} (hT : TC M T) (hk : Tk M T p) (hD : DC M D PP) (hW : WD D PP)  : XC g l mX5_readPaths (d + 5) [xr 5] M (PQc T (itP T 2 (patP T) 8 p (D, PP)) M) := by
  show XW g l mX5_readPaths _ 0 [some (xr 5), none, none, none] [] M _
  refine xw_iconst (v := 0) dX5_readPaths_0 (by decide) ?_
  refine xw_istore_n dX5_readPaths_1 rfl rfl ?_
  exact lp_X5_readPaths hT 8 0 p D PP M none none (by omega) hD hW hk (FrP.rf _ _)
end READC
