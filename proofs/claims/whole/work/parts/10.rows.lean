section ROWS
variable {g : XG} {l : Launch} {d : Nat} {M : XM}
theorem XW.eqv {y : XY} {pc : Nat} {lx : List (Option XV)} {st : List XV} {M1 M2 : XM} {r : Option XV} (h : XW g l y d pc lx st M (XE r M1)) (e : M1 = M2) : XW g l y d pc lx st M (XE r M2) := by subst e; exact h
theorem XW.eqr {y : XY} {pc : Nat} {lx : List (Option XV)} {st : List XV} {M1 M2 : XM} {r r2 : Option XV} (h : XW g l y d pc lx st M (XE r M1)) (e0 : r = r2) (e : M1 = M2) : XW g l y d pc lx st M (XE r2 M2) := by subst e; subst e0; exact h
set_option maxRecDepth 20000 in
theorem s_X6_isNumber (row : Int32) : XC g l mX6_isNumber d [xr 1, xi row] M (XB (0 ≤ row ∧ row < 8) M M) := by
  show XW g l mX6_isNumber _ 0 [some (xr 1), some (xi row)] [] M _
  refine xw_iload_n dX6_isNumber_0 rfl ?_
  refine xw_if_lt (tgt := 14) dX6_isNumber_1 (by decide) (fun c1 => ?_) (fun c1 => ?_)
  · refine xw_iconst (v := 0) dX6_isNumber_14 (by decide) ?_
    refine xw_iretz dX6_isNumber_15 rfl (Or.inl rfl) (Or.inr ⟨?_, rfl, rfl⟩)
    first | assumption | grind
  · refine xw_iload_n dX6_isNumber_4 rfl ?_
    refine xw_bipush (v := 8) dX6_isNumber_5 (by decide) ?_
    refine xw_icmp_ge (tgt := 14) dX6_isNumber_7 (by decide) (fun c7 => ?_) (fun c7 => ?_)
    · refine xw_iconst (v := 0) dX6_isNumber_14 (by decide) ?_
      refine xw_iretz dX6_isNumber_15 rfl (Or.inl rfl) (Or.inr ⟨?_, rfl, rfl⟩)
      first | assumption | grind
    · refine xw_iconst (v := 1) dX6_isNumber_10 (by decide) ?_
      refine xw_goto (tgt := 15) dX6_isNumber_11 (by decide) ?_
      refine xw_iretz dX6_isNumber_15 rfl (Or.inr rfl) (Or.inl ⟨?_, rfl, rfl⟩)
      first | assumption | grind
set_option maxRecDepth 20000 in
theorem s_X6_isLane (row : Int32) : XC g l mX6_isLane d [xr 1, xi row] M (XB (0 ≤ row ∧ row < 3) M M) := by
  show XW g l mX6_isLane _ 0 [some (xr 1), some (xi row)] [] M _
  refine xw_iload_n dX6_isLane_0 rfl ?_
  refine xw_if_lt (tgt := 13) dX6_isLane_1 (by decide) (fun c1 => ?_) (fun c1 => ?_)
  · refine xw_iconst (v := 0) dX6_isLane_13 (by decide) ?_
    refine xw_iretz dX6_isLane_14 rfl (Or.inl rfl) (Or.inr ⟨?_, rfl, rfl⟩)
    first | assumption | grind
  · refine xw_iload_n dX6_isLane_4 rfl ?_
    refine xw_iconst (v := 3) dX6_isLane_5 (by decide) ?_
    refine xw_icmp_ge (tgt := 13) dX6_isLane_6 (by decide) (fun c6 => ?_) (fun c6 => ?_)
    · refine xw_iconst (v := 0) dX6_isLane_13 (by decide) ?_
      refine xw_iretz dX6_isLane_14 rfl (Or.inl rfl) (Or.inr ⟨?_, rfl, rfl⟩)
      first | assumption | grind
    · refine xw_iconst (v := 1) dX6_isLane_9 (by decide) ?_
      refine xw_goto (tgt := 14) dX6_isLane_10 (by decide) ?_
      refine xw_iretz dX6_isLane_14 rfl (Or.inr rfl) (Or.inl ⟨?_, rfl, rfl⟩)
      first | assumption | grind
set_option maxRecDepth 20000 in
theorem s_X6_isMissing {r : Nat} (hr : r < 8) : XC g l mX6_isMissing d [xr 1, xi (nI r)] M (XB (M.1 2 r = -1) M M) := by
  show XW g l mX6_isMissing _ 0 [some (xr 1), some (xi (nI r))] [] M _
  refine xw_aload_n dX6_isMissing_0 rfl ?_
  refine xw_getR dX6_isMissing_1 fl_X6_9 rfl rfl ?_
  refine xw_iload_n dX6_isMissing_4 rfl ?_
  refine xw_ialN _ dX6_isMissing_5 rfl (rfl) (rfl) rfl ?_ ?_
  · omega
  refine xw_iconst (v := (-1)) dX6_isMissing_6 (by decide) ?_
  refine xw_icmp_ne (tgt := 14) dX6_isMissing_7 (by decide) (fun c7 => ?_) (fun c7 => ?_)
  · refine xw_iconst (v := 0) dX6_isMissing_14 (by decide) ?_
    refine xw_iretz dX6_isMissing_15 rfl (Or.inl rfl) (Or.inr ⟨?_, rfl, rfl⟩)
    first | assumption | grind
  · refine xw_iconst (v := 1) dX6_isMissing_10 (by decide) ?_
    refine xw_goto (tgt := 15) dX6_isMissing_11 (by decide) ?_
    refine xw_iretz dX6_isMissing_15 rfl (Or.inr rfl) (Or.inl ⟨?_, rfl, rfl⟩)
    first | assumption | grind
set_option maxRecDepth 20000 in
theorem s_X6_laneOf {r : Nat} (hr : r < 8) : XC g l mX6_laneOf d [xr 1, xi (nI r)] M (XE (some (xi (M.1 2 r))) M) := by
  show XW g l mX6_laneOf _ 0 [some (xr 1), some (xi (nI r))] [] M _
  refine xw_aload_n dX6_laneOf_0 rfl ?_
  refine xw_getR dX6_laneOf_1 fl_X6_9 rfl rfl ?_
  refine xw_iload_n dX6_laneOf_4 rfl ?_
  refine xw_ialN _ dX6_laneOf_5 rfl (rfl) (rfl) rfl ?_ ?_
  · omega
  refine xw_ireti dX6_laneOf_6 rfl ?_
  first | exact ⟨rfl, rfl⟩ | exact ⟨by simp_all, rfl⟩ | grind [XE]
set_option maxRecDepth 20000 in
theorem s_X6_item {r i : Nat} (hr : r * 40 + i < 320) : XC g l mX6_item d [xr 1, xi (nI r), xi (nI i)] M (XE (some (xi (M.1 4 (r * 40 + i)))) M) := by
  show XW g l mX6_item _ 0 [some (xr 1), some (xi (nI r)), some (xi (nI i))] [] M _
  refine xw_aload_n dX6_item_0 rfl ?_
  refine xw_getR dX6_item_1 fl_X6_16 rfl rfl ?_
  refine xw_iload_n dX6_item_4 rfl ?_
  refine xw_bipush (v := 40) dX6_item_5 (by decide) ?_
  refine xw_imulN (b := 40) dX6_item_7 ?_
  refine xw_iload_n dX6_item_8 rfl ?_
  refine xw_iaddN dX6_item_9 ?_
  refine xw_ialN _ dX6_item_10 rfl (rfl) (rfl) rfl ?_ ?_
  · omega
  refine xw_ireti dX6_item_11 rfl ?_
  first | exact ⟨rfl, rfl⟩ | exact ⟨by simp_all, rfl⟩ | grind [XE]
set_option maxRecDepth 20000 in
theorem s_X6_hasPlaces {r s : Nat} (i n : Int32) (hr : r < 8) (hs : M.1 3 r = nI s) (hs2 : s ≤ 40) : XC g l mX6_hasPlaces d [xr 1, xi (nI r), xi i, xi n] M (XB (0 ≤ i ∧ 0 ≤ n ∧ i.toInt + n.toInt ≤ s) M M) := by
  show XW g l mX6_hasPlaces _ 0 [some (xr 1), some (xi (nI r)), some (xi i), some (xi n)] [] M _
  refine xw_iload_n dX6_hasPlaces_0 rfl ?_
  refine xw_if_lt (tgt := 28) dX6_hasPlaces_1 (by decide) (fun c1 => ?_) (fun c1 => ?_)
  · refine xw_iconst (v := 0) dX6_hasPlaces_28 (by decide) ?_
    refine xw_iretz dX6_hasPlaces_29 rfl (Or.inl rfl) (Or.inr ⟨?_, rfl, rfl⟩)
    have e9 := nv_pl i n hs2
    have e8 := lg_cmp_gt (i.toInt64 + n.toInt64) (nI s).toInt64
    grind
  · refine xw_iload_n dX6_hasPlaces_4 rfl ?_
    refine xw_if_lt (tgt := 28) dX6_hasPlaces_5 (by decide) (fun c5 => ?_) (fun c5 => ?_)
    · refine xw_iconst (v := 0) dX6_hasPlaces_28 (by decide) ?_
      refine xw_iretz dX6_hasPlaces_29 rfl (Or.inl rfl) (Or.inr ⟨?_, rfl, rfl⟩)
      have e9 := nv_pl i n hs2
      have e8 := lg_cmp_gt (i.toInt64 + n.toInt64) (nI s).toInt64
      grind
    · refine xw_iload_n dX6_hasPlaces_8 rfl ?_
      refine xw_i2l dX6_hasPlaces_9 ?_
      refine xw_iload_n dX6_hasPlaces_10 rfl ?_
      refine xw_i2l dX6_hasPlaces_11 ?_
      refine xw_ladd dX6_hasPlaces_12 ?_
      refine xw_aload_n dX6_hasPlaces_13 rfl ?_
      refine xw_getR dX6_hasPlaces_14 fl_X6_13 rfl rfl ?_
      refine xw_iload_n dX6_hasPlaces_17 rfl ?_
      refine xw_ialN _ dX6_hasPlaces_18 rfl (rfl) (hs) rfl ?_ ?_
      · omega
      refine xw_i2l dX6_hasPlaces_19 ?_
      refine xw_lcmp dX6_hasPlaces_20 ?_
      refine xw_if_gt (tgt := 28) dX6_hasPlaces_21 (by decide) (fun c21 => ?_) (fun c21 => ?_)
      · refine xw_iconst (v := 0) dX6_hasPlaces_28 (by decide) ?_
        refine xw_iretz dX6_hasPlaces_29 rfl (Or.inl rfl) (Or.inr ⟨?_, rfl, rfl⟩)
        have e9 := nv_pl i n hs2
        have e8 := lg_cmp_gt (i.toInt64 + n.toInt64) (nI s).toInt64
        grind
      · refine xw_iconst (v := 1) dX6_hasPlaces_24 (by decide) ?_
        refine xw_goto (tgt := 29) dX6_hasPlaces_25 (by decide) ?_
        refine xw_iretz dX6_hasPlaces_29 rfl (Or.inr rfl) (Or.inl ⟨?_, rfl, rfl⟩)
        have e9 := nv_pl i n hs2
        have e8 := lg_cmp_gt (i.toInt64 + n.toInt64) (nI s).toInt64
        grind
theorem cp_fill (M : XM) (c a b : Nat) (v : Int32) (h : b ≤ a) : xum M c (fun i => if a ≤ i ∧ i < b then v else M.1 c i) = M :=
  xm_ext (fun x y => by rw [xum_at]; by_cases e : x = c <;> grind) (fun _ _ => rfl)
theorem cp_fill1 (M : XM) (c a b : Nat) (v : Int32) (h : a < b) : xum (xup M c a v) c (fun i => if a + 1 ≤ i ∧ i < b then v else (xup M c a v).1 c i) = xum M c (fun i => if a ≤ i ∧ i < b then v else M.1 c i) :=
  xm_ext (fun x y => by simp only [xum_at, xup_at]; by_cases e : x = c <;> grind) (fun _ _ => rfl)
set_option maxRecDepth 20000 in
theorem lp_X6_make {r n : Nat} {t : Int32} (hr : r < 8) (hn : n ≤ 40) : ∀ (j k : Nat) (M : XM), k + j = r * 40 + n → r * 40 ≤ k → XW g l mX6_make d 24 [some (xr 1), some (xi (nI r)), some (xi t), some (xi (nI n)), some (xi (nI (r * 40))), some (xi (nI k))] [] M (XE none (xum M 4 (fun i => if k ≤ i ∧ i < r * 40 + n then 0 else M.1 4 i))) := by
  intro j
  induction j with
  | zero =>
    intro k M hk hk2
    refine xw_iload dX6_make_24 rfl ?_
    refine xw_iload dX6_make_26 rfl ?_
    refine xw_iload_n dX6_make_28 rfl ?_
    refine xw_iaddN dX6_make_29 ?_
    refine xw_icmp_geN (tgt := 47) dX6_make_30 (by decide) (by omega) (fun c30 => ?_) (fun c30 => ?_)
    · refine xw_ret dX6_make_47 rfl ?_
      exact ⟨rfl, (cp_fill M 4 k _ 0 (by omega)).symm⟩
    · exact absurd c30 (by omega)
  | succ j ih =>
    intro k M hk hk2
    refine xw_iload dX6_make_24 rfl ?_
    refine xw_iload dX6_make_26 rfl ?_
    refine xw_iload_n dX6_make_28 rfl ?_
    refine xw_iaddN dX6_make_29 ?_
    refine xw_icmp_geN (tgt := 47) dX6_make_30 (by decide) (by omega) (fun c30 => ?_) (fun c30 => ?_)
    · exact absurd c30 (by omega)
    · refine xw_aload_n dX6_make_33 rfl ?_
      refine xw_getR dX6_make_34 fl_X6_16 rfl rfl ?_
      refine xw_iload dX6_make_37 rfl ?_
      refine xw_iconst (v := 0) dX6_make_39 (by decide) ?_
      refine xw_iasN _ dX6_make_40 rfl (rfl) rfl ?_ ?_
      · omega
      refine xw_iincN (v := 1) dX6_make_41 (by decide) rfl rfl rfl ?_
      refine xw_goto (tgt := 24) dX6_make_44 (by decide) ?_
      exact (ih (k + 1) _ (by omega) (by omega)).eqv (cp_fill1 M 4 k _ 0 (by omega))
/-- a row made: lane t, n items, all 0 -/
def mkR (M : XM) (r n : Nat) (t : Int32) : XM := xum (xup (xup M 2 r t) 3 r (nI n)) 4 (fun i => if r * 40 ≤ i ∧ i < r * 40 + n then 0 else M.1 4 i)
set_option maxRecDepth 20000 in
theorem s_X6_make {r n : Nat} {t : Int32} (hr : r < 8) (hn : n ≤ 40) : XC g l mX6_make d [xr 1, xi (nI r), xi t, xi (nI n)] M (XE none (mkR M r n t)) := by
  show XW g l mX6_make _ 0 [some (xr 1), some (xi (nI r)), some (xi t), some (xi (nI n)), none, none] [] M _
  refine xw_iload_n dX6_make_0 rfl ?_
  refine xw_bipush (v := 40) dX6_make_1 (by decide) ?_
  refine xw_imulN (b := 40) dX6_make_3 ?_
  refine xw_istore dX6_make_4 rfl rfl ?_
  refine xw_aload_n dX6_make_6 rfl ?_
  refine xw_getR dX6_make_7 fl_X6_9 rfl rfl ?_
  refine xw_iload_n dX6_make_10 rfl ?_
  refine xw_iload_n dX6_make_11 rfl ?_
  refine xw_iasN _ dX6_make_12 rfl (rfl) rfl ?_ ?_
  · omega
  refine xw_aload_n dX6_make_13 rfl ?_
  refine xw_getR dX6_make_14 fl_X6_13 rfl rfl ?_
  refine xw_iload_n dX6_make_17 rfl ?_
  refine xw_iload_n dX6_make_18 rfl ?_
  refine xw_iasN _ dX6_make_19 rfl (rfl) rfl ?_ ?_
  · omega
  refine xw_iload dX6_make_20 rfl ?_
  refine xw_istore dX6_make_22 rfl rfl ?_
  exact lp_X6_make hr hn n (r * 40) _ rfl (Nat.le_refl _)
/-- what a lane keeps of v -/
def cutL (t v : Int32) : Int32 := if t = 0 then v.toInt8.toInt32 else if t = 1 then v.toInt16.toInt32 else v
set_option maxRecDepth 20000 in
theorem s_X6_put {r i : Nat} {v : Int32} (hr : r < 8) (hi : i < 40) : XC g l mX6_put d [xr 1, xi (nI r), xi (nI i), xi v] M (XE (some (xi (cutL (M.1 2 r) v))) (xup M 4 (r * 40 + i) (cutL (M.1 2 r) v))) := by
  show XW g l mX6_put _ 0 [some (xr 1), some (xi (nI r)), some (xi (nI i)), some (xi v), none] [] M _
  refine xw_iload_n dX6_put_0 rfl ?_
  refine xw_istore dX6_put_1 rfl rfl ?_
  refine xw_aload_n dX6_put_3 rfl ?_
  refine xw_getR dX6_put_4 fl_X6_9 rfl rfl ?_
  refine xw_iload_n dX6_put_7 rfl ?_
  refine xw_ialN _ dX6_put_8 rfl (rfl) (rfl) rfl ?_ ?_
  · omega
  refine xw_if_ne (tgt := 19) dX6_put_9 (by decide) (fun c9 => ?_) (fun c9 => ?_)
  · refine xw_aload_n dX6_put_19 rfl ?_
    refine xw_getR dX6_put_20 fl_X6_9 rfl rfl ?_
    refine xw_iload_n dX6_put_23 rfl ?_
    refine xw_ialN _ dX6_put_24 rfl (rfl) (rfl) rfl ?_ ?_
    · omega
    refine xw_iconst (v := 1) dX6_put_25 (by decide) ?_
    refine xw_icmp_ne (tgt := 33) dX6_put_26 (by decide) (fun c26 => ?_) (fun c26 => ?_)
    · refine xw_aload_n dX6_put_33 rfl ?_
      refine xw_getR dX6_put_34 fl_X6_16 rfl rfl ?_
      refine xw_iload_n dX6_put_37 rfl ?_
      refine xw_bipush (v := 40) dX6_put_38 (by decide) ?_
      refine xw_imulN (b := 40) dX6_put_40 ?_
      refine xw_iload_n dX6_put_41 rfl ?_
      refine xw_iaddN dX6_put_42 ?_
      refine xw_iload dX6_put_43 rfl ?_
      refine xw_iasN _ dX6_put_45 rfl (rfl) rfl ?_ ?_
      · omega
      refine xw_iload dX6_put_46 rfl ?_
      refine xw_ireti dX6_put_48 rfl ?_
      simp_all [XE, cutL]
    · refine xw_iload_n dX6_put_29 rfl ?_
      refine xw_i2s dX6_put_30 ?_
      refine xw_istore dX6_put_31 rfl rfl ?_
      refine xw_aload_n dX6_put_33 rfl ?_
      refine xw_getR dX6_put_34 fl_X6_16 rfl rfl ?_
      refine xw_iload_n dX6_put_37 rfl ?_
      refine xw_bipush (v := 40) dX6_put_38 (by decide) ?_
      refine xw_imulN (b := 40) dX6_put_40 ?_
      refine xw_iload_n dX6_put_41 rfl ?_
      refine xw_iaddN dX6_put_42 ?_
      refine xw_iload dX6_put_43 rfl ?_
      refine xw_iasN _ dX6_put_45 rfl (rfl) rfl ?_ ?_
      · omega
      refine xw_iload dX6_put_46 rfl ?_
      refine xw_ireti dX6_put_48 rfl ?_
      simp_all [XE, cutL]
  · refine xw_iload_n dX6_put_12 rfl ?_
    refine xw_i2b dX6_put_13 ?_
    refine xw_istore dX6_put_14 rfl rfl ?_
    refine xw_goto (tgt := 33) dX6_put_16 (by decide) ?_
    refine xw_aload_n dX6_put_33 rfl ?_
    refine xw_getR dX6_put_34 fl_X6_16 rfl rfl ?_
    refine xw_iload_n dX6_put_37 rfl ?_
    refine xw_bipush (v := 40) dX6_put_38 (by decide) ?_
    refine xw_imulN (b := 40) dX6_put_40 ?_
    refine xw_iload_n dX6_put_41 rfl ?_
    refine xw_iaddN dX6_put_42 ?_
    refine xw_iload dX6_put_43 rfl ?_
    refine xw_iasN _ dX6_put_45 rfl (rfl) rfl ?_ ?_
    · omega
    refine xw_iload dX6_put_46 rfl ?_
    refine xw_ireti dX6_put_48 rfl ?_
    simp_all [XE, cutL]
set_option maxRecDepth 20000 in
theorem s_X6_move {a i b j n : Nat} (h1 : a * 40 + i + n ≤ 320) (h2 : b * 40 + j + n ≤ 320) : XC g l mX6_move (d + 1) [xr 1, xi (nI a), xi (nI i), xi (nI b), xi (nI j), xi (nI n)] M (XE none (xum M 4 (va_cpy (M.1 4) (M.1 4) (a * 40 + i) (b * 40 + j) n))) := by
  show XW g l mX6_move _ 0 [some (xr 1), some (xi (nI a)), some (xi (nI i)), some (xi (nI b)), some (xi (nI j)), some (xi (nI n))] [] M _
  refine xw_aload_n dX6_move_0 rfl ?_
  refine xw_getR dX6_move_1 fl_X6_16 rfl rfl ?_
  refine xw_iload_n dX6_move_4 rfl ?_
  refine xw_bipush (v := 40) dX6_move_5 (by decide) ?_
  refine xw_imulN (b := 40) dX6_move_7 ?_
  refine xw_iload_n dX6_move_8 rfl ?_
  refine xw_iaddN dX6_move_9 ?_
  refine xw_aload_n dX6_move_10 rfl ?_
  refine xw_getR dX6_move_11 fl_X6_16 rfl rfl ?_
  refine xw_iload_n dX6_move_14 rfl ?_
  refine xw_bipush (v := 40) dX6_move_15 (by decide) ?_
  refine xw_imulN (b := 40) dX6_move_17 ?_
  refine xw_iload dX6_move_18 rfl ?_
  refine xw_iaddN dX6_move_20 ?_
  refine xw_iload dX6_move_21 rfl ?_
  refine xw_acopyN dX6_move_23 ml_X6_19 kz_arraycopy rfl rfl rfl rfl rfl (by omega) (by omega) ?_
  refine xw_ret dX6_move_26 rfl ?_
  first | exact ⟨rfl, rfl⟩ | exact ⟨rfl, by simp_all⟩
set_option maxRecDepth 20000 in
theorem s_X6_remove {r : Nat} (hr : r < 8) : XC g l mX6_remove d [xr 1, xi (nI r)] M (XE (some (xi (M.1 3 r))) (xup M 2 r (-1))) := by
  show XW g l mX6_remove _ 0 [some (xr 1), some (xi (nI r))] [] M _
  refine xw_aload_n dX6_remove_0 rfl ?_
  refine xw_getR dX6_remove_1 fl_X6_9 rfl rfl ?_
  refine xw_iload_n dX6_remove_4 rfl ?_
  refine xw_iconst (v := (-1)) dX6_remove_5 (by decide) ?_
  refine xw_iasN _ dX6_remove_6 rfl (rfl) rfl ?_ ?_
  · omega
  refine xw_aload_n dX6_remove_7 rfl ?_
  refine xw_getR dX6_remove_8 fl_X6_13 rfl rfl ?_
  refine xw_iload_n dX6_remove_11 rfl ?_
  refine xw_ialN _ dX6_remove_12 rfl (rfl) (rfl) rfl ?_ ?_
  · omega
  refine xw_ireti dX6_remove_13 rfl ?_
  exact ⟨by rw [xup_cell _ _ (by decide)], rfl⟩
/-- how many of the first j rows are there -/
def cntR (M : XM) : Nat → Nat | 0 => 0 | j + 1 => cntR M j + (if M.1 2 j = -1 then 0 else 1)
theorem cntR_le (M : XM) : ∀ j, cntR M j ≤ j | 0 => Nat.le_refl _ | j + 1 => by have := cntR_le M j; unfold cntR; split <;> omega
set_option maxRecDepth 20000 in
theorem lp_X6_present  : ∀ (j k : Nat), k + j = 8 → XW g l mX6_present d 4 [some (xr 1), some (xi (nI (cntR M k))), some (xi (nI k))] [] M (XE (some (xi (nI (cntR M 8)))) M) := by
  intro j
  induction j with
  | zero =>
    intro k hk
    have hk : k = 8 := by omega
    subst hk
    refine xw_iload_n dX6_present_4 rfl ?_
    refine xw_bipush (v := 8) dX6_present_5 (by decide) ?_
    refine xw_icmp_geN (b := 8) (tgt := 29) dX6_present_7 (by decide) (by omega) (fun c7 => ?_) (fun c7 => ?_)
    · refine xw_iload_n dX6_present_29 rfl ?_
      refine xw_ireti dX6_present_30 rfl ?_
      first | exact ⟨rfl, rfl⟩ | exact ⟨by simp_all, rfl⟩ | grind [XE]
    · exact absurd c7 (by omega)
  | succ j ih =>
    intro k hk
    have e9 : cntR M (k + 1) = cntR M k + (if M.1 2 k = -1 then 0 else 1) := rfl
    have h9 := cntR_le M k
    have ih2 := ih (k + 1) (by omega)
    refine xw_iload_n dX6_present_4 rfl ?_
    refine xw_bipush (v := 8) dX6_present_5 (by decide) ?_
    refine xw_icmp_geN (b := 8) (tgt := 29) dX6_present_7 (by decide) (by omega) (fun c7 => ?_) (fun c7 => ?_)
    · exact absurd c7 (by omega)
    · refine xw_aload_n dX6_present_10 rfl ?_
      refine xw_getR dX6_present_11 fl_X6_9 rfl rfl ?_
      refine xw_iload_n dX6_present_14 rfl ?_
      refine xw_ialN _ dX6_present_15 rfl (rfl) (rfl) rfl ?_ ?_
      · omega
      refine xw_iconst (v := (-1)) dX6_present_16 (by decide) ?_
      refine xw_icmp_eq (tgt := 23) dX6_present_17 (by decide) (fun c17 => ?_) (fun c17 => ?_)
      · rw [if_pos c17] at e9
        rw [e9] at ih2
        refine xw_iincN (v := 1) dX6_present_23 (by decide) rfl rfl rfl ?_
        refine xw_goto (tgt := 4) dX6_present_26 (by decide) ?_
        exact ih2
      · rw [if_neg c17] at e9
        rw [e9] at ih2
        refine xw_iincN (v := 1) dX6_present_20 (by decide) rfl rfl rfl ?_
        refine xw_iincN (v := 1) dX6_present_23 (by decide) rfl rfl rfl ?_
        refine xw_goto (tgt := 4) dX6_present_26 (by decide) ?_
        exact ih2
set_option maxRecDepth 20000 in
theorem s_X6_present  : XC g l mX6_present d [xr 1] M (XE (some (xi (nI (cntR M 8)))) M) := by
  show XW g l mX6_present _ 0 [some (xr 1), none, none] [] M _
  refine xw_iconst (v := 0) dX6_present_0 (by decide) ?_
  refine xw_istore_n dX6_present_1 rfl rfl ?_
  refine xw_iconst (v := 0) dX6_present_2 (by decide) ?_
  refine xw_istore_n dX6_present_3 rfl rfl ?_
  exact lp_X6_present 8 0 rfl
end ROWS
