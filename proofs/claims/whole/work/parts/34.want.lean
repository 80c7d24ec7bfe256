section WANT
variable {g : XG} {l : Launch} {d : Nat} {M : XM}
set_option maxRecDepth 20000 in
theorem lp_X2_brook {D : FD} {h : Nat} (hC : FCS M 8 D) (hh : h < dn D)  : ∀ (q k PP : Nat) (v5 : Option XV), k + q = 17 → PP < 2 ^ 24 → GW D PP → XW g l mX2_liesTillBrook (d + 4) 8 [some (xr 43), some (xr 8), some (xi (nI h)), some (xi (nI PP)), some (xi (nI k)), v5] [] M (XE (some (xi (brV D h q PP k))) M) := by
  have hhs : ∀ h, h < dn D → 1 ≤ dW D h := fun k hk => (hC.2.2.2.2.2.2.2.2.2.2.2.2 k hk).2.1
  have hn6 := hC.1
  intro q
  induction q with
  | zero =>
    intro k PP v5 hk hP hg
    refine xw_iload dX2_liesTillBrook_8 rfl ?_
    refine xw_bipush (v := 16) dX2_liesTillBrook_10 (by decide) ?_
    refine xw_icmp_gtN (b := 16) (tgt := 57) dX2_liesTillBrook_12 (by decide) (by omega) (fun c12 => ?_) (fun c12 => ?_)
    · refine xw_ldc dX2_liesTillBrook_57 kc_X2_34 ?_
      refine xw_ireti dX2_liesTillBrook_59 rfl ?_
      first | exact ⟨rfl, rfl⟩ | exact ⟨by simp_all, rfl⟩ | grind [XE]
    · exfalso; omega
  | succ q ih =>
    intro k PP v5 hk hP hg
    have hsl := slV_lt D PP h hn6
    refine xw_iload dX2_liesTillBrook_8 rfl ?_
    refine xw_bipush (v := 16) dX2_liesTillBrook_10 (by decide) ?_
    refine xw_icmp_gtN (b := 16) (tgt := 57) dX2_liesTillBrook_12 (by decide) (by omega) (fun c12 => ?_) (fun c12 => ?_)
    · exfalso; omega
    · refine xw_aload_n dX2_liesTillBrook_15 rfl ?_
      refine xw_iload_n dX2_liesTillBrook_16 rfl ?_
      refine xw_iload_n dX2_liesTillBrook_17 rfl ?_
      refine xw_cV2B dX2_liesTillBrook_18 okX1_isDrowned ml_X2_59 rfl rfl rfl rfl (s_X1_isDrowned xf_8 hC hP (by omega)) (fun p18 => ?_) (fun p18 => ?_)
      · refine xw_if_eq (tgt := 27) dX2_liesTillBrook_21 (by decide) (fun q9 => absurd q9 (by decide)) (fun _ => ?_)
        refine xw_iload dX2_liesTillBrook_24 rfl ?_
        refine xw_ireti dX2_liesTillBrook_26 rfl ?_
        exact ⟨by rw [brV_dr p18], rfl⟩
      · refine xw_if_eq (tgt := 27) dX2_liesTillBrook_21 (by decide) (fun _ => ?_) (fun q9 => absurd q9 (by decide))
        refine xw_aload_n dX2_liesTillBrook_27 rfl ?_
        refine xw_iload_n dX2_liesTillBrook_28 rfl ?_
        refine xw_iload_n dX2_liesTillBrook_29 rfl ?_
        refine xw_cV2E dX2_liesTillBrook_30 okX1_slidBy ml_X2_25 rfl rfl rfl rfl (s_X1_slidBy xf_8 hC hP (by omega)) ?_
        refine xw_istore dX2_liesTillBrook_33 rfl rfl ?_
        refine xw_iload dX2_liesTillBrook_35 rfl ?_
        refine xw_if_neN (tgt := 43) dX2_liesTillBrook_37 (by decide) (by omega) (fun c37 => ?_) (fun c37 => ?_)
        · refine xw_aload_n dX2_liesTillBrook_43 rfl ?_
          refine xw_iload_n dX2_liesTillBrook_44 rfl ?_
          refine xw_iload dX2_liesTillBrook_45 rfl ?_
          refine xw_cV2E dX2_liesTillBrook_47 okX1_afterSlide ml_X2_31 rfl rfl rfl rfl (s_X1_afterSlide xf_8 hC hsl) ?_
          refine xw_istore_n dX2_liesTillBrook_50 rfl rfl ?_
          refine xw_iincN (v := 1) dX2_liesTillBrook_51 (by decide) rfl rfl rfl ?_
          refine xw_goto (tgt := 8) dX2_liesTillBrook_54 (by decide) ?_
          rw [brV_go p18 c37]
          exact ih (k + 1) (slP D PP h) _ (by omega) (slP_px hP hn6 hg hhs).1 (slP_GW hP hn6 hh hg hhs)
        · refine xw_ldc dX2_liesTillBrook_40 kc_X2_34 ?_
          refine xw_ireti dX2_liesTillBrook_42 rfl ?_
          exact ⟨by rw [brV_no p18 c37], rfl⟩
set_option maxRecDepth 20000 in
theorem s_X2_brook {D : FD} {h : Nat} (hC : FCS M 8 D) (hh : h < dn D) {PP : Nat} (hX : M.1 8 3 = nI PP) (hP : PP < 2 ^ 24) (hg : GW D PP)  : XC g l mX2_liesTillBrook (d + 4) [xr 43, xr 8, xi (nI h)] M (XE (some (xi (brV D h 17 PP 0))) M) := by
  show XW g l mX2_liesTillBrook _ 0 [some (xr 43), some (xr 8), some (xi (nI h)), none, none, none] [] M _
  refine xw_aload_n dX2_liesTillBrook_0 rfl ?_
  refine xw_getV dX2_liesTillBrook_1 fl_X2_46 rfl rfl (hX) ?_
  refine xw_istore_n dX2_liesTillBrook_4 rfl rfl ?_
  refine xw_iconst (v := 0) dX2_liesTillBrook_5 (by decide) ?_
  refine xw_istore dX2_liesTillBrook_6 rfl rfl ?_
  exact lp_X2_brook hC hh 17 0 PP none (by omega) hP hg
set_option maxRecDepth 20000 in
theorem k_X7_brook_bad {a : Int32} (h : ¬ (0 ≤ a ∧ a < M.1 8 2)) : XC g l mX7_brook (d + 5) [xr 0, xi a] M (XE (some (xi (-1000001))) M) := by
  show XW g l mX7_brook _ 0 [some (xr 0), some (xi a)] [] M _
  refine xw_aload_n dX7_brook_0 rfl ?_
  refine xw_getR dX7_brook_1 fl_X7_26 rfl rfl ?_
  refine xw_iload_n dX7_brook_4 rfl ?_
  refine xw_cV1B dX7_brook_5 okX1_isHouse ml_X7_133 rfl rfl rfl rfl (s_X1_isHouse xf_8 _) (fun p5 => ?_) (fun p5 => ?_)
  · exfalso; first | contradiction | omega | grind | simp_all
  · refine xw_if_eq (tgt := 26) dX7_brook_8 (by decide) (fun _ => ?_) (fun q9 => absurd q9 (by decide))
    refine xw_ldc dX7_brook_26 kc_X7_66 ?_
    refine xw_ireti dX7_brook_28 rfl ?_
    first | exact ⟨rfl, rfl⟩ | exact ⟨by simp_all, rfl⟩ | grind [XE]
set_option maxRecDepth 20000 in
theorem k_X7_brook_ok {D : FD} {h : Nat} (hC : FCS M 8 D) (hh : h < dn D) {PP : Nat} (hX : M.1 8 3 = nI PP) (hP : PP < 2 ^ 24) (hg : GW D PP)  : XC g l mX7_brook (d + 5) [xr 0, xi (nI h)] M (XE (some (xi (brV D h 17 PP 0))) M) := by
  have hN := hC.2.2.2.1
  have hn6 := hC.1
  have e0 : 0 ≤ nI h ∧ nI h < M.1 8 2 := by rw [hN]; exact nI_in0 (by omega) hh
  show XW g l mX7_brook _ 0 [some (xr 0), some (xi (nI h))] [] M _
  refine xw_aload_n dX7_brook_0 rfl ?_
  refine xw_getR dX7_brook_1 fl_X7_26 rfl rfl ?_
  refine xw_iload_n dX7_brook_4 rfl ?_
  refine xw_cV1B dX7_brook_5 okX1_isHouse ml_X7_133 rfl rfl rfl rfl (s_X1_isHouse xf_8 _) (fun p5 => ?_) (fun p5 => ?_)
  · refine xw_if_eq (tgt := 26) dX7_brook_8 (by decide) (fun q9 => absurd q9 (by decide)) (fun _ => ?_)
    refine xw_aload_n dX7_brook_11 rfl ?_
    refine xw_getR dX7_brook_12 fl_X7_44 rfl rfl ?_
    refine xw_aload_n dX7_brook_15 rfl ?_
    refine xw_getR dX7_brook_16 fl_X7_26 rfl rfl ?_
    refine xw_iload_n dX7_brook_19 rfl ?_
    refine xw_cV2E dX7_brook_20 okX2_liesTillBrook ml_X7_220 rfl rfl rfl rfl (s_X2_brook hC hh hX hP hg) ?_
    refine xw_goto (tgt := 28) dX7_brook_23 (by decide) ?_
    refine xw_ireti dX7_brook_28 rfl ?_
    first | exact ⟨rfl, rfl⟩ | exact ⟨by simp_all, rfl⟩ | grind [XE]
  · exfalso; contradiction
set_option maxRecDepth 20000 in
theorem lpn_X8_brook {D : FD} {h PP : Nat} (hC : FMS M 54 D) (hX : XMP M 54 PP) (hh : h < dn D) {Q k : Nat} {N : XM} (hF : FrS M N PP) (hX2 : XMP N 54 Q) (hd : ¬ drowned D Q h) (he : -1000000 = brV D h 17 PP 0) : XW g l mX8_brook (d + 3) 19 [some (xr 49), some (xi (nI h)), some (xi (nI k)), some (xi 0)] [] N (fun r M' => r = some (xi (brV D h 17 PP 0)) ∧ Fr59 M M') := by
  have hC2 := hC.frS hF
  refine xw_aload_n dX8_brook_19 rfl ?_
  refine xw_iload_n dX8_brook_20 rfl ?_
  refine xw_cV1B dX8_brook_21 okX8_isDrowned ml_X8_202 rfl rfl rfl rfl (s_X8_isDrowned hC2 hX2 hh) (fun p21 => ?_) (fun p21 => ?_)
  · exact absurd p21 hd
  · refine xw_if_ne (tgt := 51) dX8_brook_24 (by decide) (fun q9 => absurd q9 (by decide)) (fun _ => ?_)
    refine xw_iload_n dX8_brook_27 rfl ?_
    refine xw_if_eq (tgt := 51) dX8_brook_28 (by decide) (fun _ => ?_) (fun q9 => absurd q9 (by decide))
    refine xw_aload_n dX8_brook_51 rfl ?_
    refine xw_cV0N dX8_brook_52 okX8_putBack ml_X8_222 rfl rfl rfl rfl (s_X8_putBack hF.2.2) ?_
    refine xw_iload_n dX8_brook_55 rfl ?_
    refine xw_if_eq (tgt := 63) dX8_brook_56 (by decide) (fun _ => ?_) (fun q9 => absurd q9 (by decide))
    refine xw_ldc dX8_brook_63 kc_X8_50 ?_
    refine xw_ireti dX8_brook_65 rfl ?_
    exact ⟨by rw [he], hF.back hX (N2 := pbM N PP 6) (fun a b => pbM_at N PP 6 a b) rfl⟩
set_option maxRecDepth 20000 in
theorem lp_X8_brook {D : FD} {h PP : Nat} (hC : FMS M 54 D) (hX : XMP M 54 PP) (hh : h < dn D)  : ∀ (f k Q : Nat) (N : XM), FrS M N PP → XMP N 54 Q → Q < 2 ^ 24 → GW D Q → 16 - px Q h < f → brV D h f Q k = brV D h 17 PP 0 → k < 1000 → k + f < 1000 → XW g l mX8_brook (d + 3) 19 [some (xr 49), some (xi (nI h)), some (xi (nI k)), some (xi 1)] [] N (fun r M' => r = some (xi (brV D h 17 PP 0)) ∧ Fr59 M M') := by
  have hhs : ∀ h, h < dn D → 1 ≤ dW D h := fun k hk => (hC.2.2.2.2.2.2.2.2.2 k hk).2.1
  have hn6 := hC.1
  intro f
  induction f with
  | zero =>
    intro k Q N hF hX2 hQ hgQ hf
    omega
  | succ f ih =>
    intro k Q N hF hX2 hQ hgQ hf he hk1 hk2
    have hC2 := hC.frS hF
    have hsl := slV_lt D Q h hn6
    refine xw_aload_n dX8_brook_19 rfl ?_
    refine xw_iload_n dX8_brook_20 rfl ?_
    refine xw_cV1B dX8_brook_21 okX8_isDrowned ml_X8_202 rfl rfl rfl rfl (s_X8_isDrowned hC2 hX2 hh) (fun p21 => ?_) (fun p21 => ?_)
    · refine xw_if_ne (tgt := 51) dX8_brook_24 (by decide) (fun _ => ?_) (fun q9 => absurd q9 (by decide))
      refine xw_aload_n dX8_brook_51 rfl ?_
      refine xw_cV0N dX8_brook_52 okX8_putBack ml_X8_222 rfl rfl rfl rfl (s_X8_putBack hF.2.2) ?_
      refine xw_iload_n dX8_brook_55 rfl ?_
      refine xw_if_eq (tgt := 63) dX8_brook_56 (by decide) (fun q9 => absurd q9 (by decide)) (fun _ => ?_)
      refine xw_iload_n dX8_brook_59 rfl ?_
      refine xw_goto (tgt := 65) dX8_brook_60 (by decide) ?_
      refine xw_ireti dX8_brook_65 rfl ?_
      exact ⟨by rw [← he, brV_dr p21], hF.back hX (N2 := pbM N PP 6) (fun a b => pbM_at N PP 6 a b) rfl⟩
    · refine xw_if_ne (tgt := 51) dX8_brook_24 (by decide) (fun q9 => absurd q9 (by decide)) (fun _ => ?_)
      refine xw_iload_n dX8_brook_27 rfl ?_
      refine xw_if_eq (tgt := 51) dX8_brook_28 (by decide) (fun q9 => absurd q9 (by decide)) (fun _ => ?_)
      refine xw_aload_n dX8_brook_31 rfl ?_
      refine xw_iload_n dX8_brook_32 rfl ?_
      refine xw_cV1E dX8_brook_33 okX8_slide ml_X8_196 rfl rfl rfl rfl (s_X8_slide hC2 hX2 hgQ hh) ?_
      refine xw_if_eqN (tgt := 43) dX8_brook_36 (by decide) (by omega) (fun c36 => ?_) (fun c36 => ?_)
      · refine xw_iconst (v := 0) dX8_brook_43 (by decide) ?_
        refine xw_istore_n dX8_brook_44 rfl rfl ?_
        refine xw_iincN (v := 1) dX8_brook_45 (by decide) rfl rfl rfl ?_
        refine xw_goto (tgt := 19) dX8_brook_48 (by decide) ?_
        first
        | (rw [brV_go p21 (by assumption)] at he
           have e1 := slP_self hQ hn6 hgQ hhs hh (by assumption)
           have e2 := px_lt (slP D Q h) h
           exact ih (k + 1) (slP D Q h) _ (hF.mv hn6) (mvX_XMP hX2 hQ hn6 hgQ hhs) (slP_px hQ hn6 hgQ hhs).1 (slP_GW hQ hn6 hh hgQ hhs) (by omega) he (by omega) (by omega))
        | (have e0 : slV D Q h = 0 := by assumption
           rw [brV_no p21 e0] at he
           rw [e0, mvX_0]
           exact lpn_X8_brook hC hX hh hF hX2 p21 he)
      · refine xw_iconst (v := 1) dX8_brook_39 (by decide) ?_
        refine xw_goto (tgt := 44) dX8_brook_40 (by decide) ?_
        refine xw_istore_n dX8_brook_44 rfl rfl ?_
        refine xw_iincN (v := 1) dX8_brook_45 (by decide) rfl rfl rfl ?_
        refine xw_goto (tgt := 19) dX8_brook_48 (by decide) ?_
        first
        | (rw [brV_go p21 (by assumption)] at he
           have e1 := slP_self hQ hn6 hgQ hhs hh (by assumption)
           have e2 := px_lt (slP D Q h) h
           exact ih (k + 1) (slP D Q h) _ (hF.mv hn6) (mvX_XMP hX2 hQ hn6 hgQ hhs) (slP_px hQ hn6 hgQ hhs).1 (slP_GW hQ hn6 hh hgQ hhs) (by omega) he (by omega) (by omega))
        | (have e0 : slV D Q h = 0 := by assumption
           rw [brV_no p21 e0] at he
           rw [e0, mvX_0]
           exact lpn_X8_brook hC hX hh hF hX2 p21 he)
set_option maxRecDepth 20000 in
theorem k_X8_brook_bad {n : Nat} {a : Int32} (hN : M.1 54 3 = nI n) (hn6 : n ≤ 6) (h : ¬ (0 ≤ a ∧ a < nI n)) : XC g l mX8_brook (d + 3) [xr 49, xi a] M (XE (some (xi (-1000001))) M) := by
  show XW g l mX8_brook _ 0 [some (xr 49), some (xi a), none, none] [] M _
  refine xw_aload_n dX8_brook_0 rfl ?_
  refine xw_iload_n dX8_brook_1 rfl ?_
  refine xw_cV1B dX8_brook_2 okX8_isThere ml_X8_199 rfl rfl rfl rfl (s_X8_isThere hN hn6 _) (fun p2 => ?_) (fun p2 => ?_)
  · exfalso; first | contradiction | omega | grind | simp_all
  · refine xw_if_ne (tgt := 11) dX8_brook_5 (by decide) (fun q9 => absurd q9 (by decide)) (fun _ => ?_)
    refine xw_ldc dX8_brook_8 kc_X8_64 ?_
    refine xw_ireti dX8_brook_10 rfl ?_
    first | exact ⟨rfl, rfl⟩ | exact ⟨by simp_all, rfl⟩ | grind [XE]
set_option maxRecDepth 20000 in
theorem m_brook {D : FD} {h PP : Nat} (hC : FMS M 54 D) (hX : XMP M 54 PP) (hh : h < dn D) (hP : PP < 2 ^ 24) (hg : GW D PP) : XC g l mX8_brook (d + 3) [xr 49, xi (nI h)] M (fun r M' => r = some (xi (brV D h 17 PP 0)) ∧ Fr59 M M') := by
  have hN := hC.2.2.2.1
  have hn6 := hC.1
  have e0 : 0 ≤ nI h ∧ nI h < nI (dn D) := nI_in0 (by omega) hh
  show XW g l mX8_brook _ 0 [some (xr 49), some (xi (nI h)), none, none] [] M _
  refine xw_aload_n dX8_brook_0 rfl ?_
  refine xw_iload_n dX8_brook_1 rfl ?_
  refine xw_cV1B dX8_brook_2 okX8_isThere ml_X8_199 rfl rfl rfl rfl (s_X8_isThere hN hn6 _) (fun p2 => ?_) (fun p2 => ?_)
  · refine xw_if_ne (tgt := 11) dX8_brook_5 (by decide) (fun _ => ?_) (fun q9 => absurd q9 (by decide))
    refine xw_aload_n dX8_brook_11 rfl ?_
    refine xw_cV0N dX8_brook_12 okX8_putAside ml_X8_219 rfl rfl rfl rfl (s_X8_putAside hX) ?_
    refine xw_iconst (v := 0) dX8_brook_15 (by decide) ?_
    refine xw_istore_n dX8_brook_16 rfl rfl ?_
    refine xw_iconst (v := 1) dX8_brook_17 (by decide) ?_
    refine xw_istore_n dX8_brook_18 rfl rfl ?_
    exact lp_X8_brook hC hX hh 17 0 PP _ ⟨fun a b q1 q2 => by rw [paM_at, if_neg (by omega)], rfl, fun i hi => by rw [paM_at, if_pos ⟨rfl, hi⟩]⟩ (fun k hk => by rw [paM_at, if_neg (by omega)]; exact hX k hk) hP hg (by omega) rfl (by omega) (by omega)
  · exfalso; contradiction
end WANT
