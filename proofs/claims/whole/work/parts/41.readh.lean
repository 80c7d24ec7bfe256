section READH
variable {g : XG} {l : Launch} {d : Nat} {M : XM}
set_option maxRecDepth 20000 in
theorem lp_X5_readHouse {T : TX} {M4 : XM} {p3 p4 kd v1 v2 v3 v4 PP : Nat} {D : FD} (hT4 : TC M4 T) (hk4 : Tk M4 T p3) (hD4 : DC M4 D PP) (hW : WD D PP) (hn6 : dn D < 6) (hFF : FrP 5 M M4) (hp4 : p4 = tkE T p3) (hkn : 1 ≤ kd ∧ kd ≤ 5) (hv4 : M4.1 5 8 = nI v4) (hb1 : v1 ≤ 15) (hb2 : v2 ≤ 7) (hb3 : 1 ≤ v3 ∧ v3 ≤ 4) (hb4 : 1 ≤ v4 ∧ v4 ≤ 3) : XW g l mX5_readHouse (d + 6) 81 [some (xr 5), some (xi (nI kd)), some (xi (nI v1)), some (xi (nI v2)), some (xi (nI v3))] [] M4 (PQc T (endH T p3 p4 kd v1 v2 v3 v4 (D, PP)) M) := by
  have hE4 := tkE_le hk4.2.2.2.2
  subst hp4
  refine xw_aload_n dX5_readHouse_81 rfl ?_
  refine xw_getR dX5_readHouse_82 fl_X5_22 rfl rfl ?_
  refine xw_iload_n dX5_readHouse_85 rfl ?_
  refine xw_iload_n dX5_readHouse_86 rfl ?_
  refine xw_iload dX5_readHouse_87 rfl ?_
  refine xw_aload_n dX5_readHouse_89 rfl ?_
  refine xw_getV dX5_readHouse_90 fl_X5_41 rfl rfl (hv4) ?_
  refine xw_cV4B dX5_readHouse_93 okX1_hasRoomFor ml_X5_106 rfl rfl rfl rfl (s_X1_hasRoomFor hD4.1 hD4.2.1 hW.2.1 (by omega) (by omega) hb3 hb4) (fun p93 => ?_) (fun p93 => ?_)
  · refine xw_if_ne (tgt := 105) dX5_readHouse_96 (by decide) (fun _ => ?_) (fun q9 => absurd q9 (by decide))
    refine xw_aload_n dX5_readHouse_105 rfl ?_
    refine xw_getR dX5_readHouse_106 fl_X5_22 rfl rfl ?_
    refine xw_iload_n dX5_readHouse_109 rfl ?_
    refine xw_iload_n dX5_readHouse_110 rfl ?_
    refine xw_iload_n dX5_readHouse_111 rfl ?_
    refine xw_iload dX5_readHouse_112 rfl ?_
    refine xw_aload_n dX5_readHouse_114 rfl ?_
    refine xw_getV dX5_readHouse_115 fl_X5_41 rfl rfl (hv4) ?_
    refine xw_cV5N dX5_readHouse_118 okX1_addHouse ml_X5_110 rfl rfl rfl rfl (s_X1_addHouse hD4.1.2.2.2.1 hD4.2.1 hn6 (by omega)) ?_
    have hr2 : roomP D PP v1 v2 v3 v4 := p93
    have hgo2 := endH_go (T := T) (p := p3) (q := tkE T p3) (kd := kd) (D := (D, PP)) hr2
    have hDH := DC_H (x := v1) (y := v2) (kd := kd) hD4 hn6 hb3 hb4 hkn.2 hr2.2.1
    have hWH := WD_H (kd := kd) hW hn6 hr2 (by omega) hb3.1 hb3.2 hb4.1 hkn.1 (fun j hj => ⟨(hD4.1.2.2.2.2.2.2.2.2.2.2.2.2 j hj).2.1, (hD4.1.2.2.2.2.2.2.2.2.2.2.2.2 j hj).2.2.2.1⟩)
    have hT5 := hT4.frP (ahM_fr (n := dn D) (a := nI kd) (b := nI v2) (c := nI v3) (e := nI v4) (f := nI (adX D PP v1)) (FrP.rf 5 M4)) (by decide)
    refine xw_aload_n dX5_readHouse_121 rfl ?_
    refine xw_cV0Q dX5_readHouse_122 okX5_takeSemicolon ml_X5_83 rfl rfl rfl rfl (s_X5_takeSemicolon hT5 ((ahM_5 _ _ _ _ _ _ _ _ _ (by decide)).trans hk4.2.1) hE4.2.1) ?_
    rintro _ M5 (⟨rfl, q5, hn5, hF5, hk5⟩ | ⟨rfl, n9, s9, hn5, hf5⟩)
    · refine xw_iretz dX5_readHouse_125 rfl (Or.inr rfl) ?_
      exact Or.inl ⟨q5, _, _, by simp only [hgo2, pb, hn5], rfl, hDH.f5 hF5, hWH, hk5, (ahM_fr hFF).f5 hF5 (by decide)⟩
    · refine xw_iretz dX5_readHouse_125 rfl (Or.inl rfl) ?_
      exact PQc.bad (by simp only [hgo2, pb, hn5]) (ahM_fr hFF) hf5
  · refine xw_if_ne (tgt := 105) dX5_readHouse_96 (by decide) (fun q9 => absurd q9 (by decide)) (fun _ => ?_)
    refine xw_aload_n dX5_readHouse_99 rfl ?_
    refine xw_iconst (v := 2) dX5_readHouse_100 (by decide) ?_
    refine xw_cV1E dX5_readHouse_101 okX5_failWith ml_X5_69 rfl rfl rfl rfl (s_X5_failWith) ?_
    refine xw_iretz dX5_readHouse_104 rfl (Or.inl rfl) ?_
    exact PQc.fail (n := 2) (endH_no p93) hFF hk4.1
set_option maxRecDepth 20000 in
theorem s_X5_readHouse {T : TX} {p PP : Nat} {D : FD} (hT : TC M T) (hk : Tk M T p) (hD : DC M D PP) (hW : WD D PP) (hn6 : dn D < 6) : XC g l mX5_readHouse (d + 6) [xr 5] M (PQc T (houP T (tkE T p) (D, PP)) M) := by
  have hE := tkE_le hk.2.2.2.2
  show XW g l mX5_readHouse _ 0 [some (xr 5), none, none, none, none] [] M _
  refine xw_aload_n dX5_readHouse_0 rfl ?_
  refine xw_cV0Q dX5_readHouse_1 okX5_takeToken ml_X5_47 rfl rfl rfl rfl (s_X5_takeToken hT hk.2.1 hE.2.1) ?_
  rintro _ M0 ⟨rfl, hF0, hk0⟩
  have hT0 := hT.fr hF0 (by decide)
  have hE0 := tkE_le hk0.2.2.2.2
  have hkn := knW_le T (tkE T p)
  refine xw_aload_n dX5_readHouse_4 rfl ?_
  refine xw_cV0E dX5_readHouse_5 okX5_kindOfWord ml_X5_102 rfl rfl rfl rfl (s_X5_kindOfWord hT0 hk0) ?_
  refine xw_istore_n dX5_readHouse_8 rfl rfl ?_
  refine xw_iload_n dX5_readHouse_9 rfl ?_
  refine xw_if_neN (tgt := 19) dX5_readHouse_10 (by decide) (by omega) (fun c10 => ?_) (fun c10 => ?_)
  · have hgo := houP_go (D := (D, PP)) (show ¬ knW T (tkE T p) = 0 by omega)
    refine xw_aload_n dX5_readHouse_19 rfl ?_
    refine xw_iconst (v := 0) dX5_readHouse_20 (by decide) ?_
    refine xw_bipush (v := 15) dX5_readHouse_21 (by decide) ?_
    refine xw_cV2Q dX5_readHouse_23 okX5_takeNumber ml_X5_73 rfl rfl rfl rfl (s_X5_takeNumber (lo := 0) (hi := 15) hT0 hk0.2.1 hE0.2.1 (by decide) (by decide)) ?_
    rintro _ M1 (⟨rfl, v1, hn1, hv1, hb1, hF1, hk1⟩ | ⟨rfl, n9, s9, hn1, hf1⟩)
    · refine xw_if_ne (tgt := 31) dX5_readHouse_26 (by decide) (fun _ => ?_) (fun q9 => absurd q9 (by decide))
      refine xw_aload_n dX5_readHouse_31 rfl ?_
      refine xw_getV dX5_readHouse_32 fl_X5_41 rfl rfl (hv1) ?_
      refine xw_istore_n dX5_readHouse_35 rfl rfl ?_
      have hE1 := tkE_le hk1.2.2.2.2
      have hT1 := hT0.fr hF1 (by decide)
      refine xw_aload_n dX5_readHouse_36 rfl ?_
      refine xw_iconst (v := 0) dX5_readHouse_37 (by decide) ?_
      refine xw_bipush (v := 7) dX5_readHouse_38 (by decide) ?_
      refine xw_cV2Q dX5_readHouse_40 okX5_takeNumber ml_X5_73 rfl rfl rfl rfl (s_X5_takeNumber (lo := 0) (hi := 7) hT1 hk1.2.1 hE1.2.1 (by decide) (by decide)) ?_
      rintro _ M2 (⟨rfl, v2, hn2, hv2, hb2, hF2, hk2⟩ | ⟨rfl, n9, s9, hn2, hf2⟩)
      · refine xw_if_ne (tgt := 48) dX5_readHouse_43 (by decide) (fun _ => ?_) (fun q9 => absurd q9 (by decide))
        refine xw_aload_n dX5_readHouse_48 rfl ?_
        refine xw_getV dX5_readHouse_49 fl_X5_41 rfl rfl (hv2) ?_
        refine xw_istore_n dX5_readHouse_52 rfl rfl ?_
        have hE2 := tkE_le hk2.2.2.2.2
        have hT2 := hT1.fr hF2 (by decide)
        refine xw_aload_n dX5_readHouse_53 rfl ?_
        refine xw_iconst (v := 1) dX5_readHouse_54 (by decide) ?_
        refine xw_iconst (v := 4) dX5_readHouse_55 (by decide) ?_
        refine xw_cV2Q dX5_readHouse_56 okX5_takeNumber ml_X5_73 rfl rfl rfl rfl (s_X5_takeNumber (lo := 1) (hi := 4) hT2 hk2.2.1 hE2.2.1 (by decide) (by decide)) ?_
        rintro _ M3 (⟨rfl, v3, hn3, hv3, hb3, hF3, hk3⟩ | ⟨rfl, n9, s9, hn3, hf3⟩)
        · refine xw_if_ne (tgt := 64) dX5_readHouse_59 (by decide) (fun _ => ?_) (fun q9 => absurd q9 (by decide))
          refine xw_aload_n dX5_readHouse_64 rfl ?_
          refine xw_getV dX5_readHouse_65 fl_X5_41 rfl rfl (hv3) ?_
          refine xw_istore dX5_readHouse_68 rfl rfl ?_
          have hE3 := tkE_le hk3.2.2.2.2
          have hT3 := hT2.fr hF3 (by decide)
          refine xw_aload_n dX5_readHouse_70 rfl ?_
          refine xw_iconst (v := 1) dX5_readHouse_71 (by decide) ?_
          refine xw_iconst (v := 3) dX5_readHouse_72 (by decide) ?_
          refine xw_cV2Q dX5_readHouse_73 okX5_takeNumber ml_X5_73 rfl rfl rfl rfl (s_X5_takeNumber (lo := 1) (hi := 3) hT3 hk3.2.1 hE3.2.1 (by decide) (by decide)) ?_
          rintro _ M4 (⟨rfl, v4, hn4, hv4, hb4, hF4, hk4⟩ | ⟨rfl, n9, s9, hn4, hf4⟩)
          · refine xw_if_ne (tgt := 81) dX5_readHouse_76 (by decide) (fun _ => ?_) (fun q9 => absurd q9 (by decide))
            have hFF := (((((FrP.rf 5 M).f5 hF0 (by decide)).f5 hF1 (by decide)).f5 hF2 (by decide)).f5 hF3 (by decide)).f5 hF4 (by decide)
            have hD4 := ((((hD.f5 hF0).f5 hF1).f5 hF2).f5 hF3).f5 hF4
            have hZ : houP T (tkE T p) (D, PP) = endH T (tkE T (tkE T (tkE T (tkE T (tkE T p))))) (tkE T (tkE T (tkE T (tkE T (tkE T (tkE T p)))))) (knW T (tkE T p)) v1 v2 v3 v4 (D, PP) := by simp only [hgo, pb_r hn1, pb_r hn2, pb_r hn3, pb_r hn4]
            rw [hZ]
            exact lp_X5_readHouse (hT3.fr hF4 (by decide)) hk4 hD4 hW hn6 hFF rfl ⟨by omega, hkn⟩ hv4 hb1.2 hb2.2 hb3 hb4
          · refine xw_if_ne (tgt := 81) dX5_readHouse_76 (by decide) (fun q9 => absurd q9 (by decide)) (fun _ => ?_)
            refine xw_iconst (v := 0) dX5_readHouse_79 (by decide) ?_
            refine xw_iretz dX5_readHouse_80 rfl (Or.inl rfl) ?_
            exact PQc.bad (by simp only [hgo, pb, hn1, hn2, hn3, hn4]) (((((FrP.rf 5 _).f5 hF0 (by decide)).f5 hF1 (by decide)).f5 hF2 (by decide)).f5 hF3 (by decide)) hf4
        · refine xw_if_ne (tgt := 64) dX5_readHouse_59 (by decide) (fun q9 => absurd q9 (by decide)) (fun _ => ?_)
          refine xw_iconst (v := 0) dX5_readHouse_62 (by decide) ?_
          refine xw_iretz dX5_readHouse_63 rfl (Or.inl rfl) ?_
          exact PQc.bad (by simp only [hgo, pb, hn1, hn2, hn3]) ((((FrP.rf 5 _).f5 hF0 (by decide)).f5 hF1 (by decide)).f5 hF2 (by decide)) hf3
      · refine xw_if_ne (tgt := 48) dX5_readHouse_43 (by decide) (fun q9 => absurd q9 (by decide)) (fun _ => ?_)
        refine xw_iconst (v := 0) dX5_readHouse_46 (by decide) ?_
        refine xw_iretz dX5_readHouse_47 rfl (Or.inl rfl) ?_
        exact PQc.bad (by simp only [hgo, pb, hn1, hn2]) (((FrP.rf 5 _).f5 hF0 (by decide)).f5 hF1 (by decide)) hf2
    · refine xw_if_ne (tgt := 31) dX5_readHouse_26 (by decide) (fun q9 => absurd q9 (by decide)) (fun _ => ?_)
      refine xw_iconst (v := 0) dX5_readHouse_29 (by decide) ?_
      refine xw_iretz dX5_readHouse_30 rfl (Or.inl rfl) ?_
      exact PQc.bad (by simp only [hgo, pb, hn1]) ((FrP.rf 5 _).f5 hF0 (by decide)) hf1
  · refine xw_aload_n dX5_readHouse_13 rfl ?_
    refine xw_iconst (v := 1) dX5_readHouse_14 (by decide) ?_
    refine xw_cV1E dX5_readHouse_15 okX5_failWith ml_X5_69 rfl rfl rfl rfl (s_X5_failWith) ?_
    refine xw_iretz dX5_readHouse_18 rfl (Or.inl rfl) ?_
    exact PQc.fail (n := 1) (houP_no (by omega)) ((FrP.rf 5 _).f5 hF0 (by decide)) hk0.1
end READH
