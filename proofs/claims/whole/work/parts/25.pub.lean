section PUB25
variable {g : XG} {l : Launch} {d : Nat} {M : XM}
set_option maxRecDepth 20000 in
theorem k_X8_ask_bad {n : Nat} {a w : Int32} (hN : M.1 54 3 = nI n) (hn6 : n ≤ 6) (h : ¬ ((0 ≤ a ∧ a < nI n) ∧ 0 ≤ w ∧ w ≤ 1)) : XC g l mX8_ask (d + 9) [xr 49, xi a, xi w] M (XE (some (xi (-1000001))) M) := by
  show XW g l mX8_ask _ 0 [some (xr 49), some (xi a), some (xi w)] [] M _
  refine xw_aload_n dX8_ask_0 rfl ?_
  refine xw_iload_n dX8_ask_1 rfl ?_
  refine xw_cV1B dX8_ask_2 okX8_isThere ml_X8_199 rfl rfl rfl rfl (s_X8_isThere hN hn6 _) (fun p2 => ?_) (fun p2 => ?_)
  · refine xw_if_eq (tgt := 17) dX8_ask_5 (by decide) (fun q9 => absurd q9 (by decide)) (fun _ => ?_)
    refine xw_iload_n dX8_ask_8 rfl ?_
    refine xw_iconst (v := 0) dX8_ask_9 (by decide) ?_
    refine xw_iconst (v := 1) dX8_ask_10 (by decide) ?_
    refine xw_cS3B dX8_ask_11 okX8_in ml_X8_56 rfl rfl (s_X8_in _ _ _) (fun p11 => ?_) (fun p11 => ?_)
    · exfalso; first | contradiction | omega | grind | simp_all
    · refine xw_if_ne (tgt := 20) dX8_ask_14 (by decide) (fun q9 => absurd q9 (by decide)) (fun _ => ?_)
      refine xw_ldc dX8_ask_17 kc_X8_64 ?_
      refine xw_ireti dX8_ask_19 rfl ?_
      first | exact ⟨rfl, rfl⟩ | exact ⟨by simp_all, rfl⟩ | grind [XE]
  · refine xw_if_eq (tgt := 17) dX8_ask_5 (by decide) (fun _ => ?_) (fun q9 => absurd q9 (by decide))
    refine xw_ldc dX8_ask_17 kc_X8_64 ?_
    refine xw_ireti dX8_ask_19 rfl ?_
    first | exact ⟨rfl, rfl⟩ | exact ⟨by simp_all, rfl⟩ | grind [XE]
set_option maxRecDepth 20000 in
theorem k_X8_ask_1 {D : FD} {P h : Nat} (hC : FMS M 54 D) (hX : XMP M 54 P) (hh : h < dn D) (hk : 1 ≤ dK D h) : XC g l mX8_ask (d + 9) [xr 49, xi (nI h), xi (nI 1)] M (XE (some (xi (markV D P h))) (wrM (xup M 49 20 0) 0 (markT (dK D h)))) := by
  have hC2 : FMS (xup M 49 20 0) 54 D := hC.keep2 (fun b _ _ => xup_cell _ _ (by decide))
  have hX2 : XMP (xup M 49 20 0) 54 P := fun k hk => (xup_cell _ _ (by decide)).trans (hX k hk)
  have hC0 := hC
  obtain ⟨hn6, ⟨hT, hT2⟩, ⟨hB, hB2⟩, hN, hcl, hK, hY, hW, hH, hG⟩ := hC
  have e0 : 0 ≤ nI h ∧ nI h < nI (dn D) := nI_in0 (by omega) hh
  show XW g l mX8_ask _ 0 [some (xr 49), some (xi (nI h)), some (xi (nI 1))] [] M _
  refine xw_aload_n dX8_ask_0 rfl ?_
  refine xw_iload_n dX8_ask_1 rfl ?_
  refine xw_cV1B dX8_ask_2 okX8_isThere ml_X8_199 rfl rfl rfl rfl (s_X8_isThere hN hn6 _) (fun p2 => ?_) (fun p2 => ?_)
  · refine xw_if_eq (tgt := 17) dX8_ask_5 (by decide) (fun q9 => absurd q9 (by decide)) (fun _ => ?_)
    refine xw_iload_n dX8_ask_8 rfl ?_
    refine xw_iconst (v := 0) dX8_ask_9 (by decide) ?_
    refine xw_iconst (v := 1) dX8_ask_10 (by decide) ?_
    refine xw_cS3B dX8_ask_11 okX8_in ml_X8_56 rfl rfl (s_X8_in _ _ _) (fun p11 => ?_) (fun p11 => ?_)
    · refine xw_if_ne (tgt := 20) dX8_ask_14 (by decide) (fun _ => ?_) (fun q9 => absurd q9 (by decide))
      refine xw_aload_n dX8_ask_20 rfl ?_
      refine xw_iconst (v := 0) dX8_ask_21 (by decide) ?_
      refine xw_putI dX8_ask_22 fp_X8_252 rfl rfl ?_
      refine xw_iload_n dX8_ask_25 rfl ?_
      refine xw_iconst (v := 1) dX8_ask_26 (by decide) ?_
      refine xw_icmp_ne (tgt := 36) dX8_ask_27 (by decide) (fun q9 => absurd q9 (by decide)) (fun _ => ?_)
      refine xw_aload_n dX8_ask_30 rfl ?_
      refine xw_iload_n dX8_ask_31 rfl ?_
      refine xw_cV1E dX8_ask_32 okX8_markOf ml_X8_262 rfl rfl rfl rfl (r_mark (n := 0) hC2 hX2 hh (xup_same _ _ _ _) (by omega) hk) ?_
      refine xw_ireti dX8_ask_35 rfl ?_
      first | exact ⟨rfl, rfl⟩ | exact ⟨by simp_all, rfl⟩ | grind [XE]
    · exfalso; first | contradiction | exact p11 (by decide)
  · exfalso; first | contradiction | exact p11 (by decide)
set_option maxRecDepth 20000 in
theorem k_X8_ask_0 {D : FD} {P h : Nat} (hC : FMS M 54 D) (hX : XMP M 54 P) (hh : h < dn D) (hk : 1 ≤ dK D h) : XC g l mX8_ask (d + 9) [xr 49, xi (nI h), xi (nI 0)] M (XE (some (xi (sizeV D P h))) (wrM (xup M 49 20 0) 0 (sizeT (dK D h)))) := by
  have hC2 : FMS (xup M 49 20 0) 54 D := hC.keep2 (fun b _ _ => xup_cell _ _ (by decide))
  have hX2 : XMP (xup M 49 20 0) 54 P := fun k hk => (xup_cell _ _ (by decide)).trans (hX k hk)
  have hC0 := hC
  obtain ⟨hn6, ⟨hT, hT2⟩, ⟨hB, hB2⟩, hN, hcl, hK, hY, hW, hH, hG⟩ := hC
  have e0 : 0 ≤ nI h ∧ nI h < nI (dn D) := nI_in0 (by omega) hh
  have hg5 := (hG h hh).1
  show XW g l mX8_ask _ 0 [some (xr 49), some (xi (nI h)), some (xi (nI 0))] [] M _
  refine xw_aload_n dX8_ask_0 rfl ?_
  refine xw_iload_n dX8_ask_1 rfl ?_
  refine xw_cV1B dX8_ask_2 okX8_isThere ml_X8_199 rfl rfl rfl rfl (s_X8_isThere hN hn6 _) (fun p2 => ?_) (fun p2 => ?_)
  · refine xw_if_eq (tgt := 17) dX8_ask_5 (by decide) (fun q9 => absurd q9 (by decide)) (fun _ => ?_)
    refine xw_iload_n dX8_ask_8 rfl ?_
    refine xw_iconst (v := 0) dX8_ask_9 (by decide) ?_
    refine xw_iconst (v := 1) dX8_ask_10 (by decide) ?_
    refine xw_cS3B dX8_ask_11 okX8_in ml_X8_56 rfl rfl (s_X8_in _ _ _) (fun p11 => ?_) (fun p11 => ?_)
    · refine xw_if_ne (tgt := 20) dX8_ask_14 (by decide) (fun _ => ?_) (fun q9 => absurd q9 (by decide))
      refine xw_aload_n dX8_ask_20 rfl ?_
      refine xw_iconst (v := 0) dX8_ask_21 (by decide) ?_
      refine xw_putI dX8_ask_22 fp_X8_252 rfl rfl ?_
      refine xw_iload_n dX8_ask_25 rfl ?_
      refine xw_iconst (v := 1) dX8_ask_26 (by decide) ?_
      refine xw_icmp_ne (tgt := 36) dX8_ask_27 (by decide) (fun _ => ?_) (fun q9 => absurd q9 (by decide))
      refine xw_aload_n dX8_ask_36 rfl ?_
      refine xw_getR dX8_ask_37 fl_X8_22 rfl rfl ?_
      refine xw_iconst (v := 4) dX8_ask_40 (by decide) ?_
      refine xw_iload_n dX8_ask_41 rfl ?_
      refine xw_iaddN (a := 4) dX8_ask_42 ?_
      refine xw_ialN _ dX8_ask_43 rfl (rfl) (show _ = nI (dK D h) by rw [xup_cell _ _ (by decide)]; exact hK h hh) rfl ?_ ?_
      · omega
      refine xw_iconst (v := 1) dX8_ask_44 (by decide) ?_
      refine xw_icmp_neN (b := 1) (tgt := 56) dX8_ask_45 (by decide) (by omega) (fun c45 => ?_) (fun c45 => ?_)
      · refine xw_aload_n dX8_ask_56 rfl ?_
        refine xw_iload_n dX8_ask_57 rfl ?_
        refine xw_cV1E dX8_ask_58 okX8_sizeOfOther ml_X8_292 rfl rfl rfl rfl (r_other (n := 0) hC2 hX2 hh (xup_same _ _ _ _) (by omega) (by omega)) ?_
        refine xw_ireti dX8_ask_61 rfl ?_
        first | exact ⟨rfl, rfl⟩ | exact ⟨by unfold sizeV; rw [if_pos c45], by unfold sizeT; rw [if_pos c45]⟩
      · refine xw_aload_n dX8_ask_48 rfl ?_
        refine xw_iload_n dX8_ask_49 rfl ?_
        refine xw_cV1E dX8_ask_50 okX8_body13 ml_X8_280 rfl rfl rfl rfl (r_body13 (n := 0) hC2 hX2 hh (xup_same _ _ _ _) (by omega)) ?_
        refine xw_goto (tgt := 61) dX8_ask_53 (by decide) ?_
        refine xw_ireti dX8_ask_61 rfl ?_
        first | exact ⟨rfl, rfl⟩ | exact ⟨by unfold sizeV; rw [if_pos c45], by unfold sizeT; rw [if_pos c45]⟩
    · exfalso; first | contradiction | exact p11 (by decide)
  · exfalso; first | contradiction | exact p11 (by decide)
noncomputable def bI (p : Prop) : Int32 := if decP p then 1 else 0
theorem bI_t {p : Prop} (h : p) : bI p = 1 := by unfold bI; rw [if_pos (decP_t h)]
theorem bI_f {p : Prop} (h : ¬ p) : bI p = 0 := by unfold bI; rw [decP_f h]; rfl
set_option maxRecDepth 20000 in
theorem k_X7_house_bad1 {a w : Int32} (h : ¬ (0 ≤ a ∧ a < M.1 8 2)) : XC g l mX7_house (d + 4) [xr 0, xi a, xi w] M (XE (some (xi (-1000001))) M) := by
  show XW g l mX7_house _ 0 [some (xr 0), some (xi a), some (xi w)] [] M _
  refine xw_aload_n dX7_house_0 rfl ?_
  refine xw_getR dX7_house_1 fl_X7_26 rfl rfl ?_
  refine xw_iload_n dX7_house_4 rfl ?_
  refine xw_cV1B dX7_house_5 okX1_isHouse ml_X7_133 rfl rfl rfl rfl (s_X1_isHouse xf_8 _) (fun p5 => ?_) (fun p5 => ?_)
  · exfalso; first | contradiction | omega | grind | simp_all
  · refine xw_if_ne (tgt := 14) dX7_house_8 (by decide) (fun q9 => absurd q9 (by decide)) (fun _ => ?_)
    refine xw_ldc dX7_house_11 kc_X7_66 ?_
    refine xw_ireti dX7_house_13 rfl ?_
    first | exact ⟨rfl, rfl⟩ | exact ⟨by simp_all, rfl⟩ | grind [XE]
set_option maxRecDepth 20000 in
theorem k_X7_house_bad2 {a w : Int32} (h : 0 ≤ a ∧ a < M.1 8 2) (hw : w.toInt < 0 ∨ 8 < w.toInt) : XC g l mX7_house (d + 4) [xr 0, xi a, xi w] M (XE (some (xi (-1000001))) M) := by
  show XW g l mX7_house _ 0 [some (xr 0), some (xi a), some (xi w)] [] M _
  refine xw_aload_n dX7_house_0 rfl ?_
  refine xw_getR dX7_house_1 fl_X7_26 rfl rfl ?_
  refine xw_iload_n dX7_house_4 rfl ?_
  refine xw_cV1B dX7_house_5 okX1_isHouse ml_X7_133 rfl rfl rfl rfl (s_X1_isHouse xf_8 _) (fun p5 => ?_) (fun p5 => ?_)
  · refine xw_if_ne (tgt := 14) dX7_house_8 (by decide) (fun _ => ?_) (fun q9 => absurd q9 (by decide))
    refine xw_iload_n dX7_house_14 rfl ?_
    refine xw_tabOut (tgt := 187) dX7_house_15 (hw) (by decide) ?_
    refine xw_ldc dX7_house_187 kc_X7_66 ?_
    refine xw_ireti dX7_house_189 rfl ?_
    first | exact ⟨rfl, rfl⟩ | exact ⟨by simp_all, rfl⟩ | grind [XE]
  · exfalso; first | contradiction | omega | grind | simp_all
set_option maxRecDepth 20000 in
theorem k_X8_house_bad {n : Nat} {a w : Int32} (hN : M.1 54 3 = nI n) (hn6 : n ≤ 6) (h : ¬ ((0 ≤ a ∧ a < nI n) ∧ 0 ≤ w ∧ w ≤ 8)) : XC g l mX8_house (d + 3) [xr 49, xi a, xi w] M (XE (some (xi (-1000001))) M) := by
  show XW g l mX8_house _ 0 [some (xr 49), some (xi a), some (xi w)] [] M _
  refine xw_aload_n dX8_house_0 rfl ?_
  refine xw_iload_n dX8_house_1 rfl ?_
  refine xw_cV1B dX8_house_2 okX8_isThere ml_X8_199 rfl rfl rfl rfl (s_X8_isThere hN hn6 _) (fun p2 => ?_) (fun p2 => ?_)
  · refine xw_if_eq (tgt := 18) dX8_house_5 (by decide) (fun q9 => absurd q9 (by decide)) (fun _ => ?_)
    refine xw_iload_n dX8_house_8 rfl ?_
    refine xw_iconst (v := 0) dX8_house_9 (by decide) ?_
    refine xw_bipush (v := 8) dX8_house_10 (by decide) ?_
    refine xw_cS3B dX8_house_12 okX8_in ml_X8_56 rfl rfl (s_X8_in _ _ _) (fun p12 => ?_) (fun p12 => ?_)
    · exfalso; first | contradiction | omega | grind | simp_all
    · refine xw_if_ne (tgt := 21) dX8_house_15 (by decide) (fun q9 => absurd q9 (by decide)) (fun _ => ?_)
      refine xw_ldc dX8_house_18 kc_X8_64 ?_
      refine xw_ireti dX8_house_20 rfl ?_
      first | exact ⟨rfl, rfl⟩ | exact ⟨by simp_all, rfl⟩ | grind [XE]
  · refine xw_if_eq (tgt := 18) dX8_house_5 (by decide) (fun _ => ?_) (fun q9 => absurd q9 (by decide))
    refine xw_ldc dX8_house_18 kc_X8_64 ?_
    refine xw_ireti dX8_house_20 rfl ?_
    first | exact ⟨rfl, rfl⟩ | exact ⟨by simp_all, rfl⟩ | grind [XE]
set_option maxRecDepth 20000 in
theorem s_X8_isOpen {D : FD} {P h : Nat} (hC : FMS M 54 D) (hX : XMP M 54 P) (hh : h < dn D)  : XC g l mX8_isOpen (d + 2) [xr 49, xi (nI h)] M (XB (openH D P h) M M) := by
  have hC0 := hC
  obtain ⟨hn6, ⟨hT, hT2⟩, ⟨hB, hB2⟩, hN, hcl, hK, hY, hW, hH, hG⟩ := hC
  have e0 : 0 ≤ nI h ∧ nI h < nI (dn D) := nI_in0 (by omega) hh
  have hg := hG h hh
  have hx := px_lt P h
  have e2 := hW2_none (D := D) (P := P) (x := nI (px P h)) (y := dY D h + dH D h) hn6
  have hm1 := Nat.mod_lt (dwl D (dY D h + dH D h) / 2 ^ (px P h)) (show 2 > 0 by decide)
  have hm2 := Nat.mod_lt (dpt D (dY D h + dH D h) / 2 ^ (px P h)) (show 2 > 0 by decide)
  show XW g l mX8_isOpen _ 0 [some (xr 49), some (xi (nI h)), none, none] [] M _
  refine xw_aload_n dX8_isOpen_0 rfl ?_
  refine xw_getR dX8_isOpen_1 fl_X8_22 rfl rfl ?_
  refine xw_bipush (v := 10) dX8_isOpen_4 (by decide) ?_
  refine xw_iload_n dX8_isOpen_6 rfl ?_
  refine xw_iaddN (a := 10) dX8_isOpen_7 ?_
  refine xw_ialN _ dX8_isOpen_8 rfl (rfl) (hX _ (by omega)) rfl ?_ ?_
  · omega
  refine xw_istore_n dX8_isOpen_9 rfl rfl ?_
  refine xw_aload_n dX8_isOpen_10 rfl ?_
  refine xw_getR dX8_isOpen_11 fl_X8_22 rfl rfl ?_
  refine xw_bipush (v := 16) dX8_isOpen_14 (by decide) ?_
  refine xw_iload_n dX8_isOpen_16 rfl ?_
  refine xw_iaddN (a := 16) dX8_isOpen_17 ?_
  refine xw_ialN _ dX8_isOpen_18 rfl (rfl) (hY _ (by omega)) rfl ?_ ?_
  · omega
  refine xw_aload_n dX8_isOpen_19 rfl ?_
  refine xw_getR dX8_isOpen_20 fl_X8_22 rfl rfl ?_
  refine xw_bipush (v := 28) dX8_isOpen_23 (by decide) ?_
  refine xw_iload_n dX8_isOpen_25 rfl ?_
  refine xw_iaddN (a := 28) dX8_isOpen_26 ?_
  refine xw_ialN _ dX8_isOpen_27 rfl (rfl) (hH _ (by omega)) rfl ?_ ?_
  · omega
  refine xw_iaddN dX8_isOpen_28 ?_
  refine xw_istore_n dX8_isOpen_29 rfl rfl ?_
  refine xw_iload_n dX8_isOpen_30 rfl ?_
  refine xw_bipush (v := 8) dX8_isOpen_31 (by decide) ?_
  refine xw_icmp_geN (b := 8) (tgt := 72) dX8_isOpen_33 (by decide) (by omega) (fun c33 => ?_) (fun c33 => ?_)
  · refine xw_iconst (v := 0) dX8_isOpen_72 (by decide) ?_
    refine xw_iretz dX8_isOpen_73 rfl (Or.inl rfl) (Or.inr ⟨?_, rfl, rfl⟩)
    first
    | exact fun z => absurd z.1 (by omega)
    | (rintro ⟨z1, z2, z3, z4⟩; unfold pathAt at z2; unfold wallAt at z3; omega)
    | exact fun z => c65 (e2.mpr z.2.2.2)
    | exact ⟨by omega, (by unfold pathAt; omega), (by unfold wallAt; omega), e2.mp (by assumption)⟩
  · refine xw_aload_n dX8_isOpen_36 rfl ?_
    refine xw_getR dX8_isOpen_37 fl_X8_22 rfl rfl ?_
    refine xw_bipush (v := 40) dX8_isOpen_40 (by decide) ?_
    refine xw_iload_n dX8_isOpen_42 rfl ?_
    refine xw_iaddN (a := 40) dX8_isOpen_43 ?_
    refine xw_bipush (v := 16) dX8_isOpen_44 (by decide) ?_
    refine xw_iload_n dX8_isOpen_46 rfl ?_
    refine xw_imulN (a := 16) dX8_isOpen_47 ?_
    refine xw_iaddN dX8_isOpen_48 ?_
    refine xw_ialN _ dX8_isOpen_49 rfl (rfl) (hcl _ _ (by omega) (by omega)) rfl ?_ ?_
    · omega
    refine xw_iconst (v := 2) dX8_isOpen_50 (by decide) ?_
    refine xw_icmp_neN (b := 2) (tgt := 72) dX8_isOpen_51 (by decide) (by omega) (fun c51 => ?_) (fun c51 => ?_)
    · refine xw_iconst (v := 0) dX8_isOpen_72 (by decide) ?_
      refine xw_iretz dX8_isOpen_73 rfl (Or.inl rfl) (Or.inr ⟨?_, rfl, rfl⟩)
      first
      | exact fun z => absurd z.1 (by omega)
      | (rintro ⟨z1, z2, z3, z4⟩; unfold pathAt at z2; unfold wallAt at z3; omega)
      | exact fun z => c65 (e2.mpr z.2.2.2)
      | exact ⟨by omega, (by unfold pathAt; omega), (by unfold wallAt; omega), e2.mp (by assumption)⟩
    · refine xw_aload_n dX8_isOpen_54 rfl ?_
      refine xw_getR dX8_isOpen_55 fl_X8_22 rfl rfl ?_
      refine xw_iload_n dX8_isOpen_58 rfl ?_
      refine xw_iload_n dX8_isOpen_59 rfl ?_
      refine xw_cS3E dX8_isOpen_60 okX8_houseAt ml_X8_148 rfl rfl (s_X8_houseAt rfl hC0 hX (by omega)) ?_
      refine xw_ldc dX8_isOpen_63 kc_X8_50 ?_
      refine xw_icmp_ne (tgt := 72) dX8_isOpen_65 (by decide) (fun c65 => ?_) (fun c65 => ?_)
      · refine xw_iconst (v := 0) dX8_isOpen_72 (by decide) ?_
        refine xw_iretz dX8_isOpen_73 rfl (Or.inl rfl) (Or.inr ⟨?_, rfl, rfl⟩)
        first
        | exact fun z => absurd z.1 (by omega)
        | (rintro ⟨z1, z2, z3, z4⟩; unfold pathAt at z2; unfold wallAt at z3; omega)
        | exact fun z => c65 (e2.mpr z.2.2.2)
        | exact ⟨by omega, (by unfold pathAt; omega), (by unfold wallAt; omega), e2.mp (by assumption)⟩
      · refine xw_iconst (v := 1) dX8_isOpen_68 (by decide) ?_
        refine xw_goto (tgt := 73) dX8_isOpen_69 (by decide) ?_
        refine xw_iretz dX8_isOpen_73 rfl (Or.inr rfl) (Or.inl ⟨?_, rfl, rfl⟩)
        first
        | exact fun z => absurd z.1 (by omega)
        | (rintro ⟨z1, z2, z3, z4⟩; unfold pathAt at z2; unfold wallAt at z3; omega)
        | exact fun z => c65 (e2.mpr z.2.2.2)
        | exact ⟨by omega, (by unfold pathAt; omega), (by unfold wallAt; omega), e2.mp (by assumption)⟩
set_option maxRecDepth 20000 in
theorem lp_X8_isBoxed {D : FD} {P h : Nat} (hC : FMS M 54 D) (hX : XMP M 54 P) (hh : h < dn D)  : ∀ (q k : Nat) (v : Int32), k + q = dY D h + dH D h → dY D h ≤ k → ((v = 1 ∧ ∀ y, dY D h ≤ y → y < k → hAt D P (nI (px P h) - 1) y < dn D ∧ hAt D P (nI (px P h + dW D h)) y < dn D) ∨ (v = 0 ∧ ¬ (∀ y, dY D h ≤ y → y < k → hAt D P (nI (px P h) - 1) y < dn D ∧ hAt D P (nI (px P h + dW D h)) y < dn D))) → XW g l mX8_isBoxed (d + 2) 12 [some (xr 49), some (xi (nI h)), some (xi v), some (xi (nI k))] [] M (XB (boxedH D P h) M M) := by
  have hC0 := hC
  obtain ⟨hn6, ⟨hT, hT2⟩, ⟨hB, hB2⟩, hN, hcl, hK, hY, hW, hH, hG⟩ := hC
  have e0 : 0 ≤ nI h ∧ nI h < nI (dn D) := nI_in0 (by omega) hh
  have hg := hG h hh
  have hx := px_lt P h
  intro q
  induction q with
  | zero =>
    intro k v hk hk2 h0
    have hk : k = dY D h + dH D h := by omega
    subst hk
    refine xw_iload_n dX8_isBoxed_12 rfl ?_
    refine xw_aload_n dX8_isBoxed_13 rfl ?_
    refine xw_getR dX8_isBoxed_14 fl_X8_22 rfl rfl ?_
    refine xw_bipush (v := 16) dX8_isBoxed_17 (by decide) ?_
    refine xw_iload_n dX8_isBoxed_19 rfl ?_
    refine xw_iaddN (a := 16) dX8_isBoxed_20 ?_
    refine xw_ialN _ dX8_isBoxed_21 rfl (rfl) (hY _ (by omega)) rfl ?_ ?_
    · omega
    refine xw_aload_n dX8_isBoxed_22 rfl ?_
    refine xw_getR dX8_isBoxed_23 fl_X8_22 rfl rfl ?_
    refine xw_bipush (v := 28) dX8_isBoxed_26 (by decide) ?_
    refine xw_iload_n dX8_isBoxed_28 rfl ?_
    refine xw_iaddN (a := 28) dX8_isBoxed_29 ?_
    refine xw_ialN _ dX8_isBoxed_30 rfl (rfl) (hH _ (by omega)) rfl ?_ ?_
    · omega
    refine xw_iaddN dX8_isBoxed_31 ?_
    refine xw_icmp_geN (tgt := 107) dX8_isBoxed_32 (by decide) (by omega) (fun c32 => ?_) (fun c32 => ?_)
    · refine xw_iload_n dX8_isBoxed_107 rfl ?_
      refine xw_iretz dX8_isBoxed_108 rfl ?_ ?_
      · rcases h0 with z | z
        · exact Or.inr z.1
        · exact Or.inl z.1
      · rcases h0 with ⟨rfl, z⟩ | ⟨rfl, z⟩
        · exact Or.inl ⟨z, rfl, rfl⟩
        · exact Or.inr ⟨z, rfl, rfl⟩
    · exfalso; omega
  | succ q ih =>
    intro k v hk hk2 h0
    have w1 := hW2_none (D := D) (P := P) (x := nI (px P h) - 1) (y := k) hn6
    have w2 := hW2_none (D := D) (P := P) (x := nI (px P h + dW D h)) (y := k) hn6
    rcases h0 with ⟨rfl, h0⟩ | ⟨rfl, h0⟩
    · refine xw_iload_n dX8_isBoxed_12 rfl ?_
      refine xw_aload_n dX8_isBoxed_13 rfl ?_
      refine xw_getR dX8_isBoxed_14 fl_X8_22 rfl rfl ?_
      refine xw_bipush (v := 16) dX8_isBoxed_17 (by decide) ?_
      refine xw_iload_n dX8_isBoxed_19 rfl ?_
      refine xw_iaddN (a := 16) dX8_isBoxed_20 ?_
      refine xw_ialN _ dX8_isBoxed_21 rfl (rfl) (hY _ (by omega)) rfl ?_ ?_
      · omega
      refine xw_aload_n dX8_isBoxed_22 rfl ?_
      refine xw_getR dX8_isBoxed_23 fl_X8_22 rfl rfl ?_
      refine xw_bipush (v := 28) dX8_isBoxed_26 (by decide) ?_
      refine xw_iload_n dX8_isBoxed_28 rfl ?_
      refine xw_iaddN (a := 28) dX8_isBoxed_29 ?_
      refine xw_ialN _ dX8_isBoxed_30 rfl (rfl) (hH _ (by omega)) rfl ?_ ?_
      · omega
      refine xw_iaddN dX8_isBoxed_31 ?_
      refine xw_icmp_geN (tgt := 107) dX8_isBoxed_32 (by decide) (by omega) (fun c32 => ?_) (fun c32 => ?_)
      · exfalso; omega
      · refine xw_iload_n dX8_isBoxed_35 rfl ?_
        refine xw_if_eq (tgt := 99) dX8_isBoxed_36 (by decide) (fun q9 => absurd q9 (by decide)) (fun _ => ?_)
        refine xw_aload_n dX8_isBoxed_39 rfl ?_
        refine xw_getR dX8_isBoxed_40 fl_X8_22 rfl rfl ?_
        refine xw_aload_n dX8_isBoxed_43 rfl ?_
        refine xw_getR dX8_isBoxed_44 fl_X8_22 rfl rfl ?_
        refine xw_bipush (v := 10) dX8_isBoxed_47 (by decide) ?_
        refine xw_iload_n dX8_isBoxed_49 rfl ?_
        refine xw_iaddN (a := 10) dX8_isBoxed_50 ?_
        refine xw_ialN _ dX8_isBoxed_51 rfl (rfl) (hX _ (by omega)) rfl ?_ ?_
        · omega
        refine xw_iconst (v := 1) dX8_isBoxed_52 (by decide) ?_
        refine xw_isub dX8_isBoxed_53 ?_
        refine xw_iload_n dX8_isBoxed_54 rfl ?_
        refine xw_cS3E dX8_isBoxed_55 okX8_houseAt ml_X8_148 rfl rfl (s_X8_houseAt rfl hC0 hX (by omega)) ?_
        refine xw_ldc dX8_isBoxed_58 kc_X8_50 ?_
        refine xw_icmp_eq (tgt := 99) dX8_isBoxed_60 (by decide) (fun c60 => ?_) (fun c60 => ?_)
        · refine xw_iconst (v := 0) dX8_isBoxed_99 (by decide) ?_
          refine xw_istore_n dX8_isBoxed_100 rfl rfl ?_
          refine xw_iincN (v := 1) dX8_isBoxed_101 (by decide) rfl rfl rfl ?_
          refine xw_goto (tgt := 12) dX8_isBoxed_104 (by decide) ?_
          first
          | (refine ih (k + 1) 1 (by omega) (by omega) (Or.inl ⟨rfl, fun y h1 h2 => ?_⟩)
             rcases Nat.lt_or_ge y k with z | z
             · exact h0 y h1 z
             · have z : y = k := by omega
               subst z
               exact ⟨Classical.byContradiction fun w => c60 (w1.mpr w), Classical.byContradiction fun w => c92 (w2.mpr w)⟩)
          | exact ih (k + 1) 0 (by omega) (by omega) (Or.inr ⟨rfl, fun z => (w1.mp c60) (z k hk2 (by omega)).1⟩)
          | exact ih (k + 1) 0 (by omega) (by omega) (Or.inr ⟨rfl, fun z => (w2.mp c92) (z k hk2 (by omega)).2⟩)
        · refine xw_aload_n dX8_isBoxed_63 rfl ?_
          refine xw_getR dX8_isBoxed_64 fl_X8_22 rfl rfl ?_
          refine xw_aload_n dX8_isBoxed_67 rfl ?_
          refine xw_getR dX8_isBoxed_68 fl_X8_22 rfl rfl ?_
          refine xw_bipush (v := 10) dX8_isBoxed_71 (by decide) ?_
          refine xw_iload_n dX8_isBoxed_73 rfl ?_
          refine xw_iaddN (a := 10) dX8_isBoxed_74 ?_
          refine xw_ialN _ dX8_isBoxed_75 rfl (rfl) (hX _ (by omega)) rfl ?_ ?_
          · omega
          refine xw_aload_n dX8_isBoxed_76 rfl ?_
          refine xw_getR dX8_isBoxed_77 fl_X8_22 rfl rfl ?_
          refine xw_bipush (v := 22) dX8_isBoxed_80 (by decide) ?_
          refine xw_iload_n dX8_isBoxed_82 rfl ?_
          refine xw_iaddN (a := 22) dX8_isBoxed_83 ?_
          refine xw_ialN _ dX8_isBoxed_84 rfl (rfl) (hW _ (by omega)) rfl ?_ ?_
          · omega
          refine xw_iaddN dX8_isBoxed_85 ?_
          refine xw_iload_n dX8_isBoxed_86 rfl ?_
          refine xw_cS3E dX8_isBoxed_87 okX8_houseAt ml_X8_148 rfl rfl (s_X8_houseAt rfl hC0 hX (by omega)) ?_
          refine xw_ldc dX8_isBoxed_90 kc_X8_50 ?_
          refine xw_icmp_eq (tgt := 99) dX8_isBoxed_92 (by decide) (fun c92 => ?_) (fun c92 => ?_)
          · refine xw_iconst (v := 0) dX8_isBoxed_99 (by decide) ?_
            refine xw_istore_n dX8_isBoxed_100 rfl rfl ?_
            refine xw_iincN (v := 1) dX8_isBoxed_101 (by decide) rfl rfl rfl ?_
            refine xw_goto (tgt := 12) dX8_isBoxed_104 (by decide) ?_
            first
            | (refine ih (k + 1) 1 (by omega) (by omega) (Or.inl ⟨rfl, fun y h1 h2 => ?_⟩)
               rcases Nat.lt_or_ge y k with z | z
               · exact h0 y h1 z
               · have z : y = k := by omega
                 subst z
                 exact ⟨Classical.byContradiction fun w => c60 (w1.mpr w), Classical.byContradiction fun w => c92 (w2.mpr w)⟩)
            | exact ih (k + 1) 0 (by omega) (by omega) (Or.inr ⟨rfl, fun z => (w1.mp c60) (z k hk2 (by omega)).1⟩)
            | exact ih (k + 1) 0 (by omega) (by omega) (Or.inr ⟨rfl, fun z => (w2.mp c92) (z k hk2 (by omega)).2⟩)
          · refine xw_iconst (v := 1) dX8_isBoxed_95 (by decide) ?_
            refine xw_goto (tgt := 100) dX8_isBoxed_96 (by decide) ?_
            refine xw_istore_n dX8_isBoxed_100 rfl rfl ?_
            refine xw_iincN (v := 1) dX8_isBoxed_101 (by decide) rfl rfl rfl ?_
            refine xw_goto (tgt := 12) dX8_isBoxed_104 (by decide) ?_
            first
            | (refine ih (k + 1) 1 (by omega) (by omega) (Or.inl ⟨rfl, fun y h1 h2 => ?_⟩)
               rcases Nat.lt_or_ge y k with z | z
               · exact h0 y h1 z
               · have z : y = k := by omega
                 subst z
                 exact ⟨Classical.byContradiction fun w => c60 (w1.mpr w), Classical.byContradiction fun w => c92 (w2.mpr w)⟩)
            | exact ih (k + 1) 0 (by omega) (by omega) (Or.inr ⟨rfl, fun z => (w1.mp c60) (z k hk2 (by omega)).1⟩)
            | exact ih (k + 1) 0 (by omega) (by omega) (Or.inr ⟨rfl, fun z => (w2.mp c92) (z k hk2 (by omega)).2⟩)
    · refine xw_iload_n dX8_isBoxed_12 rfl ?_
      refine xw_aload_n dX8_isBoxed_13 rfl ?_
      refine xw_getR dX8_isBoxed_14 fl_X8_22 rfl rfl ?_
      refine xw_bipush (v := 16) dX8_isBoxed_17 (by decide) ?_
      refine xw_iload_n dX8_isBoxed_19 rfl ?_
      refine xw_iaddN (a := 16) dX8_isBoxed_20 ?_
      refine xw_ialN _ dX8_isBoxed_21 rfl (rfl) (hY _ (by omega)) rfl ?_ ?_
      · omega
      refine xw_aload_n dX8_isBoxed_22 rfl ?_
      refine xw_getR dX8_isBoxed_23 fl_X8_22 rfl rfl ?_
      refine xw_bipush (v := 28) dX8_isBoxed_26 (by decide) ?_
      refine xw_iload_n dX8_isBoxed_28 rfl ?_
      refine xw_iaddN (a := 28) dX8_isBoxed_29 ?_
      refine xw_ialN _ dX8_isBoxed_30 rfl (rfl) (hH _ (by omega)) rfl ?_ ?_
      · omega
      refine xw_iaddN dX8_isBoxed_31 ?_
      refine xw_icmp_geN (tgt := 107) dX8_isBoxed_32 (by decide) (by omega) (fun c32 => ?_) (fun c32 => ?_)
      · exfalso; omega
      · refine xw_iload_n dX8_isBoxed_35 rfl ?_
        refine xw_if_eq (tgt := 99) dX8_isBoxed_36 (by decide) (fun _ => ?_) (fun q9 => absurd q9 (by decide))
        refine xw_iconst (v := 0) dX8_isBoxed_99 (by decide) ?_
        refine xw_istore_n dX8_isBoxed_100 rfl rfl ?_
        refine xw_iincN (v := 1) dX8_isBoxed_101 (by decide) rfl rfl rfl ?_
        refine xw_goto (tgt := 12) dX8_isBoxed_104 (by decide) ?_
        exact ih (k + 1) 0 (by omega) (by omega) (Or.inr ⟨rfl, fun z => h0 (fun y h1 h2 => z y h1 (by omega))⟩)
set_option maxRecDepth 20000 in
theorem s_X8_isBoxed {D : FD} {P h : Nat} (hC : FMS M 54 D) (hX : XMP M 54 P) (hh : h < dn D)  : XC g l mX8_isBoxed (d + 2) [xr 49, xi (nI h)] M (XB (boxedH D P h) M M) := by
  have hC0 := hC
  obtain ⟨hn6, ⟨hT, hT2⟩, ⟨hB, hB2⟩, hN, hcl, hK, hY, hW, hH, hG⟩ := hC
  have e0 : 0 ≤ nI h ∧ nI h < nI (dn D) := nI_in0 (by omega) hh
  have hg := hG h hh
  have hx := px_lt P h
  show XW g l mX8_isBoxed _ 0 [some (xr 49), some (xi (nI h)), none, none] [] M _
  refine xw_iconst (v := 1) dX8_isBoxed_0 (by decide) ?_
  refine xw_istore_n dX8_isBoxed_1 rfl rfl ?_
  refine xw_aload_n dX8_isBoxed_2 rfl ?_
  refine xw_getR dX8_isBoxed_3 fl_X8_22 rfl rfl ?_
  refine xw_bipush (v := 16) dX8_isBoxed_6 (by decide) ?_
  refine xw_iload_n dX8_isBoxed_8 rfl ?_
  refine xw_iaddN (a := 16) dX8_isBoxed_9 ?_
  refine xw_ialN _ dX8_isBoxed_10 rfl (rfl) (hY _ (by omega)) rfl ?_ ?_
  · omega
  refine xw_istore_n dX8_isBoxed_11 rfl rfl ?_
  exact lp_X8_isBoxed hC0 hX hh (dH D h) (dY D h) 1 rfl (Nat.le_refl _) (Or.inl ⟨rfl, fun y h1 h2 => absurd h2 (by omega)⟩)
set_option maxRecDepth 20000 in
theorem s_X8_rentOf {D : FD} {P h : Nat} (hC : FMS M 54 D) (hX : XMP M 54 P) (hh : h < dn D)  : XC g l mX8_rentOf (d + 1) [xr 49, xi (nI h)] M (XE (some (xi (nI (rentN D P h)))) M) := by
  have hC0 := hC
  obtain ⟨hn6, ⟨hT, hT2⟩, ⟨hB, hB2⟩, hN, hcl, hK, hY, hW, hH, hG⟩ := hC
  have e0 : 0 ≤ nI h ∧ nI h < nI (dn D) := nI_in0 (by omega) hh
  have hg := hG h hh
  have hx := px_lt P h
  show XW g l mX8_rentOf _ 0 [some (xr 49), some (xi (nI h))] [] M _
  refine xw_aload_n dX8_rentOf_0 rfl ?_
  refine xw_iload_n dX8_rentOf_1 rfl ?_
  refine xw_cV1B dX8_rentOf_2 okX8_isDrowned ml_X8_202 rfl rfl rfl rfl (s_X8_isDrowned hC0 hX hh) (fun p2 => ?_) (fun p2 => ?_)
  · refine xw_if_eq (tgt := 12) dX8_rentOf_5 (by decide) (fun q9 => absurd q9 (by decide)) (fun _ => ?_)
    refine xw_iconst (v := 0) dX8_rentOf_8 (by decide) ?_
    refine xw_goto (tgt := 41) dX8_rentOf_9 (by decide) ?_
    refine xw_ireti dX8_rentOf_41 rfl ?_
    first | exact ⟨by unfold rentN; rw [if_pos (decP_t p2)]; rfl, rfl⟩ | exact ⟨by unfold rentN; rw [decP_f p2]; rfl, rfl⟩
  · refine xw_if_eq (tgt := 12) dX8_rentOf_5 (by decide) (fun _ => ?_) (fun q9 => absurd q9 (by decide))
    refine xw_aload_n dX8_rentOf_12 rfl ?_
    refine xw_getR dX8_rentOf_13 fl_X8_22 rfl rfl ?_
    refine xw_bipush (v := 10) dX8_rentOf_16 (by decide) ?_
    refine xw_iload_n dX8_rentOf_18 rfl ?_
    refine xw_iaddN (a := 10) dX8_rentOf_19 ?_
    refine xw_ialN _ dX8_rentOf_20 rfl (rfl) (hX _ (by omega)) rfl ?_ ?_
    · omega
    refine xw_aload_n dX8_rentOf_21 rfl ?_
    refine xw_getR dX8_rentOf_22 fl_X8_22 rfl rfl ?_
    refine xw_bipush (v := 22) dX8_rentOf_25 (by decide) ?_
    refine xw_iload_n dX8_rentOf_27 rfl ?_
    refine xw_iaddN (a := 22) dX8_rentOf_28 ?_
    refine xw_ialN _ dX8_rentOf_29 rfl (rfl) (hW _ (by omega)) rfl ?_ ?_
    · omega
    refine xw_imulN dX8_rentOf_30 ?_
    refine xw_aload_n dX8_rentOf_31 rfl ?_
    refine xw_getR dX8_rentOf_32 fl_X8_22 rfl rfl ?_
    refine xw_bipush (v := 28) dX8_rentOf_35 (by decide) ?_
    refine xw_iload_n dX8_rentOf_37 rfl ?_
    refine xw_iaddN (a := 28) dX8_rentOf_38 ?_
    refine xw_ialN _ dX8_rentOf_39 rfl (rfl) (hH _ (by omega)) rfl ?_ ?_
    · omega
    refine xw_imulN dX8_rentOf_40 ?_
    refine xw_ireti dX8_rentOf_41 rfl ?_
    first | exact ⟨by unfold rentN; rw [if_pos (decP_t p2)]; rfl, rfl⟩ | exact ⟨by unfold rentN; rw [decP_f p2]; rfl, rfl⟩
set_option maxRecDepth 20000 in
theorem k_X7_house_0 {D : FD} {P h : Nat} (hC : FCS M 8 D) (hX : M.1 8 3 = nI P) (hP : P < 2 ^ 24) (hh : h < dn D)  : XC g l mX7_house (d + 4) [xr 0, xi (nI h), xi (nI 0)] M (XE (some (xi (nI (px P h)))) M) := by
  have hC0 := hC
  obtain ⟨hn6, ⟨hT, hT2⟩, ⟨hB, hB2⟩, hN, hwl, hwl2, hpt, hpt2, hK, hY, hW, hH, hG⟩ := hC
  have e0 : 0 ≤ nI h ∧ nI h < M.1 8 2 := by rw [hN]; exact nI_in0 (by omega) hh
  show XW g l mX7_house _ 0 [some (xr 0), some (xi (nI h)), some (xi (nI 0))] [] M _
  refine xw_aload_n dX7_house_0 rfl ?_
  refine xw_getR dX7_house_1 fl_X7_26 rfl rfl ?_
  refine xw_iload_n dX7_house_4 rfl ?_
  refine xw_cV1B dX7_house_5 okX1_isHouse ml_X7_133 rfl rfl rfl rfl (s_X1_isHouse xf_8 _) (fun p5 => ?_) (fun p5 => ?_)
  · refine xw_if_ne (tgt := 14) dX7_house_8 (by decide) (fun _ => ?_) (fun q9 => absurd q9 (by decide))
    refine xw_iload_n dX7_house_14 rfl ?_
    refine xw_tabIn (off := 49) (tgt := 64) dX7_house_15 (by decide) (by decide) (by decide) (by decide) ?_
    refine xw_aload_n dX7_house_64 rfl ?_
    refine xw_getR dX7_house_65 fl_X7_26 rfl rfl ?_
    refine xw_aload_n dX7_house_68 rfl ?_
    refine xw_getR dX7_house_69 fl_X7_26 rfl rfl ?_
    refine xw_getV dX7_house_72 fl_X7_136 rfl rfl (hX) ?_
    refine xw_iload_n dX7_house_75 rfl ?_
    refine xw_cV2E dX7_house_76 okX1_xOf ml_X7_163 rfl rfl rfl rfl (s_X1_xOf hP (by omega)) ?_
    refine xw_ireti dX7_house_79 rfl ?_
    first | exact ⟨rfl, rfl⟩ | exact ⟨by rw [bI_t (by assumption)], rfl⟩ | exact ⟨by rw [bI_f (by assumption)], rfl⟩
  · exfalso; contradiction
set_option maxRecDepth 20000 in
theorem k_X8_house_0 {D : FD} {P h : Nat} (hC : FMS M 54 D) (hX : XMP M 54 P) (hh : h < dn D)  : XC g l mX8_house (d + 3) [xr 49, xi (nI h), xi (nI 0)] M (XE (some (xi (nI (px P h)))) M) := by
  have hC0 := hC
  obtain ⟨hn6, ⟨hT, hT2⟩, ⟨hB, hB2⟩, hN, hcl, hK, hY, hW, hH, hG⟩ := hC
  have e0 : 0 ≤ nI h ∧ nI h < nI (dn D) := nI_in0 (by omega) hh
  show XW g l mX8_house _ 0 [some (xr 49), some (xi (nI h)), some (xi (nI 0))] [] M _
  refine xw_aload_n dX8_house_0 rfl ?_
  refine xw_iload_n dX8_house_1 rfl ?_
  refine xw_cV1B dX8_house_2 okX8_isThere ml_X8_199 rfl rfl rfl rfl (s_X8_isThere hN hn6 _) (fun p2 => ?_) (fun p2 => ?_)
  · refine xw_if_eq (tgt := 18) dX8_house_5 (by decide) (fun q9 => absurd q9 (by decide)) (fun _ => ?_)
    refine xw_iload_n dX8_house_8 rfl ?_
    refine xw_iconst (v := 0) dX8_house_9 (by decide) ?_
    refine xw_bipush (v := 8) dX8_house_10 (by decide) ?_
    refine xw_cS3B dX8_house_12 okX8_in ml_X8_56 rfl rfl (s_X8_in _ _ _) (fun p12 => ?_) (fun p12 => ?_)
    · refine xw_if_ne (tgt := 21) dX8_house_15 (by decide) (fun _ => ?_) (fun q9 => absurd q9 (by decide))
      refine xw_iload_n dX8_house_21 rfl ?_
      refine xw_tabOut (tgt := 114) dX8_house_22 (by decide) (by decide) ?_
      refine xw_aload_n dX8_house_114 rfl ?_
      refine xw_getR dX8_house_115 fl_X8_22 rfl rfl ?_
      refine xw_bipush (v := 10) dX8_house_118 (by decide) ?_
      refine xw_bipush (v := 6) dX8_house_120 (by decide) ?_
      refine xw_iload_n dX8_house_122 rfl ?_
      refine xw_imul dX8_house_123 ?_
      refine xw_iadd dX8_house_124 ?_
      refine xw_iload_n dX8_house_125 rfl ?_
      refine xw_iadd dX8_house_126 ?_
      refine xw_ialN (10 + 6 * 0 + h) dX8_house_127 rfl (show nI 10 + nI 6 * nI 0 + nI h = nI (10 + 6 * 0 + h) by rw [pk_mul, nI_add, nI_add]) (hX _ (by omega)) rfl ?_ ?_
      · omega
      refine xw_ireti dX8_house_128 rfl ?_
      first | exact ⟨rfl, rfl⟩ | exact ⟨by rw [bI_t (by assumption)], rfl⟩ | exact ⟨by rw [bI_f (by assumption)], rfl⟩
    · exfalso; first | contradiction | exact p12 (by decide)
  · exfalso; first | contradiction | exact p12 (by decide)
set_option maxRecDepth 20000 in
theorem k_X7_house_1 {D : FD} {P h : Nat} (hC : FCS M 8 D) (hX : M.1 8 3 = nI P) (hP : P < 2 ^ 24) (hh : h < dn D)  : XC g l mX7_house (d + 4) [xr 0, xi (nI h), xi (nI 1)] M (XE (some (xi (nI (dY D h)))) M) := by
  have hC0 := hC
  obtain ⟨hn6, ⟨hT, hT2⟩, ⟨hB, hB2⟩, hN, hwl, hwl2, hpt, hpt2, hK, hY, hW, hH, hG⟩ := hC
  have e0 : 0 ≤ nI h ∧ nI h < M.1 8 2 := by rw [hN]; exact nI_in0 (by omega) hh
  show XW g l mX7_house _ 0 [some (xr 0), some (xi (nI h)), some (xi (nI 1))] [] M _
  refine xw_aload_n dX7_house_0 rfl ?_
  refine xw_getR dX7_house_1 fl_X7_26 rfl rfl ?_
  refine xw_iload_n dX7_house_4 rfl ?_
  refine xw_cV1B dX7_house_5 okX1_isHouse ml_X7_133 rfl rfl rfl rfl (s_X1_isHouse xf_8 _) (fun p5 => ?_) (fun p5 => ?_)
  · refine xw_if_ne (tgt := 14) dX7_house_8 (by decide) (fun _ => ?_) (fun q9 => absurd q9 (by decide))
    refine xw_iload_n dX7_house_14 rfl ?_
    refine xw_tabIn (off := 65) (tgt := 80) dX7_house_15 (by decide) (by decide) (by decide) (by decide) ?_
    refine xw_aload_n dX7_house_80 rfl ?_
    refine xw_getR dX7_house_81 fl_X7_26 rfl rfl ?_
    refine xw_getR dX7_house_84 fl_X7_166 rfl rfl ?_
    refine xw_iload_n dX7_house_87 rfl ?_
    refine xw_ialN _ dX7_house_88 rfl (rfl) (hY _ hh) rfl ?_ ?_
    · omega
    refine xw_ireti dX7_house_89 rfl ?_
    first | exact ⟨rfl, rfl⟩ | exact ⟨by rw [bI_t (by assumption)], rfl⟩ | exact ⟨by rw [bI_f (by assumption)], rfl⟩
  · exfalso; contradiction
set_option maxRecDepth 20000 in
theorem k_X8_house_1 {D : FD} {P h : Nat} (hC : FMS M 54 D) (hX : XMP M 54 P) (hh : h < dn D)  : XC g l mX8_house (d + 3) [xr 49, xi (nI h), xi (nI 1)] M (XE (some (xi (nI (dY D h)))) M) := by
  have hC0 := hC
  obtain ⟨hn6, ⟨hT, hT2⟩, ⟨hB, hB2⟩, hN, hcl, hK, hY, hW, hH, hG⟩ := hC
  have e0 : 0 ≤ nI h ∧ nI h < nI (dn D) := nI_in0 (by omega) hh
  show XW g l mX8_house _ 0 [some (xr 49), some (xi (nI h)), some (xi (nI 1))] [] M _
  refine xw_aload_n dX8_house_0 rfl ?_
  refine xw_iload_n dX8_house_1 rfl ?_
  refine xw_cV1B dX8_house_2 okX8_isThere ml_X8_199 rfl rfl rfl rfl (s_X8_isThere hN hn6 _) (fun p2 => ?_) (fun p2 => ?_)
  · refine xw_if_eq (tgt := 18) dX8_house_5 (by decide) (fun q9 => absurd q9 (by decide)) (fun _ => ?_)
    refine xw_iload_n dX8_house_8 rfl ?_
    refine xw_iconst (v := 0) dX8_house_9 (by decide) ?_
    refine xw_bipush (v := 8) dX8_house_10 (by decide) ?_
    refine xw_cS3B dX8_house_12 okX8_in ml_X8_56 rfl rfl (s_X8_in _ _ _) (fun p12 => ?_) (fun p12 => ?_)
    · refine xw_if_ne (tgt := 21) dX8_house_15 (by decide) (fun _ => ?_) (fun q9 => absurd q9 (by decide))
      refine xw_iload_n dX8_house_21 rfl ?_
      refine xw_tabOut (tgt := 114) dX8_house_22 (by decide) (by decide) ?_
      refine xw_aload_n dX8_house_114 rfl ?_
      refine xw_getR dX8_house_115 fl_X8_22 rfl rfl ?_
      refine xw_bipush (v := 10) dX8_house_118 (by decide) ?_
      refine xw_bipush (v := 6) dX8_house_120 (by decide) ?_
      refine xw_iload_n dX8_house_122 rfl ?_
      refine xw_imul dX8_house_123 ?_
      refine xw_iadd dX8_house_124 ?_
      refine xw_iload_n dX8_house_125 rfl ?_
      refine xw_iadd dX8_house_126 ?_
      refine xw_ialN (10 + 6 * 1 + h) dX8_house_127 rfl (show nI 10 + nI 6 * nI 1 + nI h = nI (10 + 6 * 1 + h) by rw [pk_mul, nI_add, nI_add]) (hY _ hh) rfl ?_ ?_
      · omega
      refine xw_ireti dX8_house_128 rfl ?_
      first | exact ⟨rfl, rfl⟩ | exact ⟨by rw [bI_t (by assumption)], rfl⟩ | exact ⟨by rw [bI_f (by assumption)], rfl⟩
    · exfalso; first | contradiction | exact p12 (by decide)
  · exfalso; first | contradiction | exact p12 (by decide)
set_option maxRecDepth 20000 in
theorem k_X7_house_2 {D : FD} {P h : Nat} (hC : FCS M 8 D) (hX : M.1 8 3 = nI P) (hP : P < 2 ^ 24) (hh : h < dn D)  : XC g l mX7_house (d + 4) [xr 0, xi (nI h), xi (nI 2)] M (XE (some (xi (nI (dW D h)))) M) := by
  have hC0 := hC
  obtain ⟨hn6, ⟨hT, hT2⟩, ⟨hB, hB2⟩, hN, hwl, hwl2, hpt, hpt2, hK, hY, hW, hH, hG⟩ := hC
  have e0 : 0 ≤ nI h ∧ nI h < M.1 8 2 := by rw [hN]; exact nI_in0 (by omega) hh
  show XW g l mX7_house _ 0 [some (xr 0), some (xi (nI h)), some (xi (nI 2))] [] M _
  refine xw_aload_n dX7_house_0 rfl ?_
  refine xw_getR dX7_house_1 fl_X7_26 rfl rfl ?_
  refine xw_iload_n dX7_house_4 rfl ?_
  refine xw_cV1B dX7_house_5 okX1_isHouse ml_X7_133 rfl rfl rfl rfl (s_X1_isHouse xf_8 _) (fun p5 => ?_) (fun p5 => ?_)
  · refine xw_if_ne (tgt := 14) dX7_house_8 (by decide) (fun _ => ?_) (fun q9 => absurd q9 (by decide))
    refine xw_iload_n dX7_house_14 rfl ?_
    refine xw_tabIn (off := 75) (tgt := 90) dX7_house_15 (by decide) (by decide) (by decide) (by decide) ?_
    refine xw_aload_n dX7_house_90 rfl ?_
    refine xw_getR dX7_house_91 fl_X7_26 rfl rfl ?_
    refine xw_getR dX7_house_94 fl_X7_170 rfl rfl ?_
    refine xw_iload_n dX7_house_97 rfl ?_
    refine xw_ialN _ dX7_house_98 rfl (rfl) (hW _ hh) rfl ?_ ?_
    · omega
    refine xw_ireti dX7_house_99 rfl ?_
    first | exact ⟨rfl, rfl⟩ | exact ⟨by rw [bI_t (by assumption)], rfl⟩ | exact ⟨by rw [bI_f (by assumption)], rfl⟩
  · exfalso; contradiction
set_option maxRecDepth 20000 in
theorem k_X8_house_2 {D : FD} {P h : Nat} (hC : FMS M 54 D) (hX : XMP M 54 P) (hh : h < dn D)  : XC g l mX8_house (d + 3) [xr 49, xi (nI h), xi (nI 2)] M (XE (some (xi (nI (dW D h)))) M) := by
  have hC0 := hC
  obtain ⟨hn6, ⟨hT, hT2⟩, ⟨hB, hB2⟩, hN, hcl, hK, hY, hW, hH, hG⟩ := hC
  have e0 : 0 ≤ nI h ∧ nI h < nI (dn D) := nI_in0 (by omega) hh
  show XW g l mX8_house _ 0 [some (xr 49), some (xi (nI h)), some (xi (nI 2))] [] M _
  refine xw_aload_n dX8_house_0 rfl ?_
  refine xw_iload_n dX8_house_1 rfl ?_
  refine xw_cV1B dX8_house_2 okX8_isThere ml_X8_199 rfl rfl rfl rfl (s_X8_isThere hN hn6 _) (fun p2 => ?_) (fun p2 => ?_)
  · refine xw_if_eq (tgt := 18) dX8_house_5 (by decide) (fun q9 => absurd q9 (by decide)) (fun _ => ?_)
    refine xw_iload_n dX8_house_8 rfl ?_
    refine xw_iconst (v := 0) dX8_house_9 (by decide) ?_
    refine xw_bipush (v := 8) dX8_house_10 (by decide) ?_
    refine xw_cS3B dX8_house_12 okX8_in ml_X8_56 rfl rfl (s_X8_in _ _ _) (fun p12 => ?_) (fun p12 => ?_)
    · refine xw_if_ne (tgt := 21) dX8_house_15 (by decide) (fun _ => ?_) (fun q9 => absurd q9 (by decide))
      refine xw_iload_n dX8_house_21 rfl ?_
      refine xw_tabOut (tgt := 114) dX8_house_22 (by decide) (by decide) ?_
      refine xw_aload_n dX8_house_114 rfl ?_
      refine xw_getR dX8_house_115 fl_X8_22 rfl rfl ?_
      refine xw_bipush (v := 10) dX8_house_118 (by decide) ?_
      refine xw_bipush (v := 6) dX8_house_120 (by decide) ?_
      refine xw_iload_n dX8_house_122 rfl ?_
      refine xw_imul dX8_house_123 ?_
      refine xw_iadd dX8_house_124 ?_
      refine xw_iload_n dX8_house_125 rfl ?_
      refine xw_iadd dX8_house_126 ?_
      refine xw_ialN (10 + 6 * 2 + h) dX8_house_127 rfl (show nI 10 + nI 6 * nI 2 + nI h = nI (10 + 6 * 2 + h) by rw [pk_mul, nI_add, nI_add]) (hW _ hh) rfl ?_ ?_
      · omega
      refine xw_ireti dX8_house_128 rfl ?_
      first | exact ⟨rfl, rfl⟩ | exact ⟨by rw [bI_t (by assumption)], rfl⟩ | exact ⟨by rw [bI_f (by assumption)], rfl⟩
    · exfalso; first | contradiction | exact p12 (by decide)
  · exfalso; first | contradiction | exact p12 (by decide)
set_option maxRecDepth 20000 in
theorem k_X7_house_3 {D : FD} {P h : Nat} (hC : FCS M 8 D) (hX : M.1 8 3 = nI P) (hP : P < 2 ^ 24) (hh : h < dn D)  : XC g l mX7_house (d + 4) [xr 0, xi (nI h), xi (nI 3)] M (XE (some (xi (nI (dH D h)))) M) := by
  have hC0 := hC
  obtain ⟨hn6, ⟨hT, hT2⟩, ⟨hB, hB2⟩, hN, hwl, hwl2, hpt, hpt2, hK, hY, hW, hH, hG⟩ := hC
  have e0 : 0 ≤ nI h ∧ nI h < M.1 8 2 := by rw [hN]; exact nI_in0 (by omega) hh
  show XW g l mX7_house _ 0 [some (xr 0), some (xi (nI h)), some (xi (nI 3))] [] M _
  refine xw_aload_n dX7_house_0 rfl ?_
  refine xw_getR dX7_house_1 fl_X7_26 rfl rfl ?_
  refine xw_iload_n dX7_house_4 rfl ?_
  refine xw_cV1B dX7_house_5 okX1_isHouse ml_X7_133 rfl rfl rfl rfl (s_X1_isHouse xf_8 _) (fun p5 => ?_) (fun p5 => ?_)
  · refine xw_if_ne (tgt := 14) dX7_house_8 (by decide) (fun _ => ?_) (fun q9 => absurd q9 (by decide))
    refine xw_iload_n dX7_house_14 rfl ?_
    refine xw_tabIn (off := 85) (tgt := 100) dX7_house_15 (by decide) (by decide) (by decide) (by decide) ?_
    refine xw_aload_n dX7_house_100 rfl ?_
    refine xw_getR dX7_house_101 fl_X7_26 rfl rfl ?_
    refine xw_getR dX7_house_104 fl_X7_173 rfl rfl ?_
    refine xw_iload_n dX7_house_107 rfl ?_
    refine xw_ialN _ dX7_house_108 rfl (rfl) (hH _ hh) rfl ?_ ?_
    · omega
    refine xw_ireti dX7_house_109 rfl ?_
    first | exact ⟨rfl, rfl⟩ | exact ⟨by rw [bI_t (by assumption)], rfl⟩ | exact ⟨by rw [bI_f (by assumption)], rfl⟩
  · exfalso; contradiction
set_option maxRecDepth 20000 in
theorem k_X8_house_3 {D : FD} {P h : Nat} (hC : FMS M 54 D) (hX : XMP M 54 P) (hh : h < dn D)  : XC g l mX8_house (d + 3) [xr 49, xi (nI h), xi (nI 3)] M (XE (some (xi (nI (dH D h)))) M) := by
  have hC0 := hC
  obtain ⟨hn6, ⟨hT, hT2⟩, ⟨hB, hB2⟩, hN, hcl, hK, hY, hW, hH, hG⟩ := hC
  have e0 : 0 ≤ nI h ∧ nI h < nI (dn D) := nI_in0 (by omega) hh
  show XW g l mX8_house _ 0 [some (xr 49), some (xi (nI h)), some (xi (nI 3))] [] M _
  refine xw_aload_n dX8_house_0 rfl ?_
  refine xw_iload_n dX8_house_1 rfl ?_
  refine xw_cV1B dX8_house_2 okX8_isThere ml_X8_199 rfl rfl rfl rfl (s_X8_isThere hN hn6 _) (fun p2 => ?_) (fun p2 => ?_)
  · refine xw_if_eq (tgt := 18) dX8_house_5 (by decide) (fun q9 => absurd q9 (by decide)) (fun _ => ?_)
    refine xw_iload_n dX8_house_8 rfl ?_
    refine xw_iconst (v := 0) dX8_house_9 (by decide) ?_
    refine xw_bipush (v := 8) dX8_house_10 (by decide) ?_
    refine xw_cS3B dX8_house_12 okX8_in ml_X8_56 rfl rfl (s_X8_in _ _ _) (fun p12 => ?_) (fun p12 => ?_)
    · refine xw_if_ne (tgt := 21) dX8_house_15 (by decide) (fun _ => ?_) (fun q9 => absurd q9 (by decide))
      refine xw_iload_n dX8_house_21 rfl ?_
      refine xw_tabOut (tgt := 114) dX8_house_22 (by decide) (by decide) ?_
      refine xw_aload_n dX8_house_114 rfl ?_
      refine xw_getR dX8_house_115 fl_X8_22 rfl rfl ?_
      refine xw_bipush (v := 10) dX8_house_118 (by decide) ?_
      refine xw_bipush (v := 6) dX8_house_120 (by decide) ?_
      refine xw_iload_n dX8_house_122 rfl ?_
      refine xw_imul dX8_house_123 ?_
      refine xw_iadd dX8_house_124 ?_
      refine xw_iload_n dX8_house_125 rfl ?_
      refine xw_iadd dX8_house_126 ?_
      refine xw_ialN (10 + 6 * 3 + h) dX8_house_127 rfl (show nI 10 + nI 6 * nI 3 + nI h = nI (10 + 6 * 3 + h) by rw [pk_mul, nI_add, nI_add]) (hH _ hh) rfl ?_ ?_
      · omega
      refine xw_ireti dX8_house_128 rfl ?_
      first | exact ⟨rfl, rfl⟩ | exact ⟨by rw [bI_t (by assumption)], rfl⟩ | exact ⟨by rw [bI_f (by assumption)], rfl⟩
    · exfalso; first | contradiction | exact p12 (by decide)
  · exfalso; first | contradiction | exact p12 (by decide)
set_option maxRecDepth 20000 in
theorem k_X7_house_4 {D : FD} {P h : Nat} (hC : FCS M 8 D) (hX : M.1 8 3 = nI P) (hP : P < 2 ^ 24) (hh : h < dn D)  : XC g l mX7_house (d + 4) [xr 0, xi (nI h), xi (nI 4)] M (XE (some (xi (bI (drowned D P h)))) M) := by
  have hC0 := hC
  obtain ⟨hn6, ⟨hT, hT2⟩, ⟨hB, hB2⟩, hN, hwl, hwl2, hpt, hpt2, hK, hY, hW, hH, hG⟩ := hC
  have e0 : 0 ≤ nI h ∧ nI h < M.1 8 2 := by rw [hN]; exact nI_in0 (by omega) hh
  show XW g l mX7_house _ 0 [some (xr 0), some (xi (nI h)), some (xi (nI 4))] [] M _
  refine xw_aload_n dX7_house_0 rfl ?_
  refine xw_getR dX7_house_1 fl_X7_26 rfl rfl ?_
  refine xw_iload_n dX7_house_4 rfl ?_
  refine xw_cV1B dX7_house_5 okX1_isHouse ml_X7_133 rfl rfl rfl rfl (s_X1_isHouse xf_8 _) (fun p5 => ?_) (fun p5 => ?_)
  · refine xw_if_ne (tgt := 14) dX7_house_8 (by decide) (fun _ => ?_) (fun q9 => absurd q9 (by decide))
    refine xw_iload_n dX7_house_14 rfl ?_
    refine xw_tabIn (off := 95) (tgt := 110) dX7_house_15 (by decide) (by decide) (by decide) (by decide) ?_
    refine xw_aload_n dX7_house_110 rfl ?_
    refine xw_getR dX7_house_111 fl_X7_26 rfl rfl ?_
    refine xw_aload_n dX7_house_114 rfl ?_
    refine xw_getR dX7_house_115 fl_X7_26 rfl rfl ?_
    refine xw_getV dX7_house_118 fl_X7_136 rfl rfl (hX) ?_
    refine xw_iload_n dX7_house_121 rfl ?_
    refine xw_cV2B dX7_house_122 okX1_isDrowned ml_X7_139 rfl rfl rfl rfl (s_X1_isDrowned xf_8 hC0 hP hh) (fun p122 => ?_) (fun p122 => ?_)
    · refine xw_if_eq (tgt := 132) dX7_house_125 (by decide) (fun q9 => absurd q9 (by decide)) (fun _ => ?_)
      refine xw_iconst (v := 1) dX7_house_128 (by decide) ?_
      refine xw_goto (tgt := 133) dX7_house_129 (by decide) ?_
      refine xw_ireti dX7_house_133 rfl ?_
      first | exact ⟨rfl, rfl⟩ | exact ⟨by rw [bI_t (by assumption)], rfl⟩ | exact ⟨by rw [bI_f (by assumption)], rfl⟩
    · refine xw_if_eq (tgt := 132) dX7_house_125 (by decide) (fun _ => ?_) (fun q9 => absurd q9 (by decide))
      refine xw_iconst (v := 0) dX7_house_132 (by decide) ?_
      refine xw_ireti dX7_house_133 rfl ?_
      first | exact ⟨rfl, rfl⟩ | exact ⟨by rw [bI_t (by assumption)], rfl⟩ | exact ⟨by rw [bI_f (by assumption)], rfl⟩
  · exfalso; contradiction
set_option maxRecDepth 20000 in
theorem k_X8_house_4 {D : FD} {P h : Nat} (hC : FMS M 54 D) (hX : XMP M 54 P) (hh : h < dn D)  : XC g l mX8_house (d + 3) [xr 49, xi (nI h), xi (nI 4)] M (XE (some (xi (bI (drowned D P h)))) M) := by
  have hC0 := hC
  obtain ⟨hn6, ⟨hT, hT2⟩, ⟨hB, hB2⟩, hN, hcl, hK, hY, hW, hH, hG⟩ := hC
  have e0 : 0 ≤ nI h ∧ nI h < nI (dn D) := nI_in0 (by omega) hh
  show XW g l mX8_house _ 0 [some (xr 49), some (xi (nI h)), some (xi (nI 4))] [] M _
  refine xw_aload_n dX8_house_0 rfl ?_
  refine xw_iload_n dX8_house_1 rfl ?_
  refine xw_cV1B dX8_house_2 okX8_isThere ml_X8_199 rfl rfl rfl rfl (s_X8_isThere hN hn6 _) (fun p2 => ?_) (fun p2 => ?_)
  · refine xw_if_eq (tgt := 18) dX8_house_5 (by decide) (fun q9 => absurd q9 (by decide)) (fun _ => ?_)
    refine xw_iload_n dX8_house_8 rfl ?_
    refine xw_iconst (v := 0) dX8_house_9 (by decide) ?_
    refine xw_bipush (v := 8) dX8_house_10 (by decide) ?_
    refine xw_cS3B dX8_house_12 okX8_in ml_X8_56 rfl rfl (s_X8_in _ _ _) (fun p12 => ?_) (fun p12 => ?_)
    · refine xw_if_ne (tgt := 21) dX8_house_15 (by decide) (fun _ => ?_) (fun q9 => absurd q9 (by decide))
      refine xw_iload_n dX8_house_21 rfl ?_
      refine xw_tabIn (off := 34) (tgt := 56) dX8_house_22 (by decide) (by decide) (by decide) (by decide) ?_
      refine xw_aload_n dX8_house_56 rfl ?_
      refine xw_iload_n dX8_house_57 rfl ?_
      refine xw_cV1B dX8_house_58 okX8_isDrowned ml_X8_202 rfl rfl rfl rfl (s_X8_isDrowned hC0 hX hh) (fun p58 => ?_) (fun p58 => ?_)
      · refine xw_if_eq (tgt := 68) dX8_house_61 (by decide) (fun q9 => absurd q9 (by decide)) (fun _ => ?_)
        refine xw_iconst (v := 1) dX8_house_64 (by decide) ?_
        refine xw_goto (tgt := 69) dX8_house_65 (by decide) ?_
        refine xw_ireti dX8_house_69 rfl ?_
        first | exact ⟨rfl, rfl⟩ | exact ⟨by rw [bI_t (by assumption)], rfl⟩ | exact ⟨by rw [bI_f (by assumption)], rfl⟩
      · refine xw_if_eq (tgt := 68) dX8_house_61 (by decide) (fun _ => ?_) (fun q9 => absurd q9 (by decide))
        refine xw_iconst (v := 0) dX8_house_68 (by decide) ?_
        refine xw_ireti dX8_house_69 rfl ?_
        first | exact ⟨rfl, rfl⟩ | exact ⟨by rw [bI_t (by assumption)], rfl⟩ | exact ⟨by rw [bI_f (by assumption)], rfl⟩
    · exfalso; first | contradiction | exact p12 (by decide)
  · exfalso; first | contradiction | exact p12 (by decide)
set_option maxRecDepth 20000 in
theorem k_X7_house_5 {D : FD} {P h : Nat} (hC : FCS M 8 D) (hX : M.1 8 3 = nI P) (hP : P < 2 ^ 24) (hh : h < dn D)  : XC g l mX7_house (d + 4) [xr 0, xi (nI h), xi (nI 5)] M (XE (some (xi (bI (openH D P h)))) M) := by
  have hC0 := hC
  obtain ⟨hn6, ⟨hT, hT2⟩, ⟨hB, hB2⟩, hN, hwl, hwl2, hpt, hpt2, hK, hY, hW, hH, hG⟩ := hC
  have e0 : 0 ≤ nI h ∧ nI h < M.1 8 2 := by rw [hN]; exact nI_in0 (by omega) hh
  show XW g l mX7_house _ 0 [some (xr 0), some (xi (nI h)), some (xi (nI 5))] [] M _
  refine xw_aload_n dX7_house_0 rfl ?_
  refine xw_getR dX7_house_1 fl_X7_26 rfl rfl ?_
  refine xw_iload_n dX7_house_4 rfl ?_
  refine xw_cV1B dX7_house_5 okX1_isHouse ml_X7_133 rfl rfl rfl rfl (s_X1_isHouse xf_8 _) (fun p5 => ?_) (fun p5 => ?_)
  · refine xw_if_ne (tgt := 14) dX7_house_8 (by decide) (fun _ => ?_) (fun q9 => absurd q9 (by decide))
    refine xw_iload_n dX7_house_14 rfl ?_
    refine xw_tabIn (off := 119) (tgt := 134) dX7_house_15 (by decide) (by decide) (by decide) (by decide) ?_
    refine xw_aload_n dX7_house_134 rfl ?_
    refine xw_getR dX7_house_135 fl_X7_26 rfl rfl ?_
    refine xw_iload_n dX7_house_138 rfl ?_
    refine xw_cV1B dX7_house_139 okX1_isOpen ml_X7_176 rfl rfl rfl rfl (s_X1_isOpen xf_8 hC0 hX hP hh) (fun p139 => ?_) (fun p139 => ?_)
    · refine xw_if_eq (tgt := 149) dX7_house_142 (by decide) (fun q9 => absurd q9 (by decide)) (fun _ => ?_)
      refine xw_iconst (v := 1) dX7_house_145 (by decide) ?_
      refine xw_goto (tgt := 150) dX7_house_146 (by decide) ?_
      refine xw_ireti dX7_house_150 rfl ?_
      first | exact ⟨rfl, rfl⟩ | exact ⟨by rw [bI_t (by assumption)], rfl⟩ | exact ⟨by rw [bI_f (by assumption)], rfl⟩
    · refine xw_if_eq (tgt := 149) dX7_house_142 (by decide) (fun _ => ?_) (fun q9 => absurd q9 (by decide))
      refine xw_iconst (v := 0) dX7_house_149 (by decide) ?_
      refine xw_ireti dX7_house_150 rfl ?_
      first | exact ⟨rfl, rfl⟩ | exact ⟨by rw [bI_t (by assumption)], rfl⟩ | exact ⟨by rw [bI_f (by assumption)], rfl⟩
  · exfalso; contradiction
set_option maxRecDepth 20000 in
theorem k_X8_house_5 {D : FD} {P h : Nat} (hC : FMS M 54 D) (hX : XMP M 54 P) (hh : h < dn D)  : XC g l mX8_house (d + 3) [xr 49, xi (nI h), xi (nI 5)] M (XE (some (xi (bI (openH D P h)))) M) := by
  have hC0 := hC
  obtain ⟨hn6, ⟨hT, hT2⟩, ⟨hB, hB2⟩, hN, hcl, hK, hY, hW, hH, hG⟩ := hC
  have e0 : 0 ≤ nI h ∧ nI h < nI (dn D) := nI_in0 (by omega) hh
  show XW g l mX8_house _ 0 [some (xr 49), some (xi (nI h)), some (xi (nI 5))] [] M _
  refine xw_aload_n dX8_house_0 rfl ?_
  refine xw_iload_n dX8_house_1 rfl ?_
  refine xw_cV1B dX8_house_2 okX8_isThere ml_X8_199 rfl rfl rfl rfl (s_X8_isThere hN hn6 _) (fun p2 => ?_) (fun p2 => ?_)
  · refine xw_if_eq (tgt := 18) dX8_house_5 (by decide) (fun q9 => absurd q9 (by decide)) (fun _ => ?_)
    refine xw_iload_n dX8_house_8 rfl ?_
    refine xw_iconst (v := 0) dX8_house_9 (by decide) ?_
    refine xw_bipush (v := 8) dX8_house_10 (by decide) ?_
    refine xw_cS3B dX8_house_12 okX8_in ml_X8_56 rfl rfl (s_X8_in _ _ _) (fun p12 => ?_) (fun p12 => ?_)
    · refine xw_if_ne (tgt := 21) dX8_house_15 (by decide) (fun _ => ?_) (fun q9 => absurd q9 (by decide))
      refine xw_iload_n dX8_house_21 rfl ?_
      refine xw_tabIn (off := 48) (tgt := 70) dX8_house_22 (by decide) (by decide) (by decide) (by decide) ?_
      refine xw_aload_n dX8_house_70 rfl ?_
      refine xw_iload_n dX8_house_71 rfl ?_
      refine xw_cV1B dX8_house_72 okX8_isOpen ml_X8_210 rfl rfl rfl rfl (s_X8_isOpen hC0 hX hh) (fun p72 => ?_) (fun p72 => ?_)
      · refine xw_if_eq (tgt := 82) dX8_house_75 (by decide) (fun q9 => absurd q9 (by decide)) (fun _ => ?_)
        refine xw_iconst (v := 1) dX8_house_78 (by decide) ?_
        refine xw_goto (tgt := 83) dX8_house_79 (by decide) ?_
        refine xw_ireti dX8_house_83 rfl ?_
        first | exact ⟨rfl, rfl⟩ | exact ⟨by rw [bI_t (by assumption)], rfl⟩ | exact ⟨by rw [bI_f (by assumption)], rfl⟩
      · refine xw_if_eq (tgt := 82) dX8_house_75 (by decide) (fun _ => ?_) (fun q9 => absurd q9 (by decide))
        refine xw_iconst (v := 0) dX8_house_82 (by decide) ?_
        refine xw_ireti dX8_house_83 rfl ?_
        first | exact ⟨rfl, rfl⟩ | exact ⟨by rw [bI_t (by assumption)], rfl⟩ | exact ⟨by rw [bI_f (by assumption)], rfl⟩
    · exfalso; first | contradiction | exact p12 (by decide)
  · exfalso; first | contradiction | exact p12 (by decide)
set_option maxRecDepth 20000 in
theorem k_X7_house_6 {D : FD} {P h : Nat} (hC : FCS M 8 D) (hX : M.1 8 3 = nI P) (hP : P < 2 ^ 24) (hh : h < dn D)  : XC g l mX7_house (d + 4) [xr 0, xi (nI h), xi (nI 6)] M (XE (some (xi (bI (boxedH D P h)))) M) := by
  have hC0 := hC
  obtain ⟨hn6, ⟨hT, hT2⟩, ⟨hB, hB2⟩, hN, hwl, hwl2, hpt, hpt2, hK, hY, hW, hH, hG⟩ := hC
  have e0 : 0 ≤ nI h ∧ nI h < M.1 8 2 := by rw [hN]; exact nI_in0 (by omega) hh
  show XW g l mX7_house _ 0 [some (xr 0), some (xi (nI h)), some (xi (nI 6))] [] M _
  refine xw_aload_n dX7_house_0 rfl ?_
  refine xw_getR dX7_house_1 fl_X7_26 rfl rfl ?_
  refine xw_iload_n dX7_house_4 rfl ?_
  refine xw_cV1B dX7_house_5 okX1_isHouse ml_X7_133 rfl rfl rfl rfl (s_X1_isHouse xf_8 _) (fun p5 => ?_) (fun p5 => ?_)
  · refine xw_if_ne (tgt := 14) dX7_house_8 (by decide) (fun _ => ?_) (fun q9 => absurd q9 (by decide))
    refine xw_iload_n dX7_house_14 rfl ?_
    refine xw_tabIn (off := 136) (tgt := 151) dX7_house_15 (by decide) (by decide) (by decide) (by decide) ?_
    refine xw_aload_n dX7_house_151 rfl ?_
    refine xw_getR dX7_house_152 fl_X7_26 rfl rfl ?_
    refine xw_iload_n dX7_house_155 rfl ?_
    refine xw_cV1B dX7_house_156 okX1_isBoxed ml_X7_179 rfl rfl rfl rfl (s_X1_isBoxed xf_8 hC0 hX hP hh) (fun p156 => ?_) (fun p156 => ?_)
    · refine xw_if_eq (tgt := 166) dX7_house_159 (by decide) (fun q9 => absurd q9 (by decide)) (fun _ => ?_)
      refine xw_iconst (v := 1) dX7_house_162 (by decide) ?_
      refine xw_goto (tgt := 167) dX7_house_163 (by decide) ?_
      refine xw_ireti dX7_house_167 rfl ?_
      first | exact ⟨rfl, rfl⟩ | exact ⟨by rw [bI_t (by assumption)], rfl⟩ | exact ⟨by rw [bI_f (by assumption)], rfl⟩
    · refine xw_if_eq (tgt := 166) dX7_house_159 (by decide) (fun _ => ?_) (fun q9 => absurd q9 (by decide))
      refine xw_iconst (v := 0) dX7_house_166 (by decide) ?_
      refine xw_ireti dX7_house_167 rfl ?_
      first | exact ⟨rfl, rfl⟩ | exact ⟨by rw [bI_t (by assumption)], rfl⟩ | exact ⟨by rw [bI_f (by assumption)], rfl⟩
  · exfalso; contradiction
set_option maxRecDepth 20000 in
theorem k_X8_house_6 {D : FD} {P h : Nat} (hC : FMS M 54 D) (hX : XMP M 54 P) (hh : h < dn D)  : XC g l mX8_house (d + 3) [xr 49, xi (nI h), xi (nI 6)] M (XE (some (xi (bI (boxedH D P h)))) M) := by
  have hC0 := hC
  obtain ⟨hn6, ⟨hT, hT2⟩, ⟨hB, hB2⟩, hN, hcl, hK, hY, hW, hH, hG⟩ := hC
  have e0 : 0 ≤ nI h ∧ nI h < nI (dn D) := nI_in0 (by omega) hh
  show XW g l mX8_house _ 0 [some (xr 49), some (xi (nI h)), some (xi (nI 6))] [] M _
  refine xw_aload_n dX8_house_0 rfl ?_
  refine xw_iload_n dX8_house_1 rfl ?_
  refine xw_cV1B dX8_house_2 okX8_isThere ml_X8_199 rfl rfl rfl rfl (s_X8_isThere hN hn6 _) (fun p2 => ?_) (fun p2 => ?_)
  · refine xw_if_eq (tgt := 18) dX8_house_5 (by decide) (fun q9 => absurd q9 (by decide)) (fun _ => ?_)
    refine xw_iload_n dX8_house_8 rfl ?_
    refine xw_iconst (v := 0) dX8_house_9 (by decide) ?_
    refine xw_bipush (v := 8) dX8_house_10 (by decide) ?_
    refine xw_cS3B dX8_house_12 okX8_in ml_X8_56 rfl rfl (s_X8_in _ _ _) (fun p12 => ?_) (fun p12 => ?_)
    · refine xw_if_ne (tgt := 21) dX8_house_15 (by decide) (fun _ => ?_) (fun q9 => absurd q9 (by decide))
      refine xw_iload_n dX8_house_21 rfl ?_
      refine xw_tabIn (off := 62) (tgt := 84) dX8_house_22 (by decide) (by decide) (by decide) (by decide) ?_
      refine xw_aload_n dX8_house_84 rfl ?_
      refine xw_iload_n dX8_house_85 rfl ?_
      refine xw_cV1B dX8_house_86 okX8_isBoxed ml_X8_213 rfl rfl rfl rfl (s_X8_isBoxed hC0 hX hh) (fun p86 => ?_) (fun p86 => ?_)
      · refine xw_if_eq (tgt := 96) dX8_house_89 (by decide) (fun q9 => absurd q9 (by decide)) (fun _ => ?_)
        refine xw_iconst (v := 1) dX8_house_92 (by decide) ?_
        refine xw_goto (tgt := 97) dX8_house_93 (by decide) ?_
        refine xw_ireti dX8_house_97 rfl ?_
        first | exact ⟨rfl, rfl⟩ | exact ⟨by rw [bI_t (by assumption)], rfl⟩ | exact ⟨by rw [bI_f (by assumption)], rfl⟩
      · refine xw_if_eq (tgt := 96) dX8_house_89 (by decide) (fun _ => ?_) (fun q9 => absurd q9 (by decide))
        refine xw_iconst (v := 0) dX8_house_96 (by decide) ?_
        refine xw_ireti dX8_house_97 rfl ?_
        first | exact ⟨rfl, rfl⟩ | exact ⟨by rw [bI_t (by assumption)], rfl⟩ | exact ⟨by rw [bI_f (by assumption)], rfl⟩
    · exfalso; first | contradiction | exact p12 (by decide)
  · exfalso; first | contradiction | exact p12 (by decide)
set_option maxRecDepth 20000 in
theorem k_X7_house_7 {D : FD} {P h : Nat} (hC : FCS M 8 D) (hX : M.1 8 3 = nI P) (hP : P < 2 ^ 24) (hh : h < dn D)  : XC g l mX7_house (d + 4) [xr 0, xi (nI h), xi (nI 7)] M (XE (some (xi (nI (rentN D P h)))) M) := by
  have hC0 := hC
  obtain ⟨hn6, ⟨hT, hT2⟩, ⟨hB, hB2⟩, hN, hwl, hwl2, hpt, hpt2, hK, hY, hW, hH, hG⟩ := hC
  have e0 : 0 ≤ nI h ∧ nI h < M.1 8 2 := by rw [hN]; exact nI_in0 (by omega) hh
  show XW g l mX7_house _ 0 [some (xr 0), some (xi (nI h)), some (xi (nI 7))] [] M _
  refine xw_aload_n dX7_house_0 rfl ?_
  refine xw_getR dX7_house_1 fl_X7_26 rfl rfl ?_
  refine xw_iload_n dX7_house_4 rfl ?_
  refine xw_cV1B dX7_house_5 okX1_isHouse ml_X7_133 rfl rfl rfl rfl (s_X1_isHouse xf_8 _) (fun p5 => ?_) (fun p5 => ?_)
  · refine xw_if_ne (tgt := 14) dX7_house_8 (by decide) (fun _ => ?_) (fun q9 => absurd q9 (by decide))
    refine xw_iload_n dX7_house_14 rfl ?_
    refine xw_tabIn (off := 153) (tgt := 168) dX7_house_15 (by decide) (by decide) (by decide) (by decide) ?_
    refine xw_aload_n dX7_house_168 rfl ?_
    refine xw_getR dX7_house_169 fl_X7_26 rfl rfl ?_
    refine xw_iload_n dX7_house_172 rfl ?_
    refine xw_cV1E dX7_house_173 okX1_rentOf ml_X7_182 rfl rfl rfl rfl (s_X1_rentOf xf_8 hC0 hX hP hh) ?_
    refine xw_ireti dX7_house_176 rfl ?_
    first | exact ⟨rfl, rfl⟩ | exact ⟨by rw [bI_t (by assumption)], rfl⟩ | exact ⟨by rw [bI_f (by assumption)], rfl⟩
  · exfalso; contradiction
set_option maxRecDepth 20000 in
theorem k_X8_house_7 {D : FD} {P h : Nat} (hC : FMS M 54 D) (hX : XMP M 54 P) (hh : h < dn D)  : XC g l mX8_house (d + 3) [xr 49, xi (nI h), xi (nI 7)] M (XE (some (xi (nI (rentN D P h)))) M) := by
  have hC0 := hC
  obtain ⟨hn6, ⟨hT, hT2⟩, ⟨hB, hB2⟩, hN, hcl, hK, hY, hW, hH, hG⟩ := hC
  have e0 : 0 ≤ nI h ∧ nI h < nI (dn D) := nI_in0 (by omega) hh
  show XW g l mX8_house _ 0 [some (xr 49), some (xi (nI h)), some (xi (nI 7))] [] M _
  refine xw_aload_n dX8_house_0 rfl ?_
  refine xw_iload_n dX8_house_1 rfl ?_
  refine xw_cV1B dX8_house_2 okX8_isThere ml_X8_199 rfl rfl rfl rfl (s_X8_isThere hN hn6 _) (fun p2 => ?_) (fun p2 => ?_)
  · refine xw_if_eq (tgt := 18) dX8_house_5 (by decide) (fun q9 => absurd q9 (by decide)) (fun _ => ?_)
    refine xw_iload_n dX8_house_8 rfl ?_
    refine xw_iconst (v := 0) dX8_house_9 (by decide) ?_
    refine xw_bipush (v := 8) dX8_house_10 (by decide) ?_
    refine xw_cS3B dX8_house_12 okX8_in ml_X8_56 rfl rfl (s_X8_in _ _ _) (fun p12 => ?_) (fun p12 => ?_)
    · refine xw_if_ne (tgt := 21) dX8_house_15 (by decide) (fun _ => ?_) (fun q9 => absurd q9 (by decide))
      refine xw_iload_n dX8_house_21 rfl ?_
      refine xw_tabIn (off := 76) (tgt := 98) dX8_house_22 (by decide) (by decide) (by decide) (by decide) ?_
      refine xw_aload_n dX8_house_98 rfl ?_
      refine xw_iload_n dX8_house_99 rfl ?_
      refine xw_cV1E dX8_house_100 okX8_rentOf ml_X8_216 rfl rfl rfl rfl (s_X8_rentOf hC0 hX hh) ?_
      refine xw_ireti dX8_house_103 rfl ?_
      first | exact ⟨rfl, rfl⟩ | exact ⟨by rw [bI_t (by assumption)], rfl⟩ | exact ⟨by rw [bI_f (by assumption)], rfl⟩
    · exfalso; first | contradiction | exact p12 (by decide)
  · exfalso; first | contradiction | exact p12 (by decide)
set_option maxRecDepth 20000 in
theorem k_X7_house_8 {D : FD} {P h : Nat} (hC : FCS M 8 D) (hX : M.1 8 3 = nI P) (hP : P < 2 ^ 24) (hh : h < dn D)  : XC g l mX7_house (d + 4) [xr 0, xi (nI h), xi (nI 8)] M (XE (some (xi (M.1 15 h))) M) := by
  have hC0 := hC
  obtain ⟨hn6, ⟨hT, hT2⟩, ⟨hB, hB2⟩, hN, hwl, hwl2, hpt, hpt2, hK, hY, hW, hH, hG⟩ := hC
  have e0 : 0 ≤ nI h ∧ nI h < M.1 8 2 := by rw [hN]; exact nI_in0 (by omega) hh
  show XW g l mX7_house _ 0 [some (xr 0), some (xi (nI h)), some (xi (nI 8))] [] M _
  refine xw_aload_n dX7_house_0 rfl ?_
  refine xw_getR dX7_house_1 fl_X7_26 rfl rfl ?_
  refine xw_iload_n dX7_house_4 rfl ?_
  refine xw_cV1B dX7_house_5 okX1_isHouse ml_X7_133 rfl rfl rfl rfl (s_X1_isHouse xf_8 _) (fun p5 => ?_) (fun p5 => ?_)
  · refine xw_if_ne (tgt := 14) dX7_house_8 (by decide) (fun _ => ?_) (fun q9 => absurd q9 (by decide))
    refine xw_iload_n dX7_house_14 rfl ?_
    refine xw_tabIn (off := 162) (tgt := 177) dX7_house_15 (by decide) (by decide) (by decide) (by decide) ?_
    refine xw_aload_n dX7_house_177 rfl ?_
    refine xw_getR dX7_house_178 fl_X7_26 rfl rfl ?_
    refine xw_getR dX7_house_181 fl_X7_185 rfl rfl ?_
    refine xw_iload_n dX7_house_184 rfl ?_
    refine xw_ialN _ dX7_house_185 rfl (rfl) (rfl) rfl ?_ ?_
    · omega
    refine xw_ireti dX7_house_186 rfl ?_
    first | exact ⟨rfl, rfl⟩ | exact ⟨by rw [bI_t (by assumption)], rfl⟩ | exact ⟨by rw [bI_f (by assumption)], rfl⟩
  · exfalso; contradiction
set_option maxRecDepth 20000 in
theorem k_X8_house_8 {D : FD} {P h : Nat} (hC : FMS M 54 D) (hX : XMP M 54 P) (hh : h < dn D)  : XC g l mX8_house (d + 3) [xr 49, xi (nI h), xi (nI 8)] M (XE (some (xi (M.1 54 (34 + h)))) M) := by
  have hC0 := hC
  obtain ⟨hn6, ⟨hT, hT2⟩, ⟨hB, hB2⟩, hN, hcl, hK, hY, hW, hH, hG⟩ := hC
  have e0 : 0 ≤ nI h ∧ nI h < nI (dn D) := nI_in0 (by omega) hh
  show XW g l mX8_house _ 0 [some (xr 49), some (xi (nI h)), some (xi (nI 8))] [] M _
  refine xw_aload_n dX8_house_0 rfl ?_
  refine xw_iload_n dX8_house_1 rfl ?_
  refine xw_cV1B dX8_house_2 okX8_isThere ml_X8_199 rfl rfl rfl rfl (s_X8_isThere hN hn6 _) (fun p2 => ?_) (fun p2 => ?_)
  · refine xw_if_eq (tgt := 18) dX8_house_5 (by decide) (fun q9 => absurd q9 (by decide)) (fun _ => ?_)
    refine xw_iload_n dX8_house_8 rfl ?_
    refine xw_iconst (v := 0) dX8_house_9 (by decide) ?_
    refine xw_bipush (v := 8) dX8_house_10 (by decide) ?_
    refine xw_cS3B dX8_house_12 okX8_in ml_X8_56 rfl rfl (s_X8_in _ _ _) (fun p12 => ?_) (fun p12 => ?_)
    · refine xw_if_ne (tgt := 21) dX8_house_15 (by decide) (fun _ => ?_) (fun q9 => absurd q9 (by decide))
      refine xw_iload_n dX8_house_21 rfl ?_
      refine xw_tabIn (off := 82) (tgt := 104) dX8_house_22 (by decide) (by decide) (by decide) (by decide) ?_
      refine xw_aload_n dX8_house_104 rfl ?_
      refine xw_getR dX8_house_105 fl_X8_22 rfl rfl ?_
      refine xw_bipush (v := 34) dX8_house_108 (by decide) ?_
      refine xw_iload_n dX8_house_110 rfl ?_
      refine xw_iaddN (a := 34) dX8_house_111 ?_
      refine xw_ialN _ dX8_house_112 rfl (rfl) (rfl) rfl ?_ ?_
      · omega
      refine xw_ireti dX8_house_113 rfl ?_
      first | exact ⟨rfl, rfl⟩ | exact ⟨by rw [bI_t (by assumption)], rfl⟩ | exact ⟨by rw [bI_f (by assumption)], rfl⟩
    · exfalso; first | contradiction | exact p12 (by decide)
  · exfalso; first | contradiction | exact p12 (by decide)
end PUB25
