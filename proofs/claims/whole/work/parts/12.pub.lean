section PUB12
variable {g : XG} {l : Launch} {d : Nat} {M : XM}
set_option maxRecDepth 20000 in
theorem k_X7_copy_bad {a i b j n : Int32} (h : ¬ ((0 ≤ a ∧ a < 8) ∧ 0 ≤ b ∧ b < 8)) : XC g l mX7_copy (d + 2) [xr 0, xi a, xi i, xi b, xi j, xi n] M (XE (some (xi (-1000001))) (M)) := by
  show XW g l mX7_copy _ 0 [some (xr 0), some (xi a), some (xi i), some (xi b), some (xi j), some (xi n)] [] M _
  refine xw_aload_n dX7_copy_0 rfl ?_
  refine xw_getR dX7_copy_1 fl_X7_10 rfl rfl ?_
  refine xw_iload_n dX7_copy_4 rfl ?_
  refine xw_cV1B dX7_copy_5 okX6_isNumber ml_X7_59 rfl rfl rfl rfl (s_X6_isNumber _) (fun p5 => ?_) (fun p5 => ?_)
  · refine xw_if_eq (tgt := 22) dX7_copy_8 (by decide) (fun q9 => absurd q9 (by decide)) (fun _ => ?_)
    refine xw_aload_n dX7_copy_11 rfl ?_
    refine xw_getR dX7_copy_12 fl_X7_10 rfl rfl ?_
    refine xw_iload_n dX7_copy_15 rfl ?_
    refine xw_cV1B dX7_copy_16 okX6_isNumber ml_X7_59 rfl rfl rfl rfl (s_X6_isNumber _) (fun p16 => ?_) (fun p16 => ?_)
    · exfalso; first | contradiction | omega | grind | simp_all
    · refine xw_if_ne (tgt := 25) dX7_copy_19 (by decide) (fun q9 => absurd q9 (by decide)) (fun _ => ?_)
      refine xw_ldc dX7_copy_22 kc_X7_66 ?_
      refine xw_ireti dX7_copy_24 rfl ?_
      first | exact ⟨rfl, rfl⟩ | exact ⟨by simp_all, rfl⟩ | grind [XE]
  · refine xw_if_eq (tgt := 22) dX7_copy_8 (by decide) (fun _ => ?_) (fun q9 => absurd q9 (by decide))
    refine xw_ldc dX7_copy_22 kc_X7_66 ?_
    refine xw_ireti dX7_copy_24 rfl ?_
    first | exact ⟨rfl, rfl⟩ | exact ⟨by simp_all, rfl⟩ | grind [XE]
set_option maxRecDepth 20000 in
theorem k_X8_copy_bad {a i b j n : Int32} (h : ¬ ((0 ≤ a ∧ a < 8) ∧ 0 ≤ b ∧ b < 8)) : XC g l mX8_copy (d + 2) [xr 49, xi a, xi i, xi b, xi j, xi n] M (XE (some (xi (-1000001))) (M)) := by
  show XW g l mX8_copy _ 0 [some (xr 49), some (xi a), some (xi i), some (xi b), some (xi j), some (xi n), none] [] M _
  refine xw_iload_n dX8_copy_0 rfl ?_
  refine xw_cS1B dX8_copy_1 okX8_isRow ml_X8_60 rfl rfl (s_X8_isRow _) (fun p1 => ?_) (fun p1 => ?_)
  · refine xw_if_eq (tgt := 14) dX8_copy_4 (by decide) (fun q9 => absurd q9 (by decide)) (fun _ => ?_)
    refine xw_iload_n dX8_copy_7 rfl ?_
    refine xw_cS1B dX8_copy_8 okX8_isRow ml_X8_60 rfl rfl (s_X8_isRow _) (fun p8 => ?_) (fun p8 => ?_)
    · exfalso; first | contradiction | omega | grind | simp_all
    · refine xw_if_ne (tgt := 17) dX8_copy_11 (by decide) (fun q9 => absurd q9 (by decide)) (fun _ => ?_)
      refine xw_ldc dX8_copy_14 kc_X8_64 ?_
      refine xw_ireti dX8_copy_16 rfl ?_
      first | exact ⟨rfl, rfl⟩ | exact ⟨by simp_all, rfl⟩ | grind [XE]
  · refine xw_if_eq (tgt := 14) dX8_copy_4 (by decide) (fun _ => ?_) (fun q9 => absurd q9 (by decide))
    refine xw_ldc dX8_copy_14 kc_X8_64 ?_
    refine xw_ireti dX8_copy_16 rfl ?_
    first | exact ⟨rfl, rfl⟩ | exact ⟨by simp_all, rfl⟩ | grind [XE]
set_option maxRecDepth 20000 in
theorem k_X7_copy_null {a b : Nat} {i j n : Int32} (ha : a < 8) (hb : b < 8) (h : M.1 2 a = -1 ∨ M.1 2 b = -1) : XC g l mX7_copy (d + 2) [xr 0, xi (nI a), xi i, xi (nI b), xi j, xi n] M (XE (some (xi (-1000011))) (xup M 0 7 1)) := by
  show XW g l mX7_copy _ 0 [some (xr 0), some (xi (nI a)), some (xi i), some (xi (nI b)), some (xi j), some (xi n)] [] M _
  refine xw_aload_n dX7_copy_0 rfl ?_
  refine xw_getR dX7_copy_1 fl_X7_10 rfl rfl ?_
  refine xw_iload_n dX7_copy_4 rfl ?_
  refine xw_cV1B dX7_copy_5 okX6_isNumber ml_X7_59 rfl rfl rfl rfl (s_X6_isNumber _) (fun p5 => ?_) (fun p5 => ?_)
  · refine xw_if_eq (tgt := 22) dX7_copy_8 (by decide) (fun q9 => absurd q9 (by decide)) (fun _ => ?_)
    refine xw_aload_n dX7_copy_11 rfl ?_
    refine xw_getR dX7_copy_12 fl_X7_10 rfl rfl ?_
    refine xw_iload_n dX7_copy_15 rfl ?_
    refine xw_cV1B dX7_copy_16 okX6_isNumber ml_X7_59 rfl rfl rfl rfl (s_X6_isNumber _) (fun p16 => ?_) (fun p16 => ?_)
    · refine xw_if_ne (tgt := 25) dX7_copy_19 (by decide) (fun _ => ?_) (fun q9 => absurd q9 (by decide))
      refine xw_aload_n dX7_copy_25 rfl ?_
      refine xw_getR dX7_copy_26 fl_X7_10 rfl rfl ?_
      refine xw_iload_n dX7_copy_29 rfl ?_
      refine xw_cV1B dX7_copy_30 okX6_isMissing ml_X7_78 rfl rfl rfl rfl (s_X6_isMissing (by first | assumption | omega)) (fun p30 => ?_) (fun p30 => ?_)
      · refine xw_if_ne (tgt := 47) dX7_copy_33 (by decide) (fun _ => ?_) (fun q9 => absurd q9 (by decide))
        refine xw_aload_n dX7_copy_47 rfl ?_
        refine xw_iconst (v := 1) dX7_copy_48 (by decide) ?_
        refine xw_cV1E dX7_copy_49 okX7_found ml_X7_67 rfl rfl rfl rfl (s_X7_found _) ?_
        refine xw_ireti dX7_copy_52 rfl ?_
        first | exact ⟨rfl, rfl⟩ | exact ⟨by simp_all, rfl⟩ | grind [XE]
      · refine xw_if_ne (tgt := 47) dX7_copy_33 (by decide) (fun q9 => absurd q9 (by decide)) (fun _ => ?_)
        refine xw_aload_n dX7_copy_36 rfl ?_
        refine xw_getR dX7_copy_37 fl_X7_10 rfl rfl ?_
        refine xw_iload_n dX7_copy_40 rfl ?_
        refine xw_cV1B dX7_copy_41 okX6_isMissing ml_X7_78 rfl rfl rfl rfl (s_X6_isMissing (by first | assumption | omega)) (fun p41 => ?_) (fun p41 => ?_)
        · refine xw_if_eq (tgt := 53) dX7_copy_44 (by decide) (fun q9 => absurd q9 (by decide)) (fun _ => ?_)
          refine xw_aload_n dX7_copy_47 rfl ?_
          refine xw_iconst (v := 1) dX7_copy_48 (by decide) ?_
          refine xw_cV1E dX7_copy_49 okX7_found ml_X7_67 rfl rfl rfl rfl (s_X7_found _) ?_
          refine xw_ireti dX7_copy_52 rfl ?_
          first | exact ⟨rfl, rfl⟩ | exact ⟨by simp_all, rfl⟩ | grind [XE]
        · exfalso; first | contradiction | (have e0 := nI_lt8 ha; have e1 := nI_lt8 hb; grind)
    · exfalso; first | contradiction | (have e0 := nI_lt8 ha; have e1 := nI_lt8 hb; grind)
  · exfalso; first | contradiction | (have e0 := nI_lt8 ha; have e1 := nI_lt8 hb; grind)
set_option maxRecDepth 20000 in
theorem k_X8_copy_null {a b : Nat} {i j n : Int32} (ha : a < 8) (hb : b < 8) (h : M.1 50 a = -1000000 ∨ M.1 50 b = -1000000) : XC g l mX8_copy (d + 2) [xr 49, xi (nI a), xi i, xi (nI b), xi j, xi n] M (XE (some (xi (-1000011))) (xup M 49 3 1)) := by
  show XW g l mX8_copy _ 0 [some (xr 49), some (xi (nI a)), some (xi i), some (xi (nI b)), some (xi j), some (xi n), none] [] M _
  refine xw_iload_n dX8_copy_0 rfl ?_
  refine xw_cS1B dX8_copy_1 okX8_isRow ml_X8_60 rfl rfl (s_X8_isRow _) (fun p1 => ?_) (fun p1 => ?_)
  · refine xw_if_eq (tgt := 14) dX8_copy_4 (by decide) (fun q9 => absurd q9 (by decide)) (fun _ => ?_)
    refine xw_iload_n dX8_copy_7 rfl ?_
    refine xw_cS1B dX8_copy_8 okX8_isRow ml_X8_60 rfl rfl (s_X8_isRow _) (fun p8 => ?_) (fun p8 => ?_)
    · refine xw_if_ne (tgt := 17) dX8_copy_11 (by decide) (fun _ => ?_) (fun q9 => absurd q9 (by decide))
      refine xw_aload_n dX8_copy_17 rfl ?_
      refine xw_iload_n dX8_copy_18 rfl ?_
      refine xw_cV1B dX8_copy_19 okX8_isMissing ml_X8_72 rfl rfl rfl rfl (s_X8_isMissing (by first | assumption | omega)) (fun p19 => ?_) (fun p19 => ?_)
      · refine xw_if_ne (tgt := 33) dX8_copy_22 (by decide) (fun _ => ?_) (fun q9 => absurd q9 (by decide))
        refine xw_aload_n dX8_copy_33 rfl ?_
        refine xw_iconst (v := 1) dX8_copy_34 (by decide) ?_
        refine xw_cV1E dX8_copy_35 okX8_finds ml_X8_65 rfl rfl rfl rfl (s_X8_finds _) ?_
        refine xw_ireti dX8_copy_38 rfl ?_
        first | exact ⟨rfl, rfl⟩ | exact ⟨by simp_all, rfl⟩ | grind [XE]
      · refine xw_if_ne (tgt := 33) dX8_copy_22 (by decide) (fun q9 => absurd q9 (by decide)) (fun _ => ?_)
        refine xw_aload_n dX8_copy_25 rfl ?_
        refine xw_iload_n dX8_copy_26 rfl ?_
        refine xw_cV1B dX8_copy_27 okX8_isMissing ml_X8_72 rfl rfl rfl rfl (s_X8_isMissing (by first | assumption | omega)) (fun p27 => ?_) (fun p27 => ?_)
        · refine xw_if_eq (tgt := 39) dX8_copy_30 (by decide) (fun q9 => absurd q9 (by decide)) (fun _ => ?_)
          refine xw_aload_n dX8_copy_33 rfl ?_
          refine xw_iconst (v := 1) dX8_copy_34 (by decide) ?_
          refine xw_cV1E dX8_copy_35 okX8_finds ml_X8_65 rfl rfl rfl rfl (s_X8_finds _) ?_
          refine xw_ireti dX8_copy_38 rfl ?_
          first | exact ⟨rfl, rfl⟩ | exact ⟨by simp_all, rfl⟩ | grind [XE]
        · exfalso; first | contradiction | (have e0 := nI_lt8 ha; have e1 := nI_lt8 hb; grind)
    · exfalso; first | contradiction | (have e0 := nI_lt8 ha; have e1 := nI_lt8 hb; grind)
  · exfalso; first | contradiction | (have e0 := nI_lt8 ha; have e1 := nI_lt8 hb; grind)
set_option maxRecDepth 20000 in
theorem k_X7_copy_store {a b : Nat} {i j n : Int32} (ha : a < 8) (hb : b < 8) (h0 : ¬ M.1 2 a = -1) (h1 : ¬ M.1 2 b = -1) (h : ¬ M.1 2 a = M.1 2 b) : XC g l mX7_copy (d + 2) [xr 0, xi (nI a), xi i, xi (nI b), xi j, xi n] M (XE (some (xi (-1000015))) (xup M 0 7 5)) := by
  show XW g l mX7_copy _ 0 [some (xr 0), some (xi (nI a)), some (xi i), some (xi (nI b)), some (xi j), some (xi n)] [] M _
  refine xw_aload_n dX7_copy_0 rfl ?_
  refine xw_getR dX7_copy_1 fl_X7_10 rfl rfl ?_
  refine xw_iload_n dX7_copy_4 rfl ?_
  refine xw_cV1B dX7_copy_5 okX6_isNumber ml_X7_59 rfl rfl rfl rfl (s_X6_isNumber _) (fun p5 => ?_) (fun p5 => ?_)
  · refine xw_if_eq (tgt := 22) dX7_copy_8 (by decide) (fun q9 => absurd q9 (by decide)) (fun _ => ?_)
    refine xw_aload_n dX7_copy_11 rfl ?_
    refine xw_getR dX7_copy_12 fl_X7_10 rfl rfl ?_
    refine xw_iload_n dX7_copy_15 rfl ?_
    refine xw_cV1B dX7_copy_16 okX6_isNumber ml_X7_59 rfl rfl rfl rfl (s_X6_isNumber _) (fun p16 => ?_) (fun p16 => ?_)
    · refine xw_if_ne (tgt := 25) dX7_copy_19 (by decide) (fun _ => ?_) (fun q9 => absurd q9 (by decide))
      refine xw_aload_n dX7_copy_25 rfl ?_
      refine xw_getR dX7_copy_26 fl_X7_10 rfl rfl ?_
      refine xw_iload_n dX7_copy_29 rfl ?_
      refine xw_cV1B dX7_copy_30 okX6_isMissing ml_X7_78 rfl rfl rfl rfl (s_X6_isMissing (by first | assumption | omega)) (fun p30 => ?_) (fun p30 => ?_)
      · exfalso; first | contradiction | (have e0 := nI_lt8 ha; have e1 := nI_lt8 hb; grind)
      · refine xw_if_ne (tgt := 47) dX7_copy_33 (by decide) (fun q9 => absurd q9 (by decide)) (fun _ => ?_)
        refine xw_aload_n dX7_copy_36 rfl ?_
        refine xw_getR dX7_copy_37 fl_X7_10 rfl rfl ?_
        refine xw_iload_n dX7_copy_40 rfl ?_
        refine xw_cV1B dX7_copy_41 okX6_isMissing ml_X7_78 rfl rfl rfl rfl (s_X6_isMissing (by first | assumption | omega)) (fun p41 => ?_) (fun p41 => ?_)
        · exfalso; first | contradiction | (have e0 := nI_lt8 ha; have e1 := nI_lt8 hb; grind)
        · refine xw_if_eq (tgt := 53) dX7_copy_44 (by decide) (fun _ => ?_) (fun q9 => absurd q9 (by decide))
          refine xw_aload_n dX7_copy_53 rfl ?_
          refine xw_getR dX7_copy_54 fl_X7_10 rfl rfl ?_
          refine xw_iload_n dX7_copy_57 rfl ?_
          refine xw_cV1E dX7_copy_58 okX6_laneOf ml_X7_89 rfl rfl rfl rfl (s_X6_laneOf (by first | assumption | omega)) ?_
          refine xw_aload_n dX7_copy_61 rfl ?_
          refine xw_getR dX7_copy_62 fl_X7_10 rfl rfl ?_
          refine xw_iload_n dX7_copy_65 rfl ?_
          refine xw_cV1E dX7_copy_66 okX6_laneOf ml_X7_89 rfl rfl rfl rfl (s_X6_laneOf (by first | assumption | omega)) ?_
          refine xw_icmp_eq (tgt := 78) dX7_copy_69 (by decide) (fun c69 => ?_) (fun c69 => ?_)
          · exfalso; first | contradiction | (have e0 := nI_lt8 ha; have e1 := nI_lt8 hb; grind)
          · refine xw_aload_n dX7_copy_72 rfl ?_
            refine xw_iconst (v := 5) dX7_copy_73 (by decide) ?_
            refine xw_cV1E dX7_copy_74 okX7_found ml_X7_67 rfl rfl rfl rfl (s_X7_found _) ?_
            refine xw_ireti dX7_copy_77 rfl ?_
            first | exact ⟨rfl, rfl⟩ | exact ⟨by simp_all, rfl⟩ | grind [XE]
    · exfalso; first | contradiction | (have e0 := nI_lt8 ha; have e1 := nI_lt8 hb; grind)
  · exfalso; first | contradiction | (have e0 := nI_lt8 ha; have e1 := nI_lt8 hb; grind)
set_option maxRecDepth 20000 in
theorem k_X8_copy_store {a b : Nat} {i j n : Int32} (ha : a < 8) (hb : b < 8) (h0 : ¬ M.1 50 a = -1000000) (h1 : ¬ M.1 50 b = -1000000) (h : ¬ M.1 50 a = M.1 50 b) : XC g l mX8_copy (d + 2) [xr 49, xi (nI a), xi i, xi (nI b), xi j, xi n] M (XE (some (xi (-1000015))) (xup M 49 3 5)) := by
  show XW g l mX8_copy _ 0 [some (xr 49), some (xi (nI a)), some (xi i), some (xi (nI b)), some (xi j), some (xi n), none] [] M _
  refine xw_iload_n dX8_copy_0 rfl ?_
  refine xw_cS1B dX8_copy_1 okX8_isRow ml_X8_60 rfl rfl (s_X8_isRow _) (fun p1 => ?_) (fun p1 => ?_)
  · refine xw_if_eq (tgt := 14) dX8_copy_4 (by decide) (fun q9 => absurd q9 (by decide)) (fun _ => ?_)
    refine xw_iload_n dX8_copy_7 rfl ?_
    refine xw_cS1B dX8_copy_8 okX8_isRow ml_X8_60 rfl rfl (s_X8_isRow _) (fun p8 => ?_) (fun p8 => ?_)
    · refine xw_if_ne (tgt := 17) dX8_copy_11 (by decide) (fun _ => ?_) (fun q9 => absurd q9 (by decide))
      refine xw_aload_n dX8_copy_17 rfl ?_
      refine xw_iload_n dX8_copy_18 rfl ?_
      refine xw_cV1B dX8_copy_19 okX8_isMissing ml_X8_72 rfl rfl rfl rfl (s_X8_isMissing (by first | assumption | omega)) (fun p19 => ?_) (fun p19 => ?_)
      · exfalso; first | contradiction | (have e0 := nI_lt8 ha; have e1 := nI_lt8 hb; grind)
      · refine xw_if_ne (tgt := 33) dX8_copy_22 (by decide) (fun q9 => absurd q9 (by decide)) (fun _ => ?_)
        refine xw_aload_n dX8_copy_25 rfl ?_
        refine xw_iload_n dX8_copy_26 rfl ?_
        refine xw_cV1B dX8_copy_27 okX8_isMissing ml_X8_72 rfl rfl rfl rfl (s_X8_isMissing (by first | assumption | omega)) (fun p27 => ?_) (fun p27 => ?_)
        · exfalso; first | contradiction | (have e0 := nI_lt8 ha; have e1 := nI_lt8 hb; grind)
        · refine xw_if_eq (tgt := 39) dX8_copy_30 (by decide) (fun _ => ?_) (fun q9 => absurd q9 (by decide))
          refine xw_aload_n dX8_copy_39 rfl ?_
          refine xw_getR dX8_copy_40 fl_X8_7 rfl rfl ?_
          refine xw_iload_n dX8_copy_43 rfl ?_
          refine xw_ialN _ dX8_copy_44 rfl (rfl) (rfl) rfl ?_ ?_
          · omega
          refine xw_aload_n dX8_copy_45 rfl ?_
          refine xw_getR dX8_copy_46 fl_X8_7 rfl rfl ?_
          refine xw_iload_n dX8_copy_49 rfl ?_
          refine xw_ialN _ dX8_copy_50 rfl (rfl) (rfl) rfl ?_ ?_
          · omega
          refine xw_icmp_eq (tgt := 60) dX8_copy_51 (by decide) (fun c51 => ?_) (fun c51 => ?_)
          · exfalso; first | contradiction | (have e0 := nI_lt8 ha; have e1 := nI_lt8 hb; grind)
          · refine xw_aload_n dX8_copy_54 rfl ?_
            refine xw_iconst (v := 5) dX8_copy_55 (by decide) ?_
            refine xw_cV1E dX8_copy_56 okX8_finds ml_X8_65 rfl rfl rfl rfl (s_X8_finds _) ?_
            refine xw_ireti dX8_copy_59 rfl ?_
            first | exact ⟨rfl, rfl⟩ | exact ⟨by simp_all, rfl⟩ | grind [XE]
    · exfalso; first | contradiction | (have e0 := nI_lt8 ha; have e1 := nI_lt8 hb; grind)
  · exfalso; first | contradiction | (have e0 := nI_lt8 ha; have e1 := nI_lt8 hb; grind)
theorem pl_two (i n : Int32) {s : Nat} (hs : s ≤ 40) (hi : ¬ i < 0) (hn : ¬ n < 0) : n ≤ nI s - i ↔ i.toInt + n.toInt ≤ (s : Int) := by
  have h1 := fb_rng i
  have h3 : 0 ≤ i.toInt := by rw [fa_lt] at hi; simpa using hi
  rw [fa_le, fb_subI] <;> rw [nI_toInt (by omega)] <;> omega
theorem pl_nat {i n s : Nat} (hi : i < 2 ^ 31) (hn : n < 2 ^ 31) (h : i + n ≤ s) : 0 ≤ nI i ∧ 0 ≤ nI n ∧ (nI i).toInt + (nI n).toInt ≤ (s : Int) := ⟨nI_pos' hi, nI_pos' hn, by rw [nI_toInt hi, nI_toInt hn]; omega⟩
theorem pl_three {i n : Int32} {s : Nat} (hs : s ≤ 40) (h : 0 ≤ i ∧ 0 ≤ n ∧ i.toInt + n.toInt ≤ (s : Int)) : ∃ i' n' : Nat, i = nI i' ∧ n = nI n' ∧ i' + n' ≤ s := by
  obtain ⟨i', h1, rfl⟩ := nI_of (x := i) (by rw [Int32.not_lt]; exact h.1)
  obtain ⟨n', h2, rfl⟩ := nI_of (x := n) (by rw [Int32.not_lt]; exact h.2.1)
  refine ⟨i', n', rfl, rfl, ?_⟩
  have := h.2.2
  rw [nI_toInt h1, nI_toInt h2] at this
  omega
set_option maxRecDepth 20000 in
theorem k_X7_copy_place {a b : Nat} {i j n : Int32} (ha : a < 8) (hb : b < 8) {s t : Nat} (h0 : ¬ M.1 2 a = -1) (h1 : ¬ M.1 2 b = -1) (h2 : M.1 2 a = M.1 2 b) (hs : M.1 3 a = nI s) (ht : M.1 3 b = nI t) (hs2 : s ≤ 40) (ht2 : t ≤ 40) (h : ¬ ((0 ≤ i ∧ 0 ≤ n ∧ i.toInt + n.toInt ≤ (s : Int)) ∧ 0 ≤ j ∧ 0 ≤ n ∧ j.toInt + n.toInt ≤ (t : Int))) : XC g l mX7_copy (d + 2) [xr 0, xi (nI a), xi i, xi (nI b), xi j, xi n] M (XE (some (xi (-1000012))) (xup M 0 7 2)) := by
  show XW g l mX7_copy _ 0 [some (xr 0), some (xi (nI a)), some (xi i), some (xi (nI b)), some (xi j), some (xi n)] [] M _
  refine xw_aload_n dX7_copy_0 rfl ?_
  refine xw_getR dX7_copy_1 fl_X7_10 rfl rfl ?_
  refine xw_iload_n dX7_copy_4 rfl ?_
  refine xw_cV1B dX7_copy_5 okX6_isNumber ml_X7_59 rfl rfl rfl rfl (s_X6_isNumber _) (fun p5 => ?_) (fun p5 => ?_)
  · refine xw_if_eq (tgt := 22) dX7_copy_8 (by decide) (fun q9 => absurd q9 (by decide)) (fun _ => ?_)
    refine xw_aload_n dX7_copy_11 rfl ?_
    refine xw_getR dX7_copy_12 fl_X7_10 rfl rfl ?_
    refine xw_iload_n dX7_copy_15 rfl ?_
    refine xw_cV1B dX7_copy_16 okX6_isNumber ml_X7_59 rfl rfl rfl rfl (s_X6_isNumber _) (fun p16 => ?_) (fun p16 => ?_)
    · refine xw_if_ne (tgt := 25) dX7_copy_19 (by decide) (fun _ => ?_) (fun q9 => absurd q9 (by decide))
      refine xw_aload_n dX7_copy_25 rfl ?_
      refine xw_getR dX7_copy_26 fl_X7_10 rfl rfl ?_
      refine xw_iload_n dX7_copy_29 rfl ?_
      refine xw_cV1B dX7_copy_30 okX6_isMissing ml_X7_78 rfl rfl rfl rfl (s_X6_isMissing (by first | assumption | omega)) (fun p30 => ?_) (fun p30 => ?_)
      · exfalso; first | contradiction | exact h ⟨by assumption, by assumption⟩ | (have e0 := nI_lt8 ha; have e1 := nI_lt8 hb; grind)
      · refine xw_if_ne (tgt := 47) dX7_copy_33 (by decide) (fun q9 => absurd q9 (by decide)) (fun _ => ?_)
        refine xw_aload_n dX7_copy_36 rfl ?_
        refine xw_getR dX7_copy_37 fl_X7_10 rfl rfl ?_
        refine xw_iload_n dX7_copy_40 rfl ?_
        refine xw_cV1B dX7_copy_41 okX6_isMissing ml_X7_78 rfl rfl rfl rfl (s_X6_isMissing (by first | assumption | omega)) (fun p41 => ?_) (fun p41 => ?_)
        · exfalso; first | contradiction | exact h ⟨by assumption, by assumption⟩ | (have e0 := nI_lt8 ha; have e1 := nI_lt8 hb; grind)
        · refine xw_if_eq (tgt := 53) dX7_copy_44 (by decide) (fun _ => ?_) (fun q9 => absurd q9 (by decide))
          refine xw_aload_n dX7_copy_53 rfl ?_
          refine xw_getR dX7_copy_54 fl_X7_10 rfl rfl ?_
          refine xw_iload_n dX7_copy_57 rfl ?_
          refine xw_cV1E dX7_copy_58 okX6_laneOf ml_X7_89 rfl rfl rfl rfl (s_X6_laneOf (by first | assumption | omega)) ?_
          refine xw_aload_n dX7_copy_61 rfl ?_
          refine xw_getR dX7_copy_62 fl_X7_10 rfl rfl ?_
          refine xw_iload_n dX7_copy_65 rfl ?_
          refine xw_cV1E dX7_copy_66 okX6_laneOf ml_X7_89 rfl rfl rfl rfl (s_X6_laneOf (by first | assumption | omega)) ?_
          refine xw_icmp_eq (tgt := 78) dX7_copy_69 (by decide) (fun c69 => ?_) (fun c69 => ?_)
          · refine xw_aload_n dX7_copy_78 rfl ?_
            refine xw_getR dX7_copy_79 fl_X7_10 rfl rfl ?_
            refine xw_iload_n dX7_copy_82 rfl ?_
            refine xw_iload_n dX7_copy_83 rfl ?_
            refine xw_iload dX7_copy_84 rfl ?_
            refine xw_cV3B dX7_copy_86 okX6_hasPlaces ml_X7_81 rfl rfl rfl rfl (s_X6_hasPlaces _ _ ha hs hs2) (fun p86 => ?_) (fun p86 => ?_)
            · refine xw_if_eq (tgt := 107) dX7_copy_89 (by decide) (fun q9 => absurd q9 (by decide)) (fun _ => ?_)
              refine xw_aload_n dX7_copy_92 rfl ?_
              refine xw_getR dX7_copy_93 fl_X7_10 rfl rfl ?_
              refine xw_iload_n dX7_copy_96 rfl ?_
              refine xw_iload dX7_copy_97 rfl ?_
              refine xw_iload dX7_copy_99 rfl ?_
              refine xw_cV3B dX7_copy_101 okX6_hasPlaces ml_X7_81 rfl rfl rfl rfl (s_X6_hasPlaces _ _ hb ht ht2) (fun p101 => ?_) (fun p101 => ?_)
              · exfalso; first | contradiction | exact h ⟨by assumption, by assumption⟩ | (have e0 := nI_lt8 ha; have e1 := nI_lt8 hb; grind)
              · refine xw_if_ne (tgt := 113) dX7_copy_104 (by decide) (fun q9 => absurd q9 (by decide)) (fun _ => ?_)
                refine xw_aload_n dX7_copy_107 rfl ?_
                refine xw_iconst (v := 2) dX7_copy_108 (by decide) ?_
                refine xw_cV1E dX7_copy_109 okX7_found ml_X7_67 rfl rfl rfl rfl (s_X7_found _) ?_
                refine xw_ireti dX7_copy_112 rfl ?_
                first | exact ⟨rfl, rfl⟩ | exact ⟨by simp_all, rfl⟩ | grind [XE]
            · refine xw_if_eq (tgt := 107) dX7_copy_89 (by decide) (fun _ => ?_) (fun q9 => absurd q9 (by decide))
              refine xw_aload_n dX7_copy_107 rfl ?_
              refine xw_iconst (v := 2) dX7_copy_108 (by decide) ?_
              refine xw_cV1E dX7_copy_109 okX7_found ml_X7_67 rfl rfl rfl rfl (s_X7_found _) ?_
              refine xw_ireti dX7_copy_112 rfl ?_
              first | exact ⟨rfl, rfl⟩ | exact ⟨by simp_all, rfl⟩ | grind [XE]
          · exfalso; first | contradiction | exact h ⟨by assumption, by assumption⟩ | (have e0 := nI_lt8 ha; have e1 := nI_lt8 hb; grind)
    · exfalso; first | contradiction | exact h ⟨by assumption, by assumption⟩ | (have e0 := nI_lt8 ha; have e1 := nI_lt8 hb; grind)
  · exfalso; first | contradiction | exact h ⟨by assumption, by assumption⟩ | (have e0 := nI_lt8 ha; have e1 := nI_lt8 hb; grind)
set_option maxRecDepth 20000 in
theorem k_X8_copy_place {a b : Nat} {i j n : Int32} (ha : a < 8) (hb : b < 8) {s t : Nat} (h0 : ¬ M.1 50 a = -1000000) (h1 : ¬ M.1 50 b = -1000000) (h2 : M.1 50 a = M.1 50 b) (hs : M.1 51 a = nI s) (ht : M.1 51 b = nI t) (hs2 : s ≤ 40) (ht2 : t ≤ 40) (h : ¬ ((0 ≤ i ∧ 0 ≤ n ∧ i.toInt + n.toInt ≤ (s : Int)) ∧ 0 ≤ j ∧ 0 ≤ n ∧ j.toInt + n.toInt ≤ (t : Int))) : XC g l mX8_copy (d + 2) [xr 49, xi (nI a), xi i, xi (nI b), xi j, xi n] M (XE (some (xi (-1000012))) (xup M 49 3 2)) := by
  show XW g l mX8_copy _ 0 [some (xr 49), some (xi (nI a)), some (xi i), some (xi (nI b)), some (xi j), some (xi n), none] [] M _
  refine xw_iload_n dX8_copy_0 rfl ?_
  refine xw_cS1B dX8_copy_1 okX8_isRow ml_X8_60 rfl rfl (s_X8_isRow _) (fun p1 => ?_) (fun p1 => ?_)
  · refine xw_if_eq (tgt := 14) dX8_copy_4 (by decide) (fun q9 => absurd q9 (by decide)) (fun _ => ?_)
    refine xw_iload_n dX8_copy_7 rfl ?_
    refine xw_cS1B dX8_copy_8 okX8_isRow ml_X8_60 rfl rfl (s_X8_isRow _) (fun p8 => ?_) (fun p8 => ?_)
    · refine xw_if_ne (tgt := 17) dX8_copy_11 (by decide) (fun _ => ?_) (fun q9 => absurd q9 (by decide))
      refine xw_aload_n dX8_copy_17 rfl ?_
      refine xw_iload_n dX8_copy_18 rfl ?_
      refine xw_cV1B dX8_copy_19 okX8_isMissing ml_X8_72 rfl rfl rfl rfl (s_X8_isMissing (by first | assumption | omega)) (fun p19 => ?_) (fun p19 => ?_)
      · exfalso; first | contradiction | (have e0 := nI_lt8 ha; have e1 := nI_lt8 hb; grind) | (have e0 := pl_two i n hs2 c61 c71; have e1 := pl_two j n ht2 c66 c71; grind)
      · refine xw_if_ne (tgt := 33) dX8_copy_22 (by decide) (fun q9 => absurd q9 (by decide)) (fun _ => ?_)
        refine xw_aload_n dX8_copy_25 rfl ?_
        refine xw_iload_n dX8_copy_26 rfl ?_
        refine xw_cV1B dX8_copy_27 okX8_isMissing ml_X8_72 rfl rfl rfl rfl (s_X8_isMissing (by first | assumption | omega)) (fun p27 => ?_) (fun p27 => ?_)
        · exfalso; first | contradiction | (have e0 := nI_lt8 ha; have e1 := nI_lt8 hb; grind) | (have e0 := pl_two i n hs2 c61 c71; have e1 := pl_two j n ht2 c66 c71; grind)
        · refine xw_if_eq (tgt := 39) dX8_copy_30 (by decide) (fun _ => ?_) (fun q9 => absurd q9 (by decide))
          refine xw_aload_n dX8_copy_39 rfl ?_
          refine xw_getR dX8_copy_40 fl_X8_7 rfl rfl ?_
          refine xw_iload_n dX8_copy_43 rfl ?_
          refine xw_ialN _ dX8_copy_44 rfl (rfl) (rfl) rfl ?_ ?_
          · omega
          refine xw_aload_n dX8_copy_45 rfl ?_
          refine xw_getR dX8_copy_46 fl_X8_7 rfl rfl ?_
          refine xw_iload_n dX8_copy_49 rfl ?_
          refine xw_ialN _ dX8_copy_50 rfl (rfl) (rfl) rfl ?_ ?_
          · omega
          refine xw_icmp_eq (tgt := 60) dX8_copy_51 (by decide) (fun c51 => ?_) (fun c51 => ?_)
          · refine xw_iload_n dX8_copy_60 rfl ?_
            refine xw_if_lt (tgt := 101) dX8_copy_61 (by decide) (fun c61 => ?_) (fun c61 => ?_)
            · refine xw_aload_n dX8_copy_101 rfl ?_
              refine xw_iconst (v := 2) dX8_copy_102 (by decide) ?_
              refine xw_cV1E dX8_copy_103 okX8_finds ml_X8_65 rfl rfl rfl rfl (s_X8_finds _) ?_
              refine xw_ireti dX8_copy_106 rfl ?_
              first | exact ⟨rfl, rfl⟩ | exact ⟨by simp_all, rfl⟩ | grind [XE]
            · refine xw_iload dX8_copy_64 rfl ?_
              refine xw_if_lt (tgt := 101) dX8_copy_66 (by decide) (fun c66 => ?_) (fun c66 => ?_)
              · refine xw_aload_n dX8_copy_101 rfl ?_
                refine xw_iconst (v := 2) dX8_copy_102 (by decide) ?_
                refine xw_cV1E dX8_copy_103 okX8_finds ml_X8_65 rfl rfl rfl rfl (s_X8_finds _) ?_
                refine xw_ireti dX8_copy_106 rfl ?_
                first | exact ⟨rfl, rfl⟩ | exact ⟨by simp_all, rfl⟩ | grind [XE]
              · refine xw_iload dX8_copy_69 rfl ?_
                refine xw_if_lt (tgt := 101) dX8_copy_71 (by decide) (fun c71 => ?_) (fun c71 => ?_)
                · refine xw_aload_n dX8_copy_101 rfl ?_
                  refine xw_iconst (v := 2) dX8_copy_102 (by decide) ?_
                  refine xw_cV1E dX8_copy_103 okX8_finds ml_X8_65 rfl rfl rfl rfl (s_X8_finds _) ?_
                  refine xw_ireti dX8_copy_106 rfl ?_
                  first | exact ⟨rfl, rfl⟩ | exact ⟨by simp_all, rfl⟩ | grind [XE]
                · refine xw_iload dX8_copy_74 rfl ?_
                  refine xw_aload_n dX8_copy_76 rfl ?_
                  refine xw_getR dX8_copy_77 fl_X8_13 rfl rfl ?_
                  refine xw_iload_n dX8_copy_80 rfl ?_
                  refine xw_ialN _ dX8_copy_81 rfl (rfl) (hs) rfl ?_ ?_
                  · omega
                  refine xw_iload_n dX8_copy_82 rfl ?_
                  refine xw_isub dX8_copy_83 ?_
                  refine xw_icmp_gt (tgt := 101) dX8_copy_84 (by decide) (fun c84 => ?_) (fun c84 => ?_)
                  · refine xw_aload_n dX8_copy_101 rfl ?_
                    refine xw_iconst (v := 2) dX8_copy_102 (by decide) ?_
                    refine xw_cV1E dX8_copy_103 okX8_finds ml_X8_65 rfl rfl rfl rfl (s_X8_finds _) ?_
                    refine xw_ireti dX8_copy_106 rfl ?_
                    first | exact ⟨rfl, rfl⟩ | exact ⟨by simp_all, rfl⟩ | grind [XE]
                  · refine xw_iload dX8_copy_87 rfl ?_
                    refine xw_aload_n dX8_copy_89 rfl ?_
                    refine xw_getR dX8_copy_90 fl_X8_13 rfl rfl ?_
                    refine xw_iload_n dX8_copy_93 rfl ?_
                    refine xw_ialN _ dX8_copy_94 rfl (rfl) (ht) rfl ?_ ?_
                    · omega
                    refine xw_iload dX8_copy_95 rfl ?_
                    refine xw_isub dX8_copy_97 ?_
                    refine xw_icmp_le (tgt := 107) dX8_copy_98 (by decide) (fun c98 => ?_) (fun c98 => ?_)
                    · exfalso; first | contradiction | (have e0 := nI_lt8 ha; have e1 := nI_lt8 hb; grind) | (have e0 := pl_two i n hs2 c61 c71; have e1 := pl_two j n ht2 c66 c71; grind)
                    · refine xw_aload_n dX8_copy_101 rfl ?_
                      refine xw_iconst (v := 2) dX8_copy_102 (by decide) ?_
                      refine xw_cV1E dX8_copy_103 okX8_finds ml_X8_65 rfl rfl rfl rfl (s_X8_finds _) ?_
                      refine xw_ireti dX8_copy_106 rfl ?_
                      first | exact ⟨rfl, rfl⟩ | exact ⟨by simp_all, rfl⟩ | grind [XE]
          · exfalso; first | contradiction | (have e0 := nI_lt8 ha; have e1 := nI_lt8 hb; grind) | (have e0 := pl_two i n hs2 c61 c71; have e1 := pl_two j n ht2 c66 c71; grind)
    · exfalso; first | contradiction | (have e0 := nI_lt8 ha; have e1 := nI_lt8 hb; grind) | (have e0 := pl_two i n hs2 c61 c71; have e1 := pl_two j n ht2 c66 c71; grind)
  · exfalso; first | contradiction | (have e0 := nI_lt8 ha; have e1 := nI_lt8 hb; grind) | (have e0 := pl_two i n hs2 c61 c71; have e1 := pl_two j n ht2 c66 c71; grind)
set_option maxRecDepth 20000 in
theorem k_X7_copy_ok {a b i j n : Nat} (ha : a < 8) (hb : b < 8) {s t : Nat} (h0 : ¬ M.1 2 a = -1) (h1 : ¬ M.1 2 b = -1) (h2 : M.1 2 a = M.1 2 b) (hs : M.1 3 a = nI s) (ht : M.1 3 b = nI t) (hs2 : s ≤ 40) (ht2 : t ≤ 40) (h3 : i + n ≤ s) (h4 : j + n ≤ t) : XC g l mX7_copy (d + 2) [xr 0, xi (nI a), xi (nI i), xi (nI b), xi (nI j), xi (nI n)] M (XE (some (xi (nI n))) (xup (xum M 4 (va_cpy (M.1 4) (M.1 4) (a * 40 + i) (b * 40 + j) n)) 0 7 0)) := by
  show XW g l mX7_copy _ 0 [some (xr 0), some (xi (nI a)), some (xi (nI i)), some (xi (nI b)), some (xi (nI j)), some (xi (nI n))] [] M _
  have h : ((0 : Int32) ≤ nI i ∧ (0 : Int32) ≤ nI n ∧ (nI i).toInt + (nI n).toInt ≤ (s : Int)) ∧ (0 : Int32) ≤ nI j ∧ (0 : Int32) ≤ nI n ∧ (nI j).toInt + (nI n).toInt ≤ (t : Int) := ⟨pl_nat (by omega) (by omega) h3, pl_nat (by omega) (by omega) h4⟩
  refine xw_aload_n dX7_copy_0 rfl ?_
  refine xw_getR dX7_copy_1 fl_X7_10 rfl rfl ?_
  refine xw_iload_n dX7_copy_4 rfl ?_
  refine xw_cV1B dX7_copy_5 okX6_isNumber ml_X7_59 rfl rfl rfl rfl (s_X6_isNumber _) (fun p5 => ?_) (fun p5 => ?_)
  · refine xw_if_eq (tgt := 22) dX7_copy_8 (by decide) (fun q9 => absurd q9 (by decide)) (fun _ => ?_)
    refine xw_aload_n dX7_copy_11 rfl ?_
    refine xw_getR dX7_copy_12 fl_X7_10 rfl rfl ?_
    refine xw_iload_n dX7_copy_15 rfl ?_
    refine xw_cV1B dX7_copy_16 okX6_isNumber ml_X7_59 rfl rfl rfl rfl (s_X6_isNumber _) (fun p16 => ?_) (fun p16 => ?_)
    · refine xw_if_ne (tgt := 25) dX7_copy_19 (by decide) (fun _ => ?_) (fun q9 => absurd q9 (by decide))
      refine xw_aload_n dX7_copy_25 rfl ?_
      refine xw_getR dX7_copy_26 fl_X7_10 rfl rfl ?_
      refine xw_iload_n dX7_copy_29 rfl ?_
      refine xw_cV1B dX7_copy_30 okX6_isMissing ml_X7_78 rfl rfl rfl rfl (s_X6_isMissing (by first | assumption | omega)) (fun p30 => ?_) (fun p30 => ?_)
      · exfalso; first | contradiction | exact absurd h.1 (by assumption) | exact absurd h.2 (by assumption) | (have e0 := nI_lt8 ha; have e1 := nI_lt8 hb; grind)
      · refine xw_if_ne (tgt := 47) dX7_copy_33 (by decide) (fun q9 => absurd q9 (by decide)) (fun _ => ?_)
        refine xw_aload_n dX7_copy_36 rfl ?_
        refine xw_getR dX7_copy_37 fl_X7_10 rfl rfl ?_
        refine xw_iload_n dX7_copy_40 rfl ?_
        refine xw_cV1B dX7_copy_41 okX6_isMissing ml_X7_78 rfl rfl rfl rfl (s_X6_isMissing (by first | assumption | omega)) (fun p41 => ?_) (fun p41 => ?_)
        · exfalso; first | contradiction | exact absurd h.1 (by assumption) | exact absurd h.2 (by assumption) | (have e0 := nI_lt8 ha; have e1 := nI_lt8 hb; grind)
        · refine xw_if_eq (tgt := 53) dX7_copy_44 (by decide) (fun _ => ?_) (fun q9 => absurd q9 (by decide))
          refine xw_aload_n dX7_copy_53 rfl ?_
          refine xw_getR dX7_copy_54 fl_X7_10 rfl rfl ?_
          refine xw_iload_n dX7_copy_57 rfl ?_
          refine xw_cV1E dX7_copy_58 okX6_laneOf ml_X7_89 rfl rfl rfl rfl (s_X6_laneOf (by first | assumption | omega)) ?_
          refine xw_aload_n dX7_copy_61 rfl ?_
          refine xw_getR dX7_copy_62 fl_X7_10 rfl rfl ?_
          refine xw_iload_n dX7_copy_65 rfl ?_
          refine xw_cV1E dX7_copy_66 okX6_laneOf ml_X7_89 rfl rfl rfl rfl (s_X6_laneOf (by first | assumption | omega)) ?_
          refine xw_icmp_eq (tgt := 78) dX7_copy_69 (by decide) (fun c69 => ?_) (fun c69 => ?_)
          · refine xw_aload_n dX7_copy_78 rfl ?_
            refine xw_getR dX7_copy_79 fl_X7_10 rfl rfl ?_
            refine xw_iload_n dX7_copy_82 rfl ?_
            refine xw_iload_n dX7_copy_83 rfl ?_
            refine xw_iload dX7_copy_84 rfl ?_
            refine xw_cV3B dX7_copy_86 okX6_hasPlaces ml_X7_81 rfl rfl rfl rfl (s_X6_hasPlaces _ _ ha hs hs2) (fun p86 => ?_) (fun p86 => ?_)
            · refine xw_if_eq (tgt := 107) dX7_copy_89 (by decide) (fun q9 => absurd q9 (by decide)) (fun _ => ?_)
              refine xw_aload_n dX7_copy_92 rfl ?_
              refine xw_getR dX7_copy_93 fl_X7_10 rfl rfl ?_
              refine xw_iload_n dX7_copy_96 rfl ?_
              refine xw_iload dX7_copy_97 rfl ?_
              refine xw_iload dX7_copy_99 rfl ?_
              refine xw_cV3B dX7_copy_101 okX6_hasPlaces ml_X7_81 rfl rfl rfl rfl (s_X6_hasPlaces _ _ hb ht ht2) (fun p101 => ?_) (fun p101 => ?_)
              · refine xw_if_ne (tgt := 113) dX7_copy_104 (by decide) (fun _ => ?_) (fun q9 => absurd q9 (by decide))
                refine xw_aload_n dX7_copy_113 rfl ?_
                refine xw_getR dX7_copy_114 fl_X7_10 rfl rfl ?_
                refine xw_iload_n dX7_copy_117 rfl ?_
                refine xw_iload_n dX7_copy_118 rfl ?_
                refine xw_iload_n dX7_copy_119 rfl ?_
                refine xw_iload dX7_copy_120 rfl ?_
                refine xw_iload dX7_copy_122 rfl ?_
                refine xw_cV5N dX7_copy_124 okX6_move ml_X7_92 rfl rfl rfl rfl (s_X6_move (by omega) (by omega)) ?_
                refine xw_aload_n dX7_copy_127 rfl ?_
                refine xw_iload dX7_copy_128 rfl ?_
                refine xw_cV1E dX7_copy_130 okX7_answered ml_X7_75 rfl rfl rfl rfl (s_X7_answered _) ?_
                refine xw_ireti dX7_copy_133 rfl ?_
                first | exact ⟨rfl, rfl⟩ | exact ⟨by simp_all, rfl⟩ | grind [XE]
              · exfalso; first | contradiction | exact absurd h.1 (by assumption) | exact absurd h.2 (by assumption) | (have e0 := nI_lt8 ha; have e1 := nI_lt8 hb; grind)
            · exfalso; first | contradiction | exact absurd h.1 (by assumption) | exact absurd h.2 (by assumption) | (have e0 := nI_lt8 ha; have e1 := nI_lt8 hb; grind)
          · exfalso; first | contradiction | exact absurd h.1 (by assumption) | exact absurd h.2 (by assumption) | (have e0 := nI_lt8 ha; have e1 := nI_lt8 hb; grind)
    · exfalso; first | contradiction | exact absurd h.1 (by assumption) | exact absurd h.2 (by assumption) | (have e0 := nI_lt8 ha; have e1 := nI_lt8 hb; grind)
  · exfalso; first | contradiction | exact absurd h.1 (by assumption) | exact absurd h.2 (by assumption) | (have e0 := nI_lt8 ha; have e1 := nI_lt8 hb; grind)
def fin52 (M : XM) (B n k : Nat) : XM := xup (xum M 52 (fun x => if B + k ≤ x ∧ x < B + n then M.1 61 (x - B) else M.1 52 x)) 49 3 0
def fin61 (M : XM) (A n k : Nat) : XM := xum M 61 (fun q => if k ≤ q ∧ q < n then M.1 52 (A + q) else M.1 61 q)
set_option maxRecDepth 20000 in
theorem lp2_X8_copy {a b i j n : Nat} (h1 : 40 * a + i + n ≤ 320) (h2 : 40 * b + j + n ≤ 320) (hn : n ≤ 40) : ∀ (q k : Nat) (M : XM), k + q = n → XW g l mX8_copy (d + 1) 147 [some (xr 49), some (xi (nI a)), some (xi (nI i)), some (xi (nI b)), some (xi (nI j)), some (xi (nI n)), some (xi (nI k))] [] M (XE (some (xi (nI n))) (fin52 M (40 * b + j) n k)) := by
  intro q
  induction q with
  | zero =>
    intro k M hk
    unfold fin52
    rw [cp_f0 M 52 _ _ (fun x => M.1 61 (x - (40 * b + j))) (by omega)]
    refine xw_iload dX8_copy_147 rfl ?_
    refine xw_iload dX8_copy_149 rfl ?_
    refine xw_icmp_geN (tgt := 182) dX8_copy_151 (by decide) (by omega) (fun c151 => ?_) (fun c151 => ?_)
    · refine xw_aload_n dX8_copy_182 rfl ?_
      refine xw_iload dX8_copy_183 rfl ?_
      refine xw_cV1E dX8_copy_185 okX8_did ml_X8_69 rfl rfl rfl rfl (s_X8_did _) ?_
      refine xw_ireti dX8_copy_188 rfl ?_
      first | exact ⟨rfl, rfl⟩ | exact ⟨by simp_all, rfl⟩ | grind [XE]
    · exfalso; first | contradiction | omega | grind | simp_all
  | succ q ih =>
    intro k M hk
    refine xw_iload dX8_copy_147 rfl ?_
    refine xw_iload dX8_copy_149 rfl ?_
    refine xw_icmp_geN (tgt := 182) dX8_copy_151 (by decide) (by omega) (fun c151 => ?_) (fun c151 => ?_)
    · exfalso; first | contradiction | omega | grind | simp_all
    · refine xw_aload_n dX8_copy_154 rfl ?_
      refine xw_getR dX8_copy_155 fl_X8_16 rfl rfl ?_
      refine xw_bipush (v := 40) dX8_copy_158 (by decide) ?_
      refine xw_iload_n dX8_copy_160 rfl ?_
      refine xw_imulN (a := 40) dX8_copy_161 ?_
      refine xw_iload dX8_copy_162 rfl ?_
      refine xw_iaddN dX8_copy_164 ?_
      refine xw_iload dX8_copy_165 rfl ?_
      refine xw_iaddN dX8_copy_167 ?_
      refine xw_aload_n dX8_copy_168 rfl ?_
      refine xw_getR dX8_copy_169 fl_X8_44 rfl rfl ?_
      refine xw_iload dX8_copy_172 rfl ?_
      refine xw_ialN _ dX8_copy_174 rfl (rfl) (rfl) rfl ?_ ?_
      · omega
      refine xw_iasN _ dX8_copy_175 rfl (rfl) rfl ?_ ?_
      · omega
      refine xw_iincN (v := 1) dX8_copy_176 (by decide) rfl rfl rfl ?_
      refine xw_goto (tgt := 147) dX8_copy_179 (by decide) ?_
      refine (ih (k + 1) _ (by omega)).eqv ?_
      unfold fin52
      congr 1
      refine Eq.trans ?_ (cp_f1 M 52 (40 * b + j + k) _ (fun x => M.1 61 (x - (40 * b + j))) (fun x => M.1 61 (x - (40 * b + j))) (by omega) (fun _ _ _ => rfl))
      show xum (xup M 52 (40 * b + j + k) (M.1 61 k)) 52 _ = _
      rw [show 40 * b + j + k - (40 * b + j) = k by omega]
      rfl
set_option maxRecDepth 20000 in
theorem lp1_X8_copy {a b i j n : Nat} (h1 : 40 * a + i + n ≤ 320) (h2 : 40 * b + j + n ≤ 320) (hn : n ≤ 40) : ∀ (q k : Nat) (M : XM), k + q = n → XW g l mX8_copy (d + 1) 110 [some (xr 49), some (xi (nI a)), some (xi (nI i)), some (xi (nI b)), some (xi (nI j)), some (xi (nI n)), some (xi (nI k))] [] M (XE (some (xi (nI n))) (fin52 (fin61 M (40 * a + i) n k) (40 * b + j) n 0)) := by
  intro q
  induction q with
  | zero =>
    intro k M hk
    unfold fin61
    rw [cp_f0 M 61 _ _ (fun x => M.1 52 (40 * a + i + x)) (by omega)]
    refine xw_iload dX8_copy_110 rfl ?_
    refine xw_iload dX8_copy_112 rfl ?_
    refine xw_icmp_geN (tgt := 144) dX8_copy_114 (by decide) (by omega) (fun c114 => ?_) (fun c114 => ?_)
    · refine xw_iconst (v := 0) dX8_copy_144 (by decide) ?_
      refine xw_istore dX8_copy_145 rfl rfl ?_
      exact lp2_X8_copy h1 h2 hn n 0 M (by omega)
    · exfalso; first | contradiction | omega | grind | simp_all
  | succ q ih =>
    intro k M hk
    refine xw_iload dX8_copy_110 rfl ?_
    refine xw_iload dX8_copy_112 rfl ?_
    refine xw_icmp_geN (tgt := 144) dX8_copy_114 (by decide) (by omega) (fun c114 => ?_) (fun c114 => ?_)
    · exfalso; first | contradiction | omega | grind | simp_all
    · refine xw_aload_n dX8_copy_117 rfl ?_
      refine xw_getR dX8_copy_118 fl_X8_44 rfl rfl ?_
      refine xw_iload dX8_copy_121 rfl ?_
      refine xw_aload_n dX8_copy_123 rfl ?_
      refine xw_getR dX8_copy_124 fl_X8_16 rfl rfl ?_
      refine xw_bipush (v := 40) dX8_copy_127 (by decide) ?_
      refine xw_iload_n dX8_copy_129 rfl ?_
      refine xw_imulN (a := 40) dX8_copy_130 ?_
      refine xw_iload_n dX8_copy_131 rfl ?_
      refine xw_iaddN dX8_copy_132 ?_
      refine xw_iload dX8_copy_133 rfl ?_
      refine xw_iaddN dX8_copy_135 ?_
      refine xw_ialN _ dX8_copy_136 rfl (rfl) (rfl) rfl ?_ ?_
      · omega
      refine xw_iasN _ dX8_copy_137 rfl (rfl) rfl ?_ ?_
      · omega
      refine xw_iincN (v := 1) dX8_copy_138 (by decide) rfl rfl rfl ?_
      refine xw_goto (tgt := 110) dX8_copy_141 (by decide) ?_
      refine (ih (k + 1) _ (by omega)).eqv ?_
      congr 1
      exact cp_f1 M 61 k n (fun x => M.1 52 (40 * a + i + x)) (fun x => (xup M 61 k (M.1 52 (40 * a + i + k))).1 52 (40 * a + i + x)) (by omega) (fun _ _ _ => xup_cell _ _ (by decide))
set_option maxRecDepth 20000 in
theorem k_X8_copy_ok {a b i j n : Nat} (ha : a < 8) (hb : b < 8) {s t : Nat} (h0 : ¬ M.1 50 a = -1000000) (h1 : ¬ M.1 50 b = -1000000) (h2 : M.1 50 a = M.1 50 b) (hs : M.1 51 a = nI s) (ht : M.1 51 b = nI t) (hs2 : s ≤ 40) (ht2 : t ≤ 40) (h3 : i + n ≤ s) (h4 : j + n ≤ t) : XC g l mX8_copy (d + 2) [xr 49, xi (nI a), xi (nI i), xi (nI b), xi (nI j), xi (nI n)] M (XE (some (xi (nI n))) (fin52 (fin61 M (40 * a + i) n 0) (40 * b + j) n 0)) := by
  show XW g l mX8_copy _ 0 [some (xr 49), some (xi (nI a)), some (xi (nI i)), some (xi (nI b)), some (xi (nI j)), some (xi (nI n)), none] [] M _
  refine xw_iload_n dX8_copy_0 rfl ?_
  refine xw_cS1B dX8_copy_1 okX8_isRow ml_X8_60 rfl rfl (s_X8_isRow _) (fun p1 => ?_) (fun p1 => ?_)
  · refine xw_if_eq (tgt := 14) dX8_copy_4 (by decide) (fun q9 => absurd q9 (by decide)) (fun _ => ?_)
    refine xw_iload_n dX8_copy_7 rfl ?_
    refine xw_cS1B dX8_copy_8 okX8_isRow ml_X8_60 rfl rfl (s_X8_isRow _) (fun p8 => ?_) (fun p8 => ?_)
    · refine xw_if_ne (tgt := 17) dX8_copy_11 (by decide) (fun _ => ?_) (fun q9 => absurd q9 (by decide))
      refine xw_aload_n dX8_copy_17 rfl ?_
      refine xw_iload_n dX8_copy_18 rfl ?_
      refine xw_cV1B dX8_copy_19 okX8_isMissing ml_X8_72 rfl rfl rfl rfl (s_X8_isMissing (by first | assumption | omega)) (fun p19 => ?_) (fun p19 => ?_)
      · exfalso; first | contradiction | omega | (have e0 := nI_lt8 ha; have e1 := nI_lt8 hb; grind)
      · refine xw_if_ne (tgt := 33) dX8_copy_22 (by decide) (fun q9 => absurd q9 (by decide)) (fun _ => ?_)
        refine xw_aload_n dX8_copy_25 rfl ?_
        refine xw_iload_n dX8_copy_26 rfl ?_
        refine xw_cV1B dX8_copy_27 okX8_isMissing ml_X8_72 rfl rfl rfl rfl (s_X8_isMissing (by first | assumption | omega)) (fun p27 => ?_) (fun p27 => ?_)
        · exfalso; first | contradiction | omega | (have e0 := nI_lt8 ha; have e1 := nI_lt8 hb; grind)
        · refine xw_if_eq (tgt := 39) dX8_copy_30 (by decide) (fun _ => ?_) (fun q9 => absurd q9 (by decide))
          refine xw_aload_n dX8_copy_39 rfl ?_
          refine xw_getR dX8_copy_40 fl_X8_7 rfl rfl ?_
          refine xw_iload_n dX8_copy_43 rfl ?_
          refine xw_ialN _ dX8_copy_44 rfl (rfl) (rfl) rfl ?_ ?_
          · omega
          refine xw_aload_n dX8_copy_45 rfl ?_
          refine xw_getR dX8_copy_46 fl_X8_7 rfl rfl ?_
          refine xw_iload_n dX8_copy_49 rfl ?_
          refine xw_ialN _ dX8_copy_50 rfl (rfl) (rfl) rfl ?_ ?_
          · omega
          refine xw_icmp_eq (tgt := 60) dX8_copy_51 (by decide) (fun c51 => ?_) (fun c51 => ?_)
          · refine xw_iload_n dX8_copy_60 rfl ?_
            refine xw_if_ltN (tgt := 101) dX8_copy_61 (by decide) (by omega) ?_
            refine xw_iload dX8_copy_64 rfl ?_
            refine xw_if_ltN (tgt := 101) dX8_copy_66 (by decide) (by omega) ?_
            refine xw_iload dX8_copy_69 rfl ?_
            refine xw_if_ltN (tgt := 101) dX8_copy_71 (by decide) (by omega) ?_
            refine xw_iload dX8_copy_74 rfl ?_
            refine xw_aload_n dX8_copy_76 rfl ?_
            refine xw_getR dX8_copy_77 fl_X8_13 rfl rfl ?_
            refine xw_iload_n dX8_copy_80 rfl ?_
            refine xw_ialN _ dX8_copy_81 rfl (rfl) (hs) rfl ?_ ?_
            · omega
            refine xw_iload_n dX8_copy_82 rfl ?_
            refine xw_isubN dX8_copy_83 ?_ ?_
            · omega
            refine xw_icmp_gtN (tgt := 101) dX8_copy_84 (by decide) (by omega) (fun c84 => ?_) (fun c84 => ?_)
            · exfalso; first | contradiction | omega | (have e0 := nI_lt8 ha; have e1 := nI_lt8 hb; grind)
            · refine xw_iload dX8_copy_87 rfl ?_
              refine xw_aload_n dX8_copy_89 rfl ?_
              refine xw_getR dX8_copy_90 fl_X8_13 rfl rfl ?_
              refine xw_iload_n dX8_copy_93 rfl ?_
              refine xw_ialN _ dX8_copy_94 rfl (rfl) (ht) rfl ?_ ?_
              · omega
              refine xw_iload dX8_copy_95 rfl ?_
              refine xw_isubN dX8_copy_97 ?_ ?_
              · omega
              refine xw_icmp_leN (tgt := 107) dX8_copy_98 (by decide) (by omega) (fun c98 => ?_) (fun c98 => ?_)
              · refine xw_iconst (v := 0) dX8_copy_107 (by decide) ?_
                refine xw_istore dX8_copy_108 rfl rfl ?_
                exact lp1_X8_copy (by omega) (by omega) (by omega) n 0 M (by omega)
              · exfalso; first | contradiction | omega | (have e0 := nI_lt8 ha; have e1 := nI_lt8 hb; grind)
          · exfalso; first | contradiction | omega | (have e0 := nI_lt8 ha; have e1 := nI_lt8 hb; grind)
    · exfalso; first | contradiction | omega | (have e0 := nI_lt8 ha; have e1 := nI_lt8 hb; grind)
  · exfalso; first | contradiction | omega | (have e0 := nI_lt8 ha; have e1 := nI_lt8 hb; grind)
set_option maxRecDepth 20000 in
theorem k_X7_status  : XC g l mX7_status (d + 2) [xr 0] M (XE (some (xi (M.1 0 7))) (M)) := by
  show XW g l mX7_status _ 0 [some (xr 0)] [] M _
  refine xw_aload_n dX7_status_0 rfl ?_
  refine xw_getI dX7_status_1 fl_X7_55 rfl rfl ?_
  refine xw_ireti dX7_status_4 rfl ?_
  first | exact ⟨rfl, rfl⟩ | exact ⟨by simp_all, rfl⟩ | grind [XE]
set_option maxRecDepth 20000 in
theorem k_X8_status  : XC g l mX8_status (d + 2) [xr 49] M (XE (some (xi (M.1 49 3))) (M)) := by
  show XW g l mX8_status _ 0 [some (xr 49)] [] M _
  refine xw_aload_n dX8_status_0 rfl ?_
  refine xw_getI dX8_status_1 fl_X8_51 rfl rfl ?_
  refine xw_ireti dX8_status_4 rfl ?_
  first | exact ⟨rfl, rfl⟩ | exact ⟨by simp_all, rfl⟩ | grind [XE]
set_option maxRecDepth 20000 in
theorem s_X5_faultNumber  : XC g l mX5_faultNumber d [xr 5] M (XE (some (xi (M.1 5 3))) M) := by
  show XW g l mX5_faultNumber _ 0 [some (xr 5)] [] M _
  refine xw_aload_n dX5_faultNumber_0 rfl ?_
  refine xw_getI dX5_faultNumber_1 fl_X5_26 rfl rfl ?_
  refine xw_ireti dX5_faultNumber_4 rfl ?_
  first | exact ⟨rfl, rfl⟩ | exact ⟨by simp_all, rfl⟩ | grind [XE]
set_option maxRecDepth 20000 in
theorem s_X5_length  : XC g l mX5_length d [xr 5] M (XE (some (xi (M.1 5 1))) M) := by
  show XW g l mX5_length _ 0 [some (xr 5)] [] M _
  refine xw_aload_n dX5_length_0 rfl ?_
  refine xw_getI dX5_length_1 fl_X5_15 rfl rfl ?_
  refine xw_ireti dX5_length_4 rfl ?_
  first | exact ⟨rfl, rfl⟩ | exact ⟨by simp_all, rfl⟩ | grind [XE]
set_option maxRecDepth 20000 in
theorem s_X3_size  : XC g l mX3_size d [xr 40] M (XE (some (xi (M.1 40 3))) M) := by
  show XW g l mX3_size _ 0 [some (xr 40)] [] M _
  refine xw_aload_n dX3_size_0 rfl ?_
  refine xw_getI dX3_size_1 fl_X3_20 rfl rfl ?_
  refine xw_ireti dX3_size_4 rfl ?_
  first | exact ⟨rfl, rfl⟩ | exact ⟨by simp_all, rfl⟩ | grind [XE]
set_option maxRecDepth 20000 in
theorem s_X3_forgetAll  : XC g l mX3_forgetAll d [xr 40] M (XE none (xup M 40 3 0)) := by
  show XW g l mX3_forgetAll _ 0 [some (xr 40)] [] M _
  refine xw_aload_n dX3_forgetAll_0 rfl ?_
  refine xw_iconst (v := 0) dX3_forgetAll_1 (by decide) ?_
  refine xw_putI dX3_forgetAll_2 fp_X3_20 rfl rfl ?_
  refine xw_ret dX3_forgetAll_5 rfl ?_
  first | exact ⟨rfl, rfl⟩ | exact ⟨rfl, by simp_all⟩
set_option maxRecDepth 20000 in
theorem k_X7_fault  : XC g l mX7_fault (d + 2) [xr 0] M (XE (some (xi (M.1 5 3))) (M)) := by
  show XW g l mX7_fault _ 0 [some (xr 0)] [] M _
  refine xw_aload_n dX7_fault_0 rfl ?_
  refine xw_getR dX7_fault_1 fl_X7_19 rfl rfl ?_
  refine xw_cV0E dX7_fault_4 okX5_faultNumber ml_X7_130 rfl rfl rfl rfl (s_X5_faultNumber) ?_
  refine xw_ireti dX7_fault_7 rfl ?_
  first | exact ⟨rfl, rfl⟩ | exact ⟨by simp_all, rfl⟩ | grind [XE]
set_option maxRecDepth 20000 in
theorem k_X8_fault  : XC g l mX8_fault (d + 2) [xr 49] M (XE (some (xi (M.1 49 11))) (M)) := by
  show XW g l mX8_fault _ 0 [some (xr 49)] [] M _
  refine xw_aload_n dX8_fault_0 rfl ?_
  refine xw_getI dX8_fault_1 fl_X8_177 rfl rfl ?_
  refine xw_ireti dX8_fault_4 rfl ?_
  first | exact ⟨rfl, rfl⟩ | exact ⟨by simp_all, rfl⟩ | grind [XE]
set_option maxRecDepth 20000 in
theorem s_X0_traced_no {i : Int32} (h : ¬ (0 ≤ i ∧ i < M.1 47 1)) : XC g l mX0_traced d [xr 47, xi i] M (XE (some (xi (-1000000))) M) := by
  show XW g l mX0_traced _ 0 [some (xr 47), some (xi i)] [] M _
  refine xw_iload_n dX0_traced_0 rfl ?_
  refine xw_if_lt (tgt := 21) dX0_traced_1 (by decide) (fun c1 => ?_) (fun c1 => ?_)
  · refine xw_ldc dX0_traced_21 kc_X0_23 ?_
    refine xw_ireti dX0_traced_23 rfl ?_
    first | exact ⟨rfl, rfl⟩ | exact ⟨by simp_all, rfl⟩ | grind [XE]
  · refine xw_iload_n dX0_traced_4 rfl ?_
    refine xw_aload_n dX0_traced_5 rfl ?_
    refine xw_getI dX0_traced_6 fl_X0_15 rfl rfl ?_
    refine xw_icmp_ge (tgt := 21) dX0_traced_9 (by decide) (fun c9 => ?_) (fun c9 => ?_)
    · refine xw_ldc dX0_traced_21 kc_X0_23 ?_
      refine xw_ireti dX0_traced_23 rfl ?_
      first | exact ⟨rfl, rfl⟩ | exact ⟨by simp_all, rfl⟩ | grind [XE]
    · exfalso; first | contradiction | omega | grind | simp_all
set_option maxRecDepth 20000 in
theorem s_X0_traced_ok {i n : Nat} (hn : M.1 47 1 = nI n) (h2 : n ≤ 16) (h : i < n) : XC g l mX0_traced d [xr 47, xi (nI i)] M (XE (some (xi (M.1 48 i))) M) := by
  show XW g l mX0_traced _ 0 [some (xr 47), some (xi (nI i))] [] M _
  refine xw_iload_n dX0_traced_0 rfl ?_
  refine xw_if_ltN (tgt := 21) dX0_traced_1 (by decide) (by omega) ?_
  refine xw_iload_n dX0_traced_4 rfl ?_
  refine xw_aload_n dX0_traced_5 rfl ?_
  refine xw_getV dX0_traced_6 fl_X0_15 rfl rfl (hn) ?_
  refine xw_icmp_geN (tgt := 21) dX0_traced_9 (by decide) (by omega) (fun c9 => ?_) (fun c9 => ?_)
  · exfalso; first | contradiction | omega | grind | simp_all
  · refine xw_aload_n dX0_traced_12 rfl ?_
    refine xw_getR dX0_traced_13 fl_X0_11 rfl rfl ?_
    refine xw_iload_n dX0_traced_16 rfl ?_
    refine xw_ialN _ dX0_traced_17 rfl (rfl) (rfl) rfl ?_ ?_
    · omega
    refine xw_goto (tgt := 23) dX0_traced_18 (by decide) ?_
    refine xw_ireti dX0_traced_23 rfl ?_
    first | exact ⟨rfl, rfl⟩ | exact ⟨by simp_all, rfl⟩ | grind [XE]
set_option maxRecDepth 20000 in
theorem k_X7_trace_no {i : Int32} (h : ¬ (0 ≤ i ∧ i < M.1 47 1)) : XC g l mX7_trace (d + 2) [xr 0, xi i] M (XE (some (xi (-1000000))) (M)) := by
  show XW g l mX7_trace _ 0 [some (xr 0), some (xi i)] [] M _
  refine xw_aload_n dX7_trace_0 rfl ?_
  refine xw_getR dX7_trace_1 fl_X7_51 rfl rfl ?_
  refine xw_iload_n dX7_trace_4 rfl ?_
  refine xw_cV1E dX7_trace_5 okX0_traced ml_X7_236 rfl rfl rfl rfl (s_X0_traced_no h) ?_
  refine xw_ireti dX7_trace_8 rfl ?_
  first | exact ⟨rfl, rfl⟩ | exact ⟨by simp_all, rfl⟩ | grind [XE]
set_option maxRecDepth 20000 in
theorem k_X7_trace_ok {i n : Nat} (hn : M.1 47 1 = nI n) (h2 : n ≤ 16) (h : i < n) : XC g l mX7_trace (d + 2) [xr 0, xi (nI i)] M (XE (some (xi (M.1 48 i))) (M)) := by
  show XW g l mX7_trace _ 0 [some (xr 0), some (xi (nI i))] [] M _
  refine xw_aload_n dX7_trace_0 rfl ?_
  refine xw_getR dX7_trace_1 fl_X7_51 rfl rfl ?_
  refine xw_iload_n dX7_trace_4 rfl ?_
  refine xw_cV1E dX7_trace_5 okX0_traced ml_X7_236 rfl rfl rfl rfl (s_X0_traced_ok hn h2 h) ?_
  refine xw_ireti dX7_trace_8 rfl ?_
  first | exact ⟨rfl, rfl⟩ | exact ⟨by simp_all, rfl⟩ | grind [XE]
theorem pl_sub1 (i : Int32) {s : Nat} (h : s ≤ 1000) : (0 ≤ i ∧ i ≤ nI s - 1) ↔ (0 ≤ i ∧ i < nI s) := by
  have e0 : 0 ≤ nI s := nI_pos' (by omega)
  grind
theorem nI_in0 {i n : Nat} (hn : n ≤ 1000) (h : i < n) : 0 ≤ nI i ∧ nI i < nI n := ⟨nI_pos' (by omega), nI_lt h (by omega)⟩
set_option maxRecDepth 20000 in
theorem k_X8_trace_no {i : Int32} {n : Nat} (hn : M.1 49 20 = nI n) (h2 : n ≤ 16) (h : ¬ (0 ≤ i ∧ i < nI n)) : XC g l mX8_trace (d + 2) [xr 49, xi i] M (XE (some (xi (-1000000))) (M)) := by
  show XW g l mX8_trace _ 0 [some (xr 49), some (xi i)] [] M _
  refine xw_iload_n dX8_trace_0 rfl ?_
  refine xw_iconst (v := 0) dX8_trace_1 (by decide) ?_
  refine xw_aload_n dX8_trace_2 rfl ?_
  refine xw_getV dX8_trace_3 fl_X8_252 rfl rfl (hn) ?_
  refine xw_iconst (v := 1) dX8_trace_6 (by decide) ?_
  refine xw_isub dX8_trace_7 ?_
  refine xw_cS3B dX8_trace_8 okX8_in ml_X8_56 rfl rfl (s_X8_in _ _ _) (fun p8 => ?_) (fun p8 => ?_)
  · exact absurd ((pl_sub1 i (by omega)).mp p8) h
  · refine xw_if_eq (tgt := 23) dX8_trace_11 (by decide) (fun _ => ?_) (fun q9 => absurd q9 (by decide))
    refine xw_ldc dX8_trace_23 kc_X8_50 ?_
    refine xw_ireti dX8_trace_25 rfl ?_
    first | exact ⟨rfl, rfl⟩ | exact ⟨by simp_all, rfl⟩ | grind [XE]
set_option maxRecDepth 20000 in
theorem k_X8_trace_ok {i n : Nat} (hn : M.1 49 20 = nI n) (h2 : n ≤ 16) (h : i < n) : XC g l mX8_trace (d + 2) [xr 49, xi (nI i)] M (XE (some (xi (M.1 60 i))) (M)) := by
  show XW g l mX8_trace _ 0 [some (xr 49), some (xi (nI i))] [] M _
  refine xw_iload_n dX8_trace_0 rfl ?_
  refine xw_iconst (v := 0) dX8_trace_1 (by decide) ?_
  refine xw_aload_n dX8_trace_2 rfl ?_
  refine xw_getV dX8_trace_3 fl_X8_252 rfl rfl (hn) ?_
  refine xw_iconst (v := 1) dX8_trace_6 (by decide) ?_
  refine xw_isub dX8_trace_7 ?_
  refine xw_cS3B dX8_trace_8 okX8_in ml_X8_56 rfl rfl (s_X8_in _ _ _) (fun p8 => ?_) (fun p8 => ?_)
  · refine xw_if_eq (tgt := 23) dX8_trace_11 (by decide) (fun q9 => absurd q9 (by decide)) (fun _ => ?_)
    refine xw_aload_n dX8_trace_14 rfl ?_
    refine xw_getR dX8_trace_15 fl_X8_41 rfl rfl ?_
    refine xw_iload_n dX8_trace_18 rfl ?_
    refine xw_ialN _ dX8_trace_19 rfl (rfl) (rfl) rfl ?_ ?_
    · omega
    refine xw_goto (tgt := 25) dX8_trace_20 (by decide) ?_
    refine xw_ireti dX8_trace_25 rfl ?_
    first | exact ⟨rfl, rfl⟩ | exact ⟨by simp_all, rfl⟩ | grind [XE]
  · exact absurd ((pl_sub1 _ (by omega)).mpr (nI_in0 (by omega) h)) p8
set_option maxRecDepth 20000 in
theorem s_X1_isThere {f : Nat} (hF : XF f) : XC g l mX1_isThere d [xr f] M (XB (0 < M.1 f 2) M M) := by
  show XW g l mX1_isThere _ 0 [some (xr f)] [] M _
  refine xw_aload_n dX1_isThere_0 rfl ?_
  refine xw_getI dX1_isThere_1 fl_X1_18 hF.1 rfl ?_
  refine xw_if_le (tgt := 11) dX1_isThere_4 (by decide) (fun c4 => ?_) (fun c4 => ?_)
  · refine xw_iconst (v := 0) dX1_isThere_11 (by decide) ?_
    refine xw_iretz dX1_isThere_12 rfl (Or.inl rfl) (Or.inr ⟨?_, rfl, rfl⟩)
    first | assumption | grind
  · refine xw_iconst (v := 1) dX1_isThere_7 (by decide) ?_
    refine xw_goto (tgt := 12) dX1_isThere_8 (by decide) ?_
    refine xw_iretz dX1_isThere_12 rfl (Or.inr rfl) (Or.inl ⟨?_, rfl, rfl⟩)
    first | assumption | grind
set_option maxRecDepth 20000 in
theorem s_X1_isHouse {f : Nat} (hF : XF f) (h : Int32) : XC g l mX1_isHouse d [xr f, xi h] M (XB (0 ≤ h ∧ h < M.1 f 2) M M) := by
  show XW g l mX1_isHouse _ 0 [some (xr f), some (xi h)] [] M _
  refine xw_iload_n dX1_isHouse_0 rfl ?_
  refine xw_if_lt (tgt := 16) dX1_isHouse_1 (by decide) (fun c1 => ?_) (fun c1 => ?_)
  · refine xw_iconst (v := 0) dX1_isHouse_16 (by decide) ?_
    refine xw_iretz dX1_isHouse_17 rfl (Or.inl rfl) (Or.inr ⟨?_, rfl, rfl⟩)
    first | assumption | grind
  · refine xw_iload_n dX1_isHouse_4 rfl ?_
    refine xw_aload_n dX1_isHouse_5 rfl ?_
    refine xw_getI dX1_isHouse_6 fl_X1_18 hF.1 rfl ?_
    refine xw_icmp_ge (tgt := 16) dX1_isHouse_9 (by decide) (fun c9 => ?_) (fun c9 => ?_)
    · refine xw_iconst (v := 0) dX1_isHouse_16 (by decide) ?_
      refine xw_iretz dX1_isHouse_17 rfl (Or.inl rfl) (Or.inr ⟨?_, rfl, rfl⟩)
      first | assumption | grind
    · refine xw_iconst (v := 1) dX1_isHouse_12 (by decide) ?_
      refine xw_goto (tgt := 17) dX1_isHouse_13 (by decide) ?_
      refine xw_iretz dX1_isHouse_17 rfl (Or.inr rfl) (Or.inl ⟨?_, rfl, rfl⟩)
      first | assumption | grind
set_option maxRecDepth 20000 in
theorem s_X8_isThere {n : Nat} (hn : M.1 54 3 = nI n) (h2 : n ≤ 6) (h : Int32) : XC g l mX8_isThere (d + 1) [xr 49, xi h] M (XB (0 ≤ h ∧ h < nI n) M M) := by
  show XW g l mX8_isThere _ 0 [some (xr 49), some (xi h)] [] M _
  refine xw_iload_n dX8_isThere_0 rfl ?_
  refine xw_iconst (v := 0) dX8_isThere_1 (by decide) ?_
  refine xw_aload_n dX8_isThere_2 rfl ?_
  refine xw_getR dX8_isThere_3 fl_X8_22 rfl rfl ?_
  refine xw_iconst (v := 3) dX8_isThere_6 (by decide) ?_
  refine xw_ialN 3 dX8_isThere_7 rfl (rfl) (hn) rfl ?_ ?_
  · omega
  refine xw_iconst (v := 1) dX8_isThere_8 (by decide) ?_
  refine xw_isub dX8_isThere_9 ?_
  refine xw_cS3B dX8_isThere_10 okX8_in ml_X8_56 rfl rfl (s_X8_in _ _ _) (fun p10 => ?_) (fun p10 => ?_)
  · refine xw_iretz dX8_isThere_13 rfl (Or.inr rfl) (Or.inl ⟨?_, rfl, rfl⟩)
    have e0 := pl_sub1 h (s := n) (by omega)
    grind
  · refine xw_iretz dX8_isThere_13 rfl (Or.inl rfl) (Or.inr ⟨?_, rfl, rfl⟩)
    have e0 := pl_sub1 h (s := n) (by omega)
    grind
end PUB12
