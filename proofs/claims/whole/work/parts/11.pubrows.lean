section PUBROWS
variable {g : XG} {l : Launch} {d : Nat} {M : XM}
set_option maxRecDepth 20000 in
theorem s_X7_found (v : Int32) : XC g l mX7_found d [xr 0, xi v] M (XE (some (xi (-1000010 - v))) (xup M 0 7 v)) := by
  show XW g l mX7_found _ 0 [some (xr 0), some (xi v)] [] M _
  refine xw_aload_n dX7_found_0 rfl ?_
  refine xw_iload_n dX7_found_1 rfl ?_
  refine xw_putI dX7_found_2 fp_X7_55 rfl rfl ?_
  refine xw_ldc dX7_found_5 kc_X7_251 ?_
  refine xw_iload_n dX7_found_7 rfl ?_
  refine xw_isub dX7_found_8 ?_
  refine xw_ireti dX7_found_9 rfl ?_
  first | exact ⟨rfl, rfl⟩ | exact ⟨by simp_all, rfl⟩ | grind [XE]
set_option maxRecDepth 20000 in
theorem s_X7_answered (v : Int32) : XC g l mX7_answered d [xr 0, xi v] M (XE (some (xi v)) (xup M 0 7 0)) := by
  show XW g l mX7_answered _ 0 [some (xr 0), some (xi v)] [] M _
  refine xw_aload_n dX7_answered_0 rfl ?_
  refine xw_iconst (v := 0) dX7_answered_1 (by decide) ?_
  refine xw_putI dX7_answered_2 fp_X7_55 rfl rfl ?_
  refine xw_iload_n dX7_answered_5 rfl ?_
  refine xw_ireti dX7_answered_6 rfl ?_
  first | exact ⟨rfl, rfl⟩ | exact ⟨by simp_all, rfl⟩ | grind [XE]
set_option maxRecDepth 20000 in
theorem s_X8_finds (v : Int32) : XC g l mX8_finds d [xr 49, xi v] M (XE (some (xi (-1000010 - v))) (xup M 49 3 v)) := by
  show XW g l mX8_finds _ 0 [some (xr 49), some (xi v)] [] M _
  refine xw_aload_n dX8_finds_0 rfl ?_
  refine xw_iload_n dX8_finds_1 rfl ?_
  refine xw_putI dX8_finds_2 fp_X8_51 rfl rfl ?_
  refine xw_ldc dX8_finds_5 kc_X8_55 ?_
  refine xw_iload_n dX8_finds_7 rfl ?_
  refine xw_isub dX8_finds_8 ?_
  refine xw_ireti dX8_finds_9 rfl ?_
  first | exact ⟨rfl, rfl⟩ | exact ⟨by simp_all, rfl⟩ | grind [XE]
set_option maxRecDepth 20000 in
theorem s_X8_did (v : Int32) : XC g l mX8_did d [xr 49, xi v] M (XE (some (xi v)) (xup M 49 3 0)) := by
  show XW g l mX8_did _ 0 [some (xr 49), some (xi v)] [] M _
  refine xw_aload_n dX8_did_0 rfl ?_
  refine xw_iconst (v := 0) dX8_did_1 (by decide) ?_
  refine xw_putI dX8_did_2 fp_X8_51 rfl rfl ?_
  refine xw_iload_n dX8_did_5 rfl ?_
  refine xw_ireti dX8_did_6 rfl ?_
  first | exact ⟨rfl, rfl⟩ | exact ⟨by simp_all, rfl⟩ | grind [XE]
set_option maxRecDepth 20000 in
theorem s_X8_in (v a b : Int32) : XC g l mX8_in d [xi v, xi a, xi b] M (XB (a ≤ v ∧ v ≤ b) M M) := by
  show XW g l mX8_in _ 0 [some (xi v), some (xi a), some (xi b)] [] M _
  refine xw_iload_n dX8_in_0 rfl ?_
  refine xw_iload_n dX8_in_1 rfl ?_
  refine xw_icmp_lt (tgt := 14) dX8_in_2 (by decide) (fun c2 => ?_) (fun c2 => ?_)
  · refine xw_iconst (v := 0) dX8_in_14 (by decide) ?_
    refine xw_iretz dX8_in_15 rfl (Or.inl rfl) (Or.inr ⟨?_, rfl, rfl⟩)
    first | assumption | grind
  · refine xw_iload_n dX8_in_5 rfl ?_
    refine xw_iload_n dX8_in_6 rfl ?_
    refine xw_icmp_gt (tgt := 14) dX8_in_7 (by decide) (fun c7 => ?_) (fun c7 => ?_)
    · refine xw_iconst (v := 0) dX8_in_14 (by decide) ?_
      refine xw_iretz dX8_in_15 rfl (Or.inl rfl) (Or.inr ⟨?_, rfl, rfl⟩)
      first | assumption | grind
    · refine xw_iconst (v := 1) dX8_in_10 (by decide) ?_
      refine xw_goto (tgt := 15) dX8_in_11 (by decide) ?_
      refine xw_iretz dX8_in_15 rfl (Or.inr rfl) (Or.inl ⟨?_, rfl, rfl⟩)
      first | assumption | grind
set_option maxRecDepth 20000 in
theorem s_X8_isRow (v : Int32) : XC g l mX8_isRow (d + 1) [xi v] M (XB (0 ≤ v ∧ v ≤ 7) M M) := by
  show XW g l mX8_isRow _ 0 [some (xi v)] [] M _
  refine xw_iload_n dX8_isRow_0 rfl ?_
  refine xw_iconst (v := 0) dX8_isRow_1 (by decide) ?_
  refine xw_bipush (v := 7) dX8_isRow_2 (by decide) ?_
  refine xw_cS3B dX8_isRow_4 okX8_in ml_X8_56 rfl rfl (s_X8_in _ _ _) (fun p4 => ?_) (fun p4 => ?_)
  · refine xw_iretz dX8_isRow_7 rfl (Or.inr rfl) (Or.inl ⟨?_, rfl, rfl⟩)
    first | assumption | grind
  · refine xw_iretz dX8_isRow_7 rfl (Or.inl rfl) (Or.inr ⟨?_, rfl, rfl⟩)
    first | assumption | grind
set_option maxRecDepth 20000 in
theorem s_X8_isMissing {r : Nat} (hr : r < 8) : XC g l mX8_isMissing d [xr 49, xi (nI r)] M (XB (M.1 50 r = -1000000) M M) := by
  show XW g l mX8_isMissing _ 0 [some (xr 49), some (xi (nI r))] [] M _
  refine xw_aload_n dX8_isMissing_0 rfl ?_
  refine xw_getR dX8_isMissing_1 fl_X8_7 rfl rfl ?_
  refine xw_iload_n dX8_isMissing_4 rfl ?_
  refine xw_ialN _ dX8_isMissing_5 rfl (rfl) (rfl) rfl ?_ ?_
  · omega
  refine xw_ldc dX8_isMissing_6 kc_X8_50 ?_
  refine xw_icmp_ne (tgt := 15) dX8_isMissing_8 (by decide) (fun c8 => ?_) (fun c8 => ?_)
  · refine xw_iconst (v := 0) dX8_isMissing_15 (by decide) ?_
    refine xw_iretz dX8_isMissing_16 rfl (Or.inl rfl) (Or.inr ⟨?_, rfl, rfl⟩)
    first | assumption | grind
  · refine xw_iconst (v := 1) dX8_isMissing_11 (by decide) ?_
    refine xw_goto (tgt := 16) dX8_isMissing_12 (by decide) ?_
    refine xw_iretz dX8_isMissing_16 rfl (Or.inr rfl) (Or.inl ⟨?_, rfl, rfl⟩)
    first | assumption | grind
theorem nI_lt8 {r : Nat} (h : r < 8) : 0 ≤ nI r ∧ nI r < 8 ∧ nI r ≤ 7 := ⟨nI_pos' (by omega), nI_lt (b := 8) h (by decide), nI_le (b := 7) (by omega) (by decide)⟩
theorem nI_lt3 {r : Nat} (h : r < 3) : 0 ≤ nI r ∧ nI r < 3 ∧ nI r ≤ 2 := ⟨nI_pos' (by omega), nI_lt (b := 3) h (by decide), nI_le (b := 2) (by omega) (by decide)⟩
theorem nI_le40 {r : Nat} (h : r ≤ 40) : 0 ≤ nI r ∧ nI r ≤ 40 := ⟨nI_pos' (by omega), nI_le (b := 40) h (by decide)⟩
set_option maxRecDepth 20000 in
theorem k_X7_row_bad {a b c : Int32} (h : ¬ (0 ≤ a ∧ a < 8 ∧ 0 ≤ b ∧ b < 3 ∧ c ≤ 40)) : XC g l mX7_row (d + 2) [xr 0, xi a, xi b, xi c] M (XE (some (xi (-1000001))) M) := by
  show XW g l mX7_row _ 0 [some (xr 0), some (xi a), some (xi b), some (xi c)] [] M _
  refine xw_aload_n dX7_row_0 rfl ?_
  refine xw_getR dX7_row_1 fl_X7_10 rfl rfl ?_
  refine xw_iload_n dX7_row_4 rfl ?_
  refine xw_cV1B dX7_row_5 okX6_isNumber ml_X7_59 rfl rfl rfl rfl (s_X6_isNumber _) (fun p5 => ?_) (fun p5 => ?_)
  · refine xw_if_eq (tgt := 28) dX7_row_8 (by decide) (fun q9 => absurd q9 (by decide)) (fun _ => ?_)
    refine xw_aload_n dX7_row_11 rfl ?_
    refine xw_getR dX7_row_12 fl_X7_10 rfl rfl ?_
    refine xw_iload_n dX7_row_15 rfl ?_
    refine xw_cV1B dX7_row_16 okX6_isLane ml_X7_63 rfl rfl rfl rfl (s_X6_isLane _) (fun p16 => ?_) (fun p16 => ?_)
    · refine xw_if_eq (tgt := 28) dX7_row_19 (by decide) (fun q9 => absurd q9 (by decide)) (fun _ => ?_)
      refine xw_iload_n dX7_row_22 rfl ?_
      refine xw_bipush (v := 40) dX7_row_23 (by decide) ?_
      refine xw_icmp_le (tgt := 31) dX7_row_25 (by decide) (fun c25 => ?_) (fun c25 => ?_)
      · exfalso; first | contradiction | omega | grind | simp_all
      · refine xw_ldc dX7_row_28 kc_X7_66 ?_
        refine xw_ireti dX7_row_30 rfl ?_
        first | exact ⟨rfl, rfl⟩ | exact ⟨by simp_all, rfl⟩ | grind [XE]
    · refine xw_if_eq (tgt := 28) dX7_row_19 (by decide) (fun _ => ?_) (fun q9 => absurd q9 (by decide))
      refine xw_ldc dX7_row_28 kc_X7_66 ?_
      refine xw_ireti dX7_row_30 rfl ?_
      first | exact ⟨rfl, rfl⟩ | exact ⟨by simp_all, rfl⟩ | grind [XE]
  · refine xw_if_eq (tgt := 28) dX7_row_8 (by decide) (fun _ => ?_) (fun q9 => absurd q9 (by decide))
    refine xw_ldc dX7_row_28 kc_X7_66 ?_
    refine xw_ireti dX7_row_30 rfl ?_
    first | exact ⟨rfl, rfl⟩ | exact ⟨by simp_all, rfl⟩ | grind [XE]
set_option maxRecDepth 20000 in
theorem k_X8_row_bad {a b c : Int32} (h : ¬ (0 ≤ a ∧ a < 8 ∧ 0 ≤ b ∧ b < 3 ∧ c ≤ 40)) : XC g l mX8_row (d + 2) [xr 49, xi a, xi b, xi c] M (XE (some (xi (-1000001))) M) := by
  show XW g l mX8_row _ 0 [some (xr 49), some (xi a), some (xi b), some (xi c), none] [] M _
  refine xw_iload_n dX8_row_0 rfl ?_
  refine xw_cS1B dX8_row_1 okX8_isRow ml_X8_60 rfl rfl (s_X8_isRow _) (fun p1 => ?_) (fun p1 => ?_)
  · refine xw_if_eq (tgt := 22) dX8_row_4 (by decide) (fun q9 => absurd q9 (by decide)) (fun _ => ?_)
    refine xw_iload_n dX8_row_7 rfl ?_
    refine xw_iconst (v := 0) dX8_row_8 (by decide) ?_
    refine xw_iconst (v := 2) dX8_row_9 (by decide) ?_
    refine xw_cS3B dX8_row_10 okX8_in ml_X8_56 rfl rfl (s_X8_in _ _ _) (fun p10 => ?_) (fun p10 => ?_)
    · refine xw_if_eq (tgt := 22) dX8_row_13 (by decide) (fun q9 => absurd q9 (by decide)) (fun _ => ?_)
      refine xw_iload_n dX8_row_16 rfl ?_
      refine xw_bipush (v := 40) dX8_row_17 (by decide) ?_
      refine xw_icmp_le (tgt := 25) dX8_row_19 (by decide) (fun c19 => ?_) (fun c19 => ?_)
      · exfalso; first | contradiction | omega | grind | simp_all
      · refine xw_ldc dX8_row_22 kc_X8_64 ?_
        refine xw_ireti dX8_row_24 rfl ?_
        first | exact ⟨rfl, rfl⟩ | exact ⟨by simp_all, rfl⟩ | grind [XE]
    · refine xw_if_eq (tgt := 22) dX8_row_13 (by decide) (fun _ => ?_) (fun q9 => absurd q9 (by decide))
      refine xw_ldc dX8_row_22 kc_X8_64 ?_
      refine xw_ireti dX8_row_24 rfl ?_
      first | exact ⟨rfl, rfl⟩ | exact ⟨by simp_all, rfl⟩ | grind [XE]
  · refine xw_if_eq (tgt := 22) dX8_row_4 (by decide) (fun _ => ?_) (fun q9 => absurd q9 (by decide))
    refine xw_ldc dX8_row_22 kc_X8_64 ?_
    refine xw_ireti dX8_row_24 rfl ?_
    first | exact ⟨rfl, rfl⟩ | exact ⟨by simp_all, rfl⟩ | grind [XE]
set_option maxRecDepth 20000 in
theorem k_X7_row_size {a b c : Int32} (h : 0 ≤ a ∧ a < 8 ∧ 0 ≤ b ∧ b < 3 ∧ c < 0) : XC g l mX7_row (d + 2) [xr 0, xi a, xi b, xi c] M (XE (some (xi (-1000014))) (xup M 0 7 4)) := by
  show XW g l mX7_row _ 0 [some (xr 0), some (xi a), some (xi b), some (xi c)] [] M _
  refine xw_aload_n dX7_row_0 rfl ?_
  refine xw_getR dX7_row_1 fl_X7_10 rfl rfl ?_
  refine xw_iload_n dX7_row_4 rfl ?_
  refine xw_cV1B dX7_row_5 okX6_isNumber ml_X7_59 rfl rfl rfl rfl (s_X6_isNumber _) (fun p5 => ?_) (fun p5 => ?_)
  · refine xw_if_eq (tgt := 28) dX7_row_8 (by decide) (fun q9 => absurd q9 (by decide)) (fun _ => ?_)
    refine xw_aload_n dX7_row_11 rfl ?_
    refine xw_getR dX7_row_12 fl_X7_10 rfl rfl ?_
    refine xw_iload_n dX7_row_15 rfl ?_
    refine xw_cV1B dX7_row_16 okX6_isLane ml_X7_63 rfl rfl rfl rfl (s_X6_isLane _) (fun p16 => ?_) (fun p16 => ?_)
    · refine xw_if_eq (tgt := 28) dX7_row_19 (by decide) (fun q9 => absurd q9 (by decide)) (fun _ => ?_)
      refine xw_iload_n dX7_row_22 rfl ?_
      refine xw_bipush (v := 40) dX7_row_23 (by decide) ?_
      refine xw_icmp_le (tgt := 31) dX7_row_25 (by decide) (fun c25 => ?_) (fun c25 => ?_)
      · refine xw_iload_n dX7_row_31 rfl ?_
        refine xw_if_ge (tgt := 41) dX7_row_32 (by decide) (fun c32 => ?_) (fun c32 => ?_)
        · exfalso; first | contradiction | omega | (have e0 := nI_lt8 hr; grind) | grind | simp_all
        · refine xw_aload_n dX7_row_35 rfl ?_
          refine xw_iconst (v := 4) dX7_row_36 (by decide) ?_
          refine xw_cV1E dX7_row_37 okX7_found ml_X7_67 rfl rfl rfl rfl (s_X7_found _) ?_
          refine xw_ireti dX7_row_40 rfl ?_
          first | exact ⟨rfl, rfl⟩ | exact ⟨by simp_all, rfl⟩ | grind [XE]
      · exfalso; first | contradiction | omega | (have e0 := nI_lt8 hr; grind) | grind | simp_all
    · exfalso; first | contradiction | omega | (have e0 := nI_lt8 hr; grind) | grind | simp_all
  · exfalso; first | contradiction | omega | (have e0 := nI_lt8 hr; grind) | grind | simp_all
set_option maxRecDepth 20000 in
theorem k_X8_row_size {a b c : Int32} (h : 0 ≤ a ∧ a < 8 ∧ 0 ≤ b ∧ b < 3 ∧ c < 0) : XC g l mX8_row (d + 2) [xr 49, xi a, xi b, xi c] M (XE (some (xi (-1000014))) (xup M 49 3 4)) := by
  show XW g l mX8_row _ 0 [some (xr 49), some (xi a), some (xi b), some (xi c), none] [] M _
  refine xw_iload_n dX8_row_0 rfl ?_
  refine xw_cS1B dX8_row_1 okX8_isRow ml_X8_60 rfl rfl (s_X8_isRow _) (fun p1 => ?_) (fun p1 => ?_)
  · refine xw_if_eq (tgt := 22) dX8_row_4 (by decide) (fun q9 => absurd q9 (by decide)) (fun _ => ?_)
    refine xw_iload_n dX8_row_7 rfl ?_
    refine xw_iconst (v := 0) dX8_row_8 (by decide) ?_
    refine xw_iconst (v := 2) dX8_row_9 (by decide) ?_
    refine xw_cS3B dX8_row_10 okX8_in ml_X8_56 rfl rfl (s_X8_in _ _ _) (fun p10 => ?_) (fun p10 => ?_)
    · refine xw_if_eq (tgt := 22) dX8_row_13 (by decide) (fun q9 => absurd q9 (by decide)) (fun _ => ?_)
      refine xw_iload_n dX8_row_16 rfl ?_
      refine xw_bipush (v := 40) dX8_row_17 (by decide) ?_
      refine xw_icmp_le (tgt := 25) dX8_row_19 (by decide) (fun c19 => ?_) (fun c19 => ?_)
      · refine xw_iload_n dX8_row_25 rfl ?_
        refine xw_if_ge (tgt := 35) dX8_row_26 (by decide) (fun c26 => ?_) (fun c26 => ?_)
        · exfalso; first | contradiction | omega | (have e0 := nI_lt8 hr; grind) | grind | simp_all
        · refine xw_aload_n dX8_row_29 rfl ?_
          refine xw_iconst (v := 4) dX8_row_30 (by decide) ?_
          refine xw_cV1E dX8_row_31 okX8_finds ml_X8_65 rfl rfl rfl rfl (s_X8_finds _) ?_
          refine xw_ireti dX8_row_34 rfl ?_
          first | exact ⟨rfl, rfl⟩ | exact ⟨by simp_all, rfl⟩ | grind [XE]
      · exfalso; first | contradiction | omega | (have e0 := nI_lt8 hr; grind) | grind | simp_all
    · exfalso; first | contradiction | omega | (have e0 := nI_lt8 hr; grind) | grind | simp_all
  · exfalso; first | contradiction | omega | (have e0 := nI_lt8 hr; grind) | grind | simp_all
set_option maxRecDepth 20000 in
theorem k_X7_row_ok {r t n : Nat} (hr : r < 8) (ht : t < 3) (hn : n ≤ 40) : XC g l mX7_row (d + 2) [xr 0, xi (nI r), xi (nI t), xi (nI n)] M (XE (some (xi (nI n))) (xup (mkR M r n (nI t)) 0 7 0)) := by
  show XW g l mX7_row _ 0 [some (xr 0), some (xi (nI r)), some (xi (nI t)), some (xi (nI n))] [] M _
  refine xw_aload_n dX7_row_0 rfl ?_
  refine xw_getR dX7_row_1 fl_X7_10 rfl rfl ?_
  refine xw_iload_n dX7_row_4 rfl ?_
  refine xw_cV1B dX7_row_5 okX6_isNumber ml_X7_59 rfl rfl rfl rfl (s_X6_isNumber _) (fun p5 => ?_) (fun p5 => ?_)
  · refine xw_if_eq (tgt := 28) dX7_row_8 (by decide) (fun q9 => absurd q9 (by decide)) (fun _ => ?_)
    refine xw_aload_n dX7_row_11 rfl ?_
    refine xw_getR dX7_row_12 fl_X7_10 rfl rfl ?_
    refine xw_iload_n dX7_row_15 rfl ?_
    refine xw_cV1B dX7_row_16 okX6_isLane ml_X7_63 rfl rfl rfl rfl (s_X6_isLane _) (fun p16 => ?_) (fun p16 => ?_)
    · refine xw_if_eq (tgt := 28) dX7_row_19 (by decide) (fun q9 => absurd q9 (by decide)) (fun _ => ?_)
      refine xw_iload_n dX7_row_22 rfl ?_
      refine xw_bipush (v := 40) dX7_row_23 (by decide) ?_
      refine xw_icmp_le (tgt := 31) dX7_row_25 (by decide) (fun c25 => ?_) (fun c25 => ?_)
      · refine xw_iload_n dX7_row_31 rfl ?_
        refine xw_if_ge (tgt := 41) dX7_row_32 (by decide) (fun c32 => ?_) (fun c32 => ?_)
        · refine xw_aload_n dX7_row_41 rfl ?_
          refine xw_getR dX7_row_42 fl_X7_10 rfl rfl ?_
          refine xw_iload_n dX7_row_45 rfl ?_
          refine xw_iload_n dX7_row_46 rfl ?_
          refine xw_iload_n dX7_row_47 rfl ?_
          refine xw_cV3N dX7_row_48 okX6_make ml_X7_71 rfl rfl rfl rfl (s_X6_make hr hn) ?_
          refine xw_aload_n dX7_row_51 rfl ?_
          refine xw_iload_n dX7_row_52 rfl ?_
          refine xw_cV1E dX7_row_53 okX7_answered ml_X7_75 rfl rfl rfl rfl (s_X7_answered _) ?_
          refine xw_ireti dX7_row_56 rfl ?_
          first | exact ⟨rfl, rfl⟩ | exact ⟨by simp_all, rfl⟩ | grind [XE]
        · exfalso; have e0 := nI_lt8 hr; have e1 := nI_lt3 ht; have e2 := nI_le40 hn; grind
      · exfalso; have e0 := nI_lt8 hr; have e1 := nI_lt3 ht; have e2 := nI_le40 hn; grind
    · exfalso; have e0 := nI_lt8 hr; have e1 := nI_lt3 ht; have e2 := nI_le40 hn; grind
  · exfalso; have e0 := nI_lt8 hr; have e1 := nI_lt3 ht; have e2 := nI_le40 hn; grind
set_option maxRecDepth 20000 in
theorem lp_X8_row {r n : Nat} {t : Int32} (hr : r < 8) (hn : n ≤ 40) : ∀ (j k : Nat) (M : XM), k + j = n → XW g l mX8_row (d + 1) 52 [some (xr 49), some (xi (nI r)), some (xi t), some (xi (nI n)), some (xi (nI k))] [] M (XE (some (xi (nI n))) (xup (xum M 52 (fun i => if 40 * r + k ≤ i ∧ i < 40 * r + n then 0 else M.1 52 i)) 49 3 0)) := by
  intro j
  induction j with
  | zero =>
    intro k M hk
    rw [cp_fill M 52 _ _ 0 (by omega)]
    refine xw_iload dX8_row_52 rfl ?_
    refine xw_iload_n dX8_row_54 rfl ?_
    refine xw_icmp_geN (tgt := 77) dX8_row_55 (by decide) (by omega) (fun c55 => ?_) (fun c55 => ?_)
    · refine xw_aload_n dX8_row_77 rfl ?_
      refine xw_iload_n dX8_row_78 rfl ?_
      refine xw_cV1E dX8_row_79 okX8_did ml_X8_69 rfl rfl rfl rfl (s_X8_did _) ?_
      refine xw_ireti dX8_row_82 rfl ?_
      first | exact ⟨rfl, rfl⟩ | exact ⟨by simp_all, rfl⟩ | grind [XE]
    · exfalso; first | contradiction | omega | grind | simp_all
  | succ j ih =>
    intro k M hk
    refine xw_iload dX8_row_52 rfl ?_
    refine xw_iload_n dX8_row_54 rfl ?_
    refine xw_icmp_geN (tgt := 77) dX8_row_55 (by decide) (by omega) (fun c55 => ?_) (fun c55 => ?_)
    · exfalso; first | contradiction | omega | grind | simp_all
    · refine xw_aload_n dX8_row_58 rfl ?_
      refine xw_getR dX8_row_59 fl_X8_16 rfl rfl ?_
      refine xw_bipush (v := 40) dX8_row_62 (by decide) ?_
      refine xw_iload_n dX8_row_64 rfl ?_
      refine xw_imulN (a := 40) dX8_row_65 ?_
      refine xw_iload dX8_row_66 rfl ?_
      refine xw_iaddN dX8_row_68 ?_
      refine xw_iconst (v := 0) dX8_row_69 (by decide) ?_
      refine xw_iasN _ dX8_row_70 rfl (rfl) rfl ?_ ?_
      · omega
      refine xw_iincN (v := 1) dX8_row_71 (by decide) rfl rfl rfl ?_
      refine xw_goto (tgt := 52) dX8_row_74 (by decide) ?_
      exact (ih (k + 1) _ (by omega)).eqv (by rw [← cp_fill1 M 52 (40 * r + k) _ 0 (by omega)]; rfl)
def mkS (M : XM) (r n : Nat) (t : Int32) : XM := xum (xup (xup M 50 r t) 51 r (nI n)) 52 (fun i => if 40 * r + 0 ≤ i ∧ i < 40 * r + n then 0 else M.1 52 i)
set_option maxRecDepth 20000 in
theorem k_X8_row_ok {r t n : Nat} (hr : r < 8) (ht : t < 3) (hn : n ≤ 40) : XC g l mX8_row (d + 2) [xr 49, xi (nI r), xi (nI t), xi (nI n)] M (XE (some (xi (nI n))) (xup (mkS M r n (nI t)) 49 3 0)) := by
  show XW g l mX8_row _ 0 [some (xr 49), some (xi (nI r)), some (xi (nI t)), some (xi (nI n)), none] [] M _
  refine xw_iload_n dX8_row_0 rfl ?_
  refine xw_cS1B dX8_row_1 okX8_isRow ml_X8_60 rfl rfl (s_X8_isRow _) (fun p1 => ?_) (fun p1 => ?_)
  · refine xw_if_eq (tgt := 22) dX8_row_4 (by decide) (fun q9 => absurd q9 (by decide)) (fun _ => ?_)
    refine xw_iload_n dX8_row_7 rfl ?_
    refine xw_iconst (v := 0) dX8_row_8 (by decide) ?_
    refine xw_iconst (v := 2) dX8_row_9 (by decide) ?_
    refine xw_cS3B dX8_row_10 okX8_in ml_X8_56 rfl rfl (s_X8_in _ _ _) (fun p10 => ?_) (fun p10 => ?_)
    · refine xw_if_eq (tgt := 22) dX8_row_13 (by decide) (fun q9 => absurd q9 (by decide)) (fun _ => ?_)
      refine xw_iload_n dX8_row_16 rfl ?_
      refine xw_bipush (v := 40) dX8_row_17 (by decide) ?_
      refine xw_icmp_leN (b := 40) (tgt := 25) dX8_row_19 (by decide) (by omega) (fun c19 => ?_) (fun c19 => ?_)
      · refine xw_iload_n dX8_row_25 rfl ?_
        refine xw_if_geN (tgt := 35) dX8_row_26 (by decide) (by omega) ?_
        refine xw_aload_n dX8_row_35 rfl ?_
        refine xw_getR dX8_row_36 fl_X8_7 rfl rfl ?_
        refine xw_iload_n dX8_row_39 rfl ?_
        refine xw_iload_n dX8_row_40 rfl ?_
        refine xw_iasN _ dX8_row_41 rfl (rfl) rfl ?_ ?_
        · omega
        refine xw_aload_n dX8_row_42 rfl ?_
        refine xw_getR dX8_row_43 fl_X8_13 rfl rfl ?_
        refine xw_iload_n dX8_row_46 rfl ?_
        refine xw_iload_n dX8_row_47 rfl ?_
        refine xw_iasN _ dX8_row_48 rfl (rfl) rfl ?_ ?_
        · omega
        refine xw_iconst (v := 0) dX8_row_49 (by decide) ?_
        refine xw_istore dX8_row_50 rfl rfl ?_
        exact lp_X8_row hr hn n 0 _ (by omega)
      · exfalso; have e0 := nI_lt8 hr; have e1 := nI_lt3 ht; have e2 := nI_le40 hn; grind
    · exfalso; have e0 := nI_lt8 hr; have e1 := nI_lt3 ht; have e2 := nI_le40 hn; grind
  · exfalso; have e0 := nI_lt8 hr; have e1 := nI_lt3 ht; have e2 := nI_le40 hn; grind
set_option maxRecDepth 20000 in
theorem k_X7_set_bad {a i v : Int32} (h : ¬ (0 ≤ a ∧ a < 8)) : XC g l mX7_set (d + 2) [xr 0, xi a, xi i, xi v] M (XE (some (xi (-1000001))) (M)) := by
  show XW g l mX7_set _ 0 [some (xr 0), some (xi a), some (xi i), some (xi v)] [] M _
  refine xw_aload_n dX7_set_0 rfl ?_
  refine xw_getR dX7_set_1 fl_X7_10 rfl rfl ?_
  refine xw_iload_n dX7_set_4 rfl ?_
  refine xw_cV1B dX7_set_5 okX6_isNumber ml_X7_59 rfl rfl rfl rfl (s_X6_isNumber _) (fun p5 => ?_) (fun p5 => ?_)
  · exfalso; first | contradiction | omega | (have e0 := nI_lt8 hr; grind) | grind | simp_all
  · refine xw_if_ne (tgt := 14) dX7_set_8 (by decide) (fun q9 => absurd q9 (by decide)) (fun _ => ?_)
    refine xw_ldc dX7_set_11 kc_X7_66 ?_
    refine xw_ireti dX7_set_13 rfl ?_
    first | exact ⟨rfl, rfl⟩ | exact ⟨by simp_all, rfl⟩ | grind [XE]
set_option maxRecDepth 20000 in
theorem k_X8_set_bad {a i v : Int32} (h : ¬ (0 ≤ a ∧ a < 8)) : XC g l mX8_set (d + 2) [xr 49, xi a, xi i, xi v] M (XE (some (xi (-1000001))) (M)) := by
  show XW g l mX8_set _ 0 [some (xr 49), some (xi a), some (xi i), some (xi v)] [] M _
  refine xw_iload_n dX8_set_0 rfl ?_
  refine xw_cS1B dX8_set_1 okX8_isRow ml_X8_60 rfl rfl (s_X8_isRow _) (fun p1 => ?_) (fun p1 => ?_)
  · exfalso; first | contradiction | omega | (have e0 := nI_lt8 hr; grind) | grind | simp_all
  · refine xw_if_ne (tgt := 10) dX8_set_4 (by decide) (fun q9 => absurd q9 (by decide)) (fun _ => ?_)
    refine xw_ldc dX8_set_7 kc_X8_64 ?_
    refine xw_ireti dX8_set_9 rfl ?_
    first | exact ⟨rfl, rfl⟩ | exact ⟨by simp_all, rfl⟩ | grind [XE]
set_option maxRecDepth 20000 in
theorem k_X7_set_null {r : Nat} {i v : Int32} (hr : r < 8) (h : M.1 2 r = -1) : XC g l mX7_set (d + 2) [xr 0, xi (nI r), xi i, xi v] M (XE (some (xi (-1000011))) (xup M 0 7 1)) := by
  show XW g l mX7_set _ 0 [some (xr 0), some (xi (nI r)), some (xi i), some (xi v)] [] M _
  refine xw_aload_n dX7_set_0 rfl ?_
  refine xw_getR dX7_set_1 fl_X7_10 rfl rfl ?_
  refine xw_iload_n dX7_set_4 rfl ?_
  refine xw_cV1B dX7_set_5 okX6_isNumber ml_X7_59 rfl rfl rfl rfl (s_X6_isNumber _) (fun p5 => ?_) (fun p5 => ?_)
  · refine xw_if_ne (tgt := 14) dX7_set_8 (by decide) (fun _ => ?_) (fun q9 => absurd q9 (by decide))
    refine xw_aload_n dX7_set_14 rfl ?_
    refine xw_getR dX7_set_15 fl_X7_10 rfl rfl ?_
    refine xw_iload_n dX7_set_18 rfl ?_
    refine xw_cV1B dX7_set_19 okX6_isMissing ml_X7_78 rfl rfl rfl rfl (s_X6_isMissing (by first | assumption | omega)) (fun p19 => ?_) (fun p19 => ?_)
    · refine xw_if_eq (tgt := 31) dX7_set_22 (by decide) (fun q9 => absurd q9 (by decide)) (fun _ => ?_)
      refine xw_aload_n dX7_set_25 rfl ?_
      refine xw_iconst (v := 1) dX7_set_26 (by decide) ?_
      refine xw_cV1E dX7_set_27 okX7_found ml_X7_67 rfl rfl rfl rfl (s_X7_found _) ?_
      refine xw_ireti dX7_set_30 rfl ?_
      first | exact ⟨rfl, rfl⟩ | exact ⟨by simp_all, rfl⟩ | grind [XE]
    · exfalso; first | contradiction | (have e0 := nI_lt8 hr; grind)
  · exfalso; first | contradiction | (have e0 := nI_lt8 hr; grind)
set_option maxRecDepth 20000 in
theorem k_X8_set_null {r : Nat} {i v : Int32} (hr : r < 8) (h : M.1 50 r = -1000000) : XC g l mX8_set (d + 2) [xr 49, xi (nI r), xi i, xi v] M (XE (some (xi (-1000011))) (xup M 49 3 1)) := by
  show XW g l mX8_set _ 0 [some (xr 49), some (xi (nI r)), some (xi i), some (xi v)] [] M _
  refine xw_iload_n dX8_set_0 rfl ?_
  refine xw_cS1B dX8_set_1 okX8_isRow ml_X8_60 rfl rfl (s_X8_isRow _) (fun p1 => ?_) (fun p1 => ?_)
  · refine xw_if_ne (tgt := 10) dX8_set_4 (by decide) (fun _ => ?_) (fun q9 => absurd q9 (by decide))
    refine xw_aload_n dX8_set_10 rfl ?_
    refine xw_iload_n dX8_set_11 rfl ?_
    refine xw_cV1B dX8_set_12 okX8_isMissing ml_X8_72 rfl rfl rfl rfl (s_X8_isMissing (by first | assumption | omega)) (fun p12 => ?_) (fun p12 => ?_)
    · refine xw_if_eq (tgt := 24) dX8_set_15 (by decide) (fun q9 => absurd q9 (by decide)) (fun _ => ?_)
      refine xw_aload_n dX8_set_18 rfl ?_
      refine xw_iconst (v := 1) dX8_set_19 (by decide) ?_
      refine xw_cV1E dX8_set_20 okX8_finds ml_X8_65 rfl rfl rfl rfl (s_X8_finds _) ?_
      refine xw_ireti dX8_set_23 rfl ?_
      first | exact ⟨rfl, rfl⟩ | exact ⟨by simp_all, rfl⟩ | grind [XE]
    · exfalso; first | contradiction | (have e0 := nI_lt8 hr; grind)
  · exfalso; first | contradiction | (have e0 := nI_lt8 hr; grind)
theorem pl_one (i : Int32) {s : Nat} (h : s ≤ 40) : (0 ≤ i ∧ (0 : Int32) ≤ 1 ∧ i.toInt + (1 : Int32).toInt ≤ (s : Int)) ↔ (0 ≤ i ∧ i < nI s) := by
  have e : (1 : Int32).toInt = 1 := by decide
  have e2 : (0 : Int32) ≤ 1 := by decide
  rw [e, fa_lt, nI_toInt (by omega)]
  constructor
  · rintro ⟨a, -, b⟩; exact ⟨a, by omega⟩
  · rintro ⟨a, b⟩; exact ⟨a, e2, by omega⟩
theorem pl_oneM (i : Int32) {s : Nat} (h : s ≤ 40) : (0 ≤ i ∧ i ≤ nI s - 1) ↔ (0 ≤ i ∧ i < nI s) := by
  have e0 := nI_le40 h
  grind
set_option maxRecDepth 20000 in
theorem k_X7_set_place {r s : Nat} {i v : Int32} (hr : r < 8) (h0 : ¬ M.1 2 r = -1) (hs : M.1 3 r = nI s) (hs2 : s ≤ 40) (h : ¬ (0 ≤ i ∧ i < nI s)) : XC g l mX7_set (d + 2) [xr 0, xi (nI r), xi i, xi v] M (XE (some (xi (-1000012))) (xup M 0 7 2)) := by
  show XW g l mX7_set _ 0 [some (xr 0), some (xi (nI r)), some (xi i), some (xi v)] [] M _
  refine xw_aload_n dX7_set_0 rfl ?_
  refine xw_getR dX7_set_1 fl_X7_10 rfl rfl ?_
  refine xw_iload_n dX7_set_4 rfl ?_
  refine xw_cV1B dX7_set_5 okX6_isNumber ml_X7_59 rfl rfl rfl rfl (s_X6_isNumber _) (fun p5 => ?_) (fun p5 => ?_)
  · refine xw_if_ne (tgt := 14) dX7_set_8 (by decide) (fun _ => ?_) (fun q9 => absurd q9 (by decide))
    refine xw_aload_n dX7_set_14 rfl ?_
    refine xw_getR dX7_set_15 fl_X7_10 rfl rfl ?_
    refine xw_iload_n dX7_set_18 rfl ?_
    refine xw_cV1B dX7_set_19 okX6_isMissing ml_X7_78 rfl rfl rfl rfl (s_X6_isMissing (by first | assumption | omega)) (fun p19 => ?_) (fun p19 => ?_)
    · exfalso; first | contradiction | (have e0 := nI_lt8 hr; grind) | exact h ((pl_one i hs2).mp p38) | exact p38 ((pl_one _ hs2).mpr h)
    · refine xw_if_eq (tgt := 31) dX7_set_22 (by decide) (fun _ => ?_) (fun q9 => absurd q9 (by decide))
      refine xw_aload_n dX7_set_31 rfl ?_
      refine xw_getR dX7_set_32 fl_X7_10 rfl rfl ?_
      refine xw_iload_n dX7_set_35 rfl ?_
      refine xw_iload_n dX7_set_36 rfl ?_
      refine xw_iconst (v := 1) dX7_set_37 (by decide) ?_
      refine xw_cV3B dX7_set_38 okX6_hasPlaces ml_X7_81 rfl rfl rfl rfl (s_X6_hasPlaces _ _ hr hs hs2) (fun p38 => ?_) (fun p38 => ?_)
      · exfalso; first | contradiction | (have e0 := nI_lt8 hr; grind) | exact h ((pl_one i hs2).mp p38) | exact p38 ((pl_one _ hs2).mpr h)
      · refine xw_if_ne (tgt := 50) dX7_set_41 (by decide) (fun q9 => absurd q9 (by decide)) (fun _ => ?_)
        refine xw_aload_n dX7_set_44 rfl ?_
        refine xw_iconst (v := 2) dX7_set_45 (by decide) ?_
        refine xw_cV1E dX7_set_46 okX7_found ml_X7_67 rfl rfl rfl rfl (s_X7_found _) ?_
        refine xw_ireti dX7_set_49 rfl ?_
        first | exact ⟨rfl, rfl⟩ | exact ⟨by simp_all, rfl⟩ | grind [XE]
  · exfalso; first | contradiction | (have e0 := nI_lt8 hr; grind) | exact h ((pl_one i hs2).mp p38) | exact p38 ((pl_one _ hs2).mpr h)
set_option maxRecDepth 20000 in
theorem k_X8_set_place {r s : Nat} {i v : Int32} (hr : r < 8) (h0 : ¬ M.1 50 r = -1000000) (hs : M.1 51 r = nI s) (hs2 : s ≤ 40) (h : ¬ (0 ≤ i ∧ i < nI s)) : XC g l mX8_set (d + 2) [xr 49, xi (nI r), xi i, xi v] M (XE (some (xi (-1000012))) (xup M 49 3 2)) := by
  show XW g l mX8_set _ 0 [some (xr 49), some (xi (nI r)), some (xi i), some (xi v)] [] M _
  refine xw_iload_n dX8_set_0 rfl ?_
  refine xw_cS1B dX8_set_1 okX8_isRow ml_X8_60 rfl rfl (s_X8_isRow _) (fun p1 => ?_) (fun p1 => ?_)
  · refine xw_if_ne (tgt := 10) dX8_set_4 (by decide) (fun _ => ?_) (fun q9 => absurd q9 (by decide))
    refine xw_aload_n dX8_set_10 rfl ?_
    refine xw_iload_n dX8_set_11 rfl ?_
    refine xw_cV1B dX8_set_12 okX8_isMissing ml_X8_72 rfl rfl rfl rfl (s_X8_isMissing (by first | assumption | omega)) (fun p12 => ?_) (fun p12 => ?_)
    · exfalso; first | contradiction | (have e0 := nI_lt8 hr; grind) | exact h ((pl_oneM i hs2).mp p34) | exact p34 ((pl_oneM _ hs2).mpr h)
    · refine xw_if_eq (tgt := 24) dX8_set_15 (by decide) (fun _ => ?_) (fun q9 => absurd q9 (by decide))
      refine xw_iload_n dX8_set_24 rfl ?_
      refine xw_iconst (v := 0) dX8_set_25 (by decide) ?_
      refine xw_aload_n dX8_set_26 rfl ?_
      refine xw_getR dX8_set_27 fl_X8_13 rfl rfl ?_
      refine xw_iload_n dX8_set_30 rfl ?_
      refine xw_ialN _ dX8_set_31 rfl (rfl) (hs) rfl ?_ ?_
      · omega
      refine xw_iconst (v := 1) dX8_set_32 (by decide) ?_
      refine xw_isub dX8_set_33 ?_
      refine xw_cS3B dX8_set_34 okX8_in ml_X8_56 rfl rfl (s_X8_in _ _ _) (fun p34 => ?_) (fun p34 => ?_)
      · exfalso; first | contradiction | (have e0 := nI_lt8 hr; grind) | exact h ((pl_oneM i hs2).mp p34) | exact p34 ((pl_oneM _ hs2).mpr h)
      · refine xw_if_ne (tgt := 46) dX8_set_37 (by decide) (fun q9 => absurd q9 (by decide)) (fun _ => ?_)
        refine xw_aload_n dX8_set_40 rfl ?_
        refine xw_iconst (v := 2) dX8_set_41 (by decide) ?_
        refine xw_cV1E dX8_set_42 okX8_finds ml_X8_65 rfl rfl rfl rfl (s_X8_finds _) ?_
        refine xw_ireti dX8_set_45 rfl ?_
        first | exact ⟨rfl, rfl⟩ | exact ⟨by simp_all, rfl⟩ | grind [XE]
  · exfalso; first | contradiction | (have e0 := nI_lt8 hr; grind) | exact h ((pl_oneM i hs2).mp p34) | exact p34 ((pl_oneM _ hs2).mpr h)
set_option maxRecDepth 20000 in
theorem k_X7_set_ok {r s i : Nat} {v : Int32} (hr : r < 8) (h0 : ¬ M.1 2 r = -1) (hs : M.1 3 r = nI s) (hs2 : s ≤ 40) (hi : i < s) : XC g l mX7_set (d + 2) [xr 0, xi (nI r), xi (nI i), xi v] M (XE (some (xi (cutL (M.1 2 r) v))) (xup (xup M 4 (r * 40 + i) (cutL (M.1 2 r) v)) 0 7 0)) := by
  show XW g l mX7_set _ 0 [some (xr 0), some (xi (nI r)), some (xi (nI i)), some (xi v)] [] M _
  have h : 0 ≤ nI i ∧ nI i < nI s := ⟨nI_pos' (by omega), nI_lt hi (by omega)⟩
  refine xw_aload_n dX7_set_0 rfl ?_
  refine xw_getR dX7_set_1 fl_X7_10 rfl rfl ?_
  refine xw_iload_n dX7_set_4 rfl ?_
  refine xw_cV1B dX7_set_5 okX6_isNumber ml_X7_59 rfl rfl rfl rfl (s_X6_isNumber _) (fun p5 => ?_) (fun p5 => ?_)
  · refine xw_if_ne (tgt := 14) dX7_set_8 (by decide) (fun _ => ?_) (fun q9 => absurd q9 (by decide))
    refine xw_aload_n dX7_set_14 rfl ?_
    refine xw_getR dX7_set_15 fl_X7_10 rfl rfl ?_
    refine xw_iload_n dX7_set_18 rfl ?_
    refine xw_cV1B dX7_set_19 okX6_isMissing ml_X7_78 rfl rfl rfl rfl (s_X6_isMissing (by first | assumption | omega)) (fun p19 => ?_) (fun p19 => ?_)
    · exfalso; first | contradiction | (have e0 := nI_lt8 hr; grind) | exact h ((pl_one i hs2).mp p38) | exact p38 ((pl_one _ hs2).mpr h)
    · refine xw_if_eq (tgt := 31) dX7_set_22 (by decide) (fun _ => ?_) (fun q9 => absurd q9 (by decide))
      refine xw_aload_n dX7_set_31 rfl ?_
      refine xw_getR dX7_set_32 fl_X7_10 rfl rfl ?_
      refine xw_iload_n dX7_set_35 rfl ?_
      refine xw_iload_n dX7_set_36 rfl ?_
      refine xw_iconst (v := 1) dX7_set_37 (by decide) ?_
      refine xw_cV3B dX7_set_38 okX6_hasPlaces ml_X7_81 rfl rfl rfl rfl (s_X6_hasPlaces _ _ hr hs hs2) (fun p38 => ?_) (fun p38 => ?_)
      · refine xw_if_ne (tgt := 50) dX7_set_41 (by decide) (fun _ => ?_) (fun q9 => absurd q9 (by decide))
        refine xw_aload_n dX7_set_50 rfl ?_
        refine xw_aload_n dX7_set_51 rfl ?_
        refine xw_getR dX7_set_52 fl_X7_10 rfl rfl ?_
        refine xw_iload_n dX7_set_55 rfl ?_
        refine xw_iload_n dX7_set_56 rfl ?_
        refine xw_iload_n dX7_set_57 rfl ?_
        refine xw_cV3E dX7_set_58 okX6_put ml_X7_85 rfl rfl rfl rfl (s_X6_put hr (by omega)) ?_
        refine xw_cV1E dX7_set_61 okX7_answered ml_X7_75 rfl rfl rfl rfl (s_X7_answered _) ?_
        refine xw_ireti dX7_set_64 rfl ?_
        first | exact ⟨rfl, rfl⟩ | exact ⟨by simp_all, rfl⟩ | grind [XE]
      · exfalso; first | contradiction | (have e0 := nI_lt8 hr; grind) | exact h ((pl_one i hs2).mp p38) | exact p38 ((pl_one _ hs2).mpr h)
  · exfalso; first | contradiction | (have e0 := nI_lt8 hr; grind) | exact h ((pl_one i hs2).mp p38) | exact p38 ((pl_one _ hs2).mpr h)
set_option maxRecDepth 20000 in
theorem k_X8_set_ok {r s i : Nat} {v : Int32} (hr : r < 8) (h0 : ¬ M.1 50 r = -1000000) (hs : M.1 51 r = nI s) (hs2 : s ≤ 40) (hi : i < s) : XC g l mX8_set (d + 2) [xr 49, xi (nI r), xi (nI i), xi v] M (XE (some (xi (cutL (M.1 50 r) v))) (xup (xup M 52 (40 * r + i) (cutL (M.1 50 r) v)) 49 3 0)) := by
  show XW g l mX8_set _ 0 [some (xr 49), some (xi (nI r)), some (xi (nI i)), some (xi v)] [] M _
  have h : 0 ≤ nI i ∧ nI i < nI s := ⟨nI_pos' (by omega), nI_lt hi (by omega)⟩
  refine xw_iload_n dX8_set_0 rfl ?_
  refine xw_cS1B dX8_set_1 okX8_isRow ml_X8_60 rfl rfl (s_X8_isRow _) (fun p1 => ?_) (fun p1 => ?_)
  · refine xw_if_ne (tgt := 10) dX8_set_4 (by decide) (fun _ => ?_) (fun q9 => absurd q9 (by decide))
    refine xw_aload_n dX8_set_10 rfl ?_
    refine xw_iload_n dX8_set_11 rfl ?_
    refine xw_cV1B dX8_set_12 okX8_isMissing ml_X8_72 rfl rfl rfl rfl (s_X8_isMissing (by first | assumption | omega)) (fun p12 => ?_) (fun p12 => ?_)
    · exfalso; first | contradiction | (have e0 := nI_lt8 hr; grind) | exact h ((pl_oneM i hs2).mp p34) | exact p34 ((pl_oneM _ hs2).mpr h)
    · refine xw_if_eq (tgt := 24) dX8_set_15 (by decide) (fun _ => ?_) (fun q9 => absurd q9 (by decide))
      refine xw_iload_n dX8_set_24 rfl ?_
      refine xw_iconst (v := 0) dX8_set_25 (by decide) ?_
      refine xw_aload_n dX8_set_26 rfl ?_
      refine xw_getR dX8_set_27 fl_X8_13 rfl rfl ?_
      refine xw_iload_n dX8_set_30 rfl ?_
      refine xw_ialN _ dX8_set_31 rfl (rfl) (hs) rfl ?_ ?_
      · omega
      refine xw_iconst (v := 1) dX8_set_32 (by decide) ?_
      refine xw_isub dX8_set_33 ?_
      refine xw_cS3B dX8_set_34 okX8_in ml_X8_56 rfl rfl (s_X8_in _ _ _) (fun p34 => ?_) (fun p34 => ?_)
      · refine xw_if_ne (tgt := 46) dX8_set_37 (by decide) (fun _ => ?_) (fun q9 => absurd q9 (by decide))
        refine xw_aload_n dX8_set_46 rfl ?_
        refine xw_getR dX8_set_47 fl_X8_16 rfl rfl ?_
        refine xw_bipush (v := 40) dX8_set_50 (by decide) ?_
        refine xw_iload_n dX8_set_52 rfl ?_
        refine xw_imulN (a := 40) dX8_set_53 ?_
        refine xw_iload_n dX8_set_54 rfl ?_
        refine xw_iaddN dX8_set_55 ?_
        refine xw_aload_n dX8_set_56 rfl ?_
        refine xw_getR dX8_set_57 fl_X8_7 rfl rfl ?_
        refine xw_iload_n dX8_set_60 rfl ?_
        refine xw_ialN _ dX8_set_61 rfl (rfl) (rfl) rfl ?_ ?_
        · omega
        refine xw_if_ne (tgt := 70) dX8_set_62 (by decide) (fun c62 => ?_) (fun c62 => ?_)
        · refine xw_aload_n dX8_set_70 rfl ?_
          refine xw_getR dX8_set_71 fl_X8_7 rfl rfl ?_
          refine xw_iload_n dX8_set_74 rfl ?_
          refine xw_ialN _ dX8_set_75 rfl (rfl) (rfl) rfl ?_ ?_
          · omega
          refine xw_iconst (v := 1) dX8_set_76 (by decide) ?_
          refine xw_icmp_ne (tgt := 85) dX8_set_77 (by decide) (fun c77 => ?_) (fun c77 => ?_)
          · refine xw_iload_n dX8_set_85 rfl ?_
            refine xw_iasN _ dX8_set_86 rfl (rfl) rfl ?_ ?_
            · omega
            refine xw_aload_n dX8_set_87 rfl ?_
            refine xw_aload_n dX8_set_88 rfl ?_
            refine xw_getR dX8_set_89 fl_X8_16 rfl rfl ?_
            refine xw_bipush (v := 40) dX8_set_92 (by decide) ?_
            refine xw_iload_n dX8_set_94 rfl ?_
            refine xw_imulN (a := 40) dX8_set_95 ?_
            refine xw_iload_n dX8_set_96 rfl ?_
            refine xw_iaddN dX8_set_97 ?_
            refine xw_ialN _ dX8_set_98 rfl (rfl) (rfl) rfl ?_ ?_
            · omega
            refine xw_cV1E dX8_set_99 okX8_did ml_X8_69 rfl rfl rfl rfl (s_X8_did _) ?_
            refine xw_ireti dX8_set_102 rfl ?_
            simp_all [XE, cutL, xup_same]
          · refine xw_iload_n dX8_set_80 rfl ?_
            refine xw_i2s dX8_set_81 ?_
            refine xw_goto (tgt := 86) dX8_set_82 (by decide) ?_
            refine xw_iasN _ dX8_set_86 rfl (rfl) rfl ?_ ?_
            · omega
            refine xw_aload_n dX8_set_87 rfl ?_
            refine xw_aload_n dX8_set_88 rfl ?_
            refine xw_getR dX8_set_89 fl_X8_16 rfl rfl ?_
            refine xw_bipush (v := 40) dX8_set_92 (by decide) ?_
            refine xw_iload_n dX8_set_94 rfl ?_
            refine xw_imulN (a := 40) dX8_set_95 ?_
            refine xw_iload_n dX8_set_96 rfl ?_
            refine xw_iaddN dX8_set_97 ?_
            refine xw_ialN _ dX8_set_98 rfl (rfl) (rfl) rfl ?_ ?_
            · omega
            refine xw_cV1E dX8_set_99 okX8_did ml_X8_69 rfl rfl rfl rfl (s_X8_did _) ?_
            refine xw_ireti dX8_set_102 rfl ?_
            simp_all [XE, cutL, xup_same]
        · refine xw_iload_n dX8_set_65 rfl ?_
          refine xw_i2b dX8_set_66 ?_
          refine xw_goto (tgt := 86) dX8_set_67 (by decide) ?_
          refine xw_iasN _ dX8_set_86 rfl (rfl) rfl ?_ ?_
          · omega
          refine xw_aload_n dX8_set_87 rfl ?_
          refine xw_aload_n dX8_set_88 rfl ?_
          refine xw_getR dX8_set_89 fl_X8_16 rfl rfl ?_
          refine xw_bipush (v := 40) dX8_set_92 (by decide) ?_
          refine xw_iload_n dX8_set_94 rfl ?_
          refine xw_imulN (a := 40) dX8_set_95 ?_
          refine xw_iload_n dX8_set_96 rfl ?_
          refine xw_iaddN dX8_set_97 ?_
          refine xw_ialN _ dX8_set_98 rfl (rfl) (rfl) rfl ?_ ?_
          · omega
          refine xw_cV1E dX8_set_99 okX8_did ml_X8_69 rfl rfl rfl rfl (s_X8_did _) ?_
          refine xw_ireti dX8_set_102 rfl ?_
          simp_all [XE, cutL, xup_same]
      · exfalso; first | contradiction | (have e0 := nI_lt8 hr; grind) | exact h ((pl_oneM i hs2).mp p34) | exact p34 ((pl_oneM _ hs2).mpr h)
  · exfalso; first | contradiction | (have e0 := nI_lt8 hr; grind) | exact h ((pl_oneM i hs2).mp p34) | exact p34 ((pl_oneM _ hs2).mpr h)
set_option maxRecDepth 20000 in
theorem k_X7_drop_bad {a : Int32} (h : ¬ (0 ≤ a ∧ a < 8)) : XC g l mX7_drop (d + 2) [xr 0, xi a] M (XE (some (xi (-1000001))) (M)) := by
  show XW g l mX7_drop _ 0 [some (xr 0), some (xi a)] [] M _
  refine xw_aload_n dX7_drop_0 rfl ?_
  refine xw_getR dX7_drop_1 fl_X7_10 rfl rfl ?_
  refine xw_iload_n dX7_drop_4 rfl ?_
  refine xw_cV1B dX7_drop_5 okX6_isNumber ml_X7_59 rfl rfl rfl rfl (s_X6_isNumber _) (fun p5 => ?_) (fun p5 => ?_)
  · exfalso; first | contradiction | omega | (have e0 := nI_lt8 hr; grind) | grind | simp_all
  · refine xw_if_ne (tgt := 14) dX7_drop_8 (by decide) (fun q9 => absurd q9 (by decide)) (fun _ => ?_)
    refine xw_ldc dX7_drop_11 kc_X7_66 ?_
    refine xw_ireti dX7_drop_13 rfl ?_
    first | exact ⟨rfl, rfl⟩ | exact ⟨by simp_all, rfl⟩ | grind [XE]
set_option maxRecDepth 20000 in
theorem k_X8_drop_bad {a : Int32} (h : ¬ (0 ≤ a ∧ a < 8)) : XC g l mX8_drop (d + 2) [xr 49, xi a] M (XE (some (xi (-1000001))) (M)) := by
  show XW g l mX8_drop _ 0 [some (xr 49), some (xi a)] [] M _
  refine xw_iload_n dX8_drop_0 rfl ?_
  refine xw_cS1B dX8_drop_1 okX8_isRow ml_X8_60 rfl rfl (s_X8_isRow _) (fun p1 => ?_) (fun p1 => ?_)
  · exfalso; first | contradiction | omega | (have e0 := nI_lt8 hr; grind) | grind | simp_all
  · refine xw_if_ne (tgt := 10) dX8_drop_4 (by decide) (fun q9 => absurd q9 (by decide)) (fun _ => ?_)
    refine xw_ldc dX8_drop_7 kc_X8_64 ?_
    refine xw_ireti dX8_drop_9 rfl ?_
    first | exact ⟨rfl, rfl⟩ | exact ⟨by simp_all, rfl⟩ | grind [XE]
set_option maxRecDepth 20000 in
theorem k_X7_drop_null {r : Nat} (hr : r < 8) (h : M.1 2 r = -1) : XC g l mX7_drop (d + 2) [xr 0, xi (nI r)] M (XE (some (xi (-1000011))) (xup M 0 7 1)) := by
  show XW g l mX7_drop _ 0 [some (xr 0), some (xi (nI r))] [] M _
  refine xw_aload_n dX7_drop_0 rfl ?_
  refine xw_getR dX7_drop_1 fl_X7_10 rfl rfl ?_
  refine xw_iload_n dX7_drop_4 rfl ?_
  refine xw_cV1B dX7_drop_5 okX6_isNumber ml_X7_59 rfl rfl rfl rfl (s_X6_isNumber _) (fun p5 => ?_) (fun p5 => ?_)
  · refine xw_if_ne (tgt := 14) dX7_drop_8 (by decide) (fun _ => ?_) (fun q9 => absurd q9 (by decide))
    refine xw_aload_n dX7_drop_14 rfl ?_
    refine xw_getR dX7_drop_15 fl_X7_10 rfl rfl ?_
    refine xw_iload_n dX7_drop_18 rfl ?_
    refine xw_cV1B dX7_drop_19 okX6_isMissing ml_X7_78 rfl rfl rfl rfl (s_X6_isMissing (by first | assumption | omega)) (fun p19 => ?_) (fun p19 => ?_)
    · refine xw_if_eq (tgt := 31) dX7_drop_22 (by decide) (fun q9 => absurd q9 (by decide)) (fun _ => ?_)
      refine xw_aload_n dX7_drop_25 rfl ?_
      refine xw_iconst (v := 1) dX7_drop_26 (by decide) ?_
      refine xw_cV1E dX7_drop_27 okX7_found ml_X7_67 rfl rfl rfl rfl (s_X7_found _) ?_
      refine xw_ireti dX7_drop_30 rfl ?_
      first | exact ⟨rfl, rfl⟩ | exact ⟨by simp_all, rfl⟩ | grind [XE]
    · exfalso; first | contradiction | (have e0 := nI_lt8 hr; grind)
  · exfalso; first | contradiction | (have e0 := nI_lt8 hr; grind)
set_option maxRecDepth 20000 in
theorem k_X8_drop_null {r : Nat} (hr : r < 8) (h : M.1 50 r = -1000000) : XC g l mX8_drop (d + 2) [xr 49, xi (nI r)] M (XE (some (xi (-1000011))) (xup M 49 3 1)) := by
  show XW g l mX8_drop _ 0 [some (xr 49), some (xi (nI r))] [] M _
  refine xw_iload_n dX8_drop_0 rfl ?_
  refine xw_cS1B dX8_drop_1 okX8_isRow ml_X8_60 rfl rfl (s_X8_isRow _) (fun p1 => ?_) (fun p1 => ?_)
  · refine xw_if_ne (tgt := 10) dX8_drop_4 (by decide) (fun _ => ?_) (fun q9 => absurd q9 (by decide))
    refine xw_aload_n dX8_drop_10 rfl ?_
    refine xw_iload_n dX8_drop_11 rfl ?_
    refine xw_cV1B dX8_drop_12 okX8_isMissing ml_X8_72 rfl rfl rfl rfl (s_X8_isMissing (by first | assumption | omega)) (fun p12 => ?_) (fun p12 => ?_)
    · refine xw_if_eq (tgt := 24) dX8_drop_15 (by decide) (fun q9 => absurd q9 (by decide)) (fun _ => ?_)
      refine xw_aload_n dX8_drop_18 rfl ?_
      refine xw_iconst (v := 1) dX8_drop_19 (by decide) ?_
      refine xw_cV1E dX8_drop_20 okX8_finds ml_X8_65 rfl rfl rfl rfl (s_X8_finds _) ?_
      refine xw_ireti dX8_drop_23 rfl ?_
      first | exact ⟨rfl, rfl⟩ | exact ⟨by simp_all, rfl⟩ | grind [XE]
    · exfalso; first | contradiction | (have e0 := nI_lt8 hr; grind)
  · exfalso; first | contradiction | (have e0 := nI_lt8 hr; grind)
set_option maxRecDepth 20000 in
theorem k_X7_drop_ok {r : Nat} (hr : r < 8) (h : ¬ M.1 2 r = -1) : XC g l mX7_drop (d + 2) [xr 0, xi (nI r)] M (XE (some (xi (M.1 3 r))) (xup (xup M 2 r (-1)) 0 7 0)) := by
  show XW g l mX7_drop _ 0 [some (xr 0), some (xi (nI r))] [] M _
  refine xw_aload_n dX7_drop_0 rfl ?_
  refine xw_getR dX7_drop_1 fl_X7_10 rfl rfl ?_
  refine xw_iload_n dX7_drop_4 rfl ?_
  refine xw_cV1B dX7_drop_5 okX6_isNumber ml_X7_59 rfl rfl rfl rfl (s_X6_isNumber _) (fun p5 => ?_) (fun p5 => ?_)
  · refine xw_if_ne (tgt := 14) dX7_drop_8 (by decide) (fun _ => ?_) (fun q9 => absurd q9 (by decide))
    refine xw_aload_n dX7_drop_14 rfl ?_
    refine xw_getR dX7_drop_15 fl_X7_10 rfl rfl ?_
    refine xw_iload_n dX7_drop_18 rfl ?_
    refine xw_cV1B dX7_drop_19 okX6_isMissing ml_X7_78 rfl rfl rfl rfl (s_X6_isMissing (by first | assumption | omega)) (fun p19 => ?_) (fun p19 => ?_)
    · exfalso; first | contradiction | (have e0 := nI_lt8 hr; grind)
    · refine xw_if_eq (tgt := 31) dX7_drop_22 (by decide) (fun _ => ?_) (fun q9 => absurd q9 (by decide))
      refine xw_aload_n dX7_drop_31 rfl ?_
      refine xw_aload_n dX7_drop_32 rfl ?_
      refine xw_getR dX7_drop_33 fl_X7_10 rfl rfl ?_
      refine xw_iload_n dX7_drop_36 rfl ?_
      refine xw_cV1E dX7_drop_37 okX6_remove ml_X7_96 rfl rfl rfl rfl (s_X6_remove hr) ?_
      refine xw_cV1E dX7_drop_40 okX7_answered ml_X7_75 rfl rfl rfl rfl (s_X7_answered _) ?_
      refine xw_ireti dX7_drop_43 rfl ?_
      first | exact ⟨rfl, rfl⟩ | exact ⟨by simp_all, rfl⟩ | grind [XE]
  · exfalso; first | contradiction | (have e0 := nI_lt8 hr; grind)
set_option maxRecDepth 20000 in
theorem k_X8_drop_ok {r : Nat} (hr : r < 8) (h : ¬ M.1 50 r = -1000000) : XC g l mX8_drop (d + 2) [xr 49, xi (nI r)] M (XE (some (xi (M.1 51 r))) (xup (xup M 50 r (-1000000)) 49 3 0)) := by
  show XW g l mX8_drop _ 0 [some (xr 49), some (xi (nI r))] [] M _
  refine xw_iload_n dX8_drop_0 rfl ?_
  refine xw_cS1B dX8_drop_1 okX8_isRow ml_X8_60 rfl rfl (s_X8_isRow _) (fun p1 => ?_) (fun p1 => ?_)
  · refine xw_if_ne (tgt := 10) dX8_drop_4 (by decide) (fun _ => ?_) (fun q9 => absurd q9 (by decide))
    refine xw_aload_n dX8_drop_10 rfl ?_
    refine xw_iload_n dX8_drop_11 rfl ?_
    refine xw_cV1B dX8_drop_12 okX8_isMissing ml_X8_72 rfl rfl rfl rfl (s_X8_isMissing (by first | assumption | omega)) (fun p12 => ?_) (fun p12 => ?_)
    · exfalso; first | contradiction | (have e0 := nI_lt8 hr; grind)
    · refine xw_if_eq (tgt := 24) dX8_drop_15 (by decide) (fun _ => ?_) (fun q9 => absurd q9 (by decide))
      refine xw_aload_n dX8_drop_24 rfl ?_
      refine xw_getR dX8_drop_25 fl_X8_7 rfl rfl ?_
      refine xw_iload_n dX8_drop_28 rfl ?_
      refine xw_ldc dX8_drop_29 kc_X8_50 ?_
      refine xw_iasN _ dX8_drop_31 rfl (rfl) rfl ?_ ?_
      · omega
      refine xw_aload_n dX8_drop_32 rfl ?_
      refine xw_aload_n dX8_drop_33 rfl ?_
      refine xw_getR dX8_drop_34 fl_X8_13 rfl rfl ?_
      refine xw_iload_n dX8_drop_37 rfl ?_
      refine xw_ialN _ dX8_drop_38 rfl (rfl) (rfl) rfl ?_ ?_
      · omega
      refine xw_cV1E dX8_drop_39 okX8_did ml_X8_69 rfl rfl rfl rfl (s_X8_did _) ?_
      refine xw_ireti dX8_drop_42 rfl ?_
      exact ⟨by rw [xup_cell _ _ (by decide)], rfl⟩
  · exfalso; first | contradiction | (have e0 := nI_lt8 hr; grind)
end PUBROWS
