section PUB27
variable {g : XG} {l : Launch} {d : Nat} {M : XM}
/-- Field f becomes Field o -/
def becM (M : XM) (f o : Nat) : XM := (fun c j => if c = f then (if j < 4 then M.1 o j else M.1 f j) else if f + 1 ≤ c ∧ c ≤ f + 2 then (if j < 8 then M.1 (o + (c - f)) j else M.1 c j) else if f + 3 ≤ c ∧ c ≤ f + 7 then (if j < 6 then M.1 (o + (c - f)) j else M.1 c j) else M.1 c j, M.2)
theorem cpy00 (f g : Nat → Int32) (n j : Nat) : va_cpy f g 0 0 n j = if j < n then f j else g j := by
  unfold va_cpy
  by_cases h : j < n
  · rw [if_pos ⟨Nat.zero_le _, by omega⟩, if_pos h]; simp
  · rw [if_neg (by omega), if_neg h]
/-- cell c of f, its first n places those of cell e -/
def becA (M : XM) (c e n : Nat) : XM := xum M c (va_cpy (M.1 e) (M.1 c) 0 0 n)
theorem becA_at (M : XM) (c e n a j : Nat) : (becA M c e n).1 a j = if a = c ∧ j < n then M.1 e j else M.1 a j := by
  unfold becA
  rw [xum_at, cpy00]
  by_cases h : a = c
  · subst h; simp
  · simp [h]
def becS (M : XM) (f o : Nat) : XM := xup (xup (xup (xup M f 0 (M.1 o 0)) f 1 (M.1 o 1)) f 2 (M.1 o 2)) f 3 (M.1 o 3)
theorem becS_at (M : XM) (f o a j : Nat) : (becS M f o).1 a j = if a = f ∧ j < 4 then M.1 o j else M.1 a j := by
  unfold becS
  simp only [xup_at]
  by_cases h : a = f
  · subst h
    rcases (show j = 0 ∨ j = 1 ∨ j = 2 ∨ j = 3 ∨ 4 ≤ j by omega) with rfl | rfl | rfl | rfl | h
    · simp
    · simp
    · simp
    · simp
    · rw [if_neg (by omega), if_neg (by omega), if_neg (by omega), if_neg (by omega), if_neg (by omega)]
  · simp [h]
theorem bec_eq (M : XM) (f o : Nat) (h : f + 7 < o ∨ o + 7 < f) : becA (becA (becA (becA (becA (becA (becA (becS M f o) (f + 1) (o + 1) 8) (f + 2) (o + 2) 8) (f + 3) (o + 3) 6) (f + 4) (o + 4) 6) (f + 5) (o + 5) 6) (f + 6) (o + 6) 6) (f + 7) (o + 7) 6 = becM M f o := by
  refine xm_ext (fun c j => ?_) (fun _ _ => rfl)
  unfold becM
  simp only [becA_at, becS_at]
  rcases (show c = f ∨ c = f + 1 ∨ c = f + 2 ∨ c = f + 3 ∨ c = f + 4 ∨ c = f + 5 ∨ c = f + 6 ∨ c = f + 7 ∨ (c < f ∨ f + 7 < c) by omega) with rfl | rfl | rfl | rfl | rfl | rfl | rfl | rfl | z
  iterate 8 (focus grind)
  rw [if_neg (show ¬ (c = f + 7 ∧ j < 6) by omega), if_neg (show ¬ (c = f + 6 ∧ j < 6) by omega), if_neg (show ¬ (c = f + 5 ∧ j < 6) by omega), if_neg (show ¬ (c = f + 4 ∧ j < 6) by omega), if_neg (show ¬ (c = f + 3 ∧ j < 6) by omega), if_neg (show ¬ (c = f + 2 ∧ j < 8) by omega), if_neg (show ¬ (c = f + 1 ∧ j < 8) by omega), if_neg (show ¬ (c = f ∧ j < 4) by omega), if_neg (show ¬ c = f by omega), if_neg (show ¬ (f + 1 ≤ c ∧ c ≤ f + 2) by omega), if_neg (show ¬ (f + 3 ≤ c ∧ c ≤ f + 7) by omega)]
set_option maxRecDepth 20000 in
theorem s_X1_become {f o : Nat} (hF : XF f) (hO : XF o) (h : f + 7 < o ∨ o + 7 < f) : XC g l mX1_become (d + 1) [xr f, xr o] M (XE none (becM M f o)) := by
  rw [← bec_eq M f o h]
  show XW g l mX1_become _ 0 [some (xr f), some (xr o)] [] M _
  refine xw_aload_n dX1_become_0 rfl ?_
  refine xw_aload_n dX1_become_1 rfl ?_
  refine xw_getI dX1_become_2 fl_X1_9 hO.1 rfl ?_
  refine xw_putI dX1_become_5 fp_X1_9 hF.1 rfl ?_
  refine xw_aload_n dX1_become_8 rfl ?_
  refine xw_aload_n dX1_become_9 rfl ?_
  refine xw_getV dX1_become_10 fl_X1_15 hO.1 rfl (show _ = M.1 o 1 by rw [xup_cell _ _ (by omega)]) ?_
  refine xw_putI dX1_become_13 fp_X1_15 hF.1 rfl ?_
  refine xw_aload_n dX1_become_16 rfl ?_
  refine xw_aload_n dX1_become_17 rfl ?_
  refine xw_getV dX1_become_18 fl_X1_18 hO.1 rfl (show _ = M.1 o 2 by rw [xup_cell _ _ (by omega), xup_cell _ _ (by omega)]) ?_
  refine xw_putI dX1_become_21 fp_X1_18 hF.1 rfl ?_
  refine xw_aload_n dX1_become_24 rfl ?_
  refine xw_aload_n dX1_become_25 rfl ?_
  refine xw_getV dX1_become_26 fl_X1_21 hO.1 rfl (show _ = M.1 o 3 by rw [xup_cell _ _ (by omega), xup_cell _ _ (by omega), xup_cell _ _ (by omega)]) ?_
  refine xw_putI dX1_become_29 fp_X1_21 hF.1 rfl ?_
  refine xw_aload_n dX1_become_32 rfl ?_
  refine xw_getR dX1_become_33 fl_X1_24 hO.1 rfl ?_
  refine xw_iconst (v := 0) dX1_become_36 (by decide) ?_
  refine xw_aload_n dX1_become_37 rfl ?_
  refine xw_getR dX1_become_38 fl_X1_24 hF.1 rfl ?_
  refine xw_iconst (v := 0) dX1_become_41 (by decide) ?_
  refine xw_bipush (v := 8) dX1_become_42 (by decide) ?_
  refine xw_acopyN (n := 8) (dp := 0) (sp := 0) dX1_become_44 ml_X1_46 kz_arraycopy rfl hO.2.1 hF.2.1 rfl rfl (by omega) (by omega) ?_
  refine xw_aload_n dX1_become_47 rfl ?_
  refine xw_getR dX1_become_48 fl_X1_28 hO.1 rfl ?_
  refine xw_iconst (v := 0) dX1_become_51 (by decide) ?_
  refine xw_aload_n dX1_become_52 rfl ?_
  refine xw_getR dX1_become_53 fl_X1_28 hF.1 rfl ?_
  refine xw_iconst (v := 0) dX1_become_56 (by decide) ?_
  refine xw_bipush (v := 8) dX1_become_57 (by decide) ?_
  refine xw_acopyN (n := 8) (dp := 0) (sp := 0) dX1_become_59 ml_X1_46 kz_arraycopy rfl hO.2.2.1 hF.2.2.1 rfl rfl (by omega) (by omega) ?_
  refine xw_aload_n dX1_become_62 rfl ?_
  refine xw_getR dX1_become_63 fl_X1_31 hO.1 rfl ?_
  refine xw_iconst (v := 0) dX1_become_66 (by decide) ?_
  refine xw_aload_n dX1_become_67 rfl ?_
  refine xw_getR dX1_become_68 fl_X1_31 hF.1 rfl ?_
  refine xw_iconst (v := 0) dX1_become_71 (by decide) ?_
  refine xw_bipush (v := 6) dX1_become_72 (by decide) ?_
  refine xw_acopyN (n := 6) (dp := 0) (sp := 0) dX1_become_74 ml_X1_46 kz_arraycopy rfl hO.2.2.2.1 hF.2.2.2.1 rfl rfl (by omega) (by omega) ?_
  refine xw_aload_n dX1_become_77 rfl ?_
  refine xw_getR dX1_become_78 fl_X1_34 hO.1 rfl ?_
  refine xw_iconst (v := 0) dX1_become_81 (by decide) ?_
  refine xw_aload_n dX1_become_82 rfl ?_
  refine xw_getR dX1_become_83 fl_X1_34 hF.1 rfl ?_
  refine xw_iconst (v := 0) dX1_become_86 (by decide) ?_
  refine xw_bipush (v := 6) dX1_become_87 (by decide) ?_
  refine xw_acopyN (n := 6) (dp := 0) (sp := 0) dX1_become_89 ml_X1_46 kz_arraycopy rfl hO.2.2.2.2.1 hF.2.2.2.2.1 rfl rfl (by omega) (by omega) ?_
  refine xw_aload_n dX1_become_92 rfl ?_
  refine xw_getR dX1_become_93 fl_X1_37 hO.1 rfl ?_
  refine xw_iconst (v := 0) dX1_become_96 (by decide) ?_
  refine xw_aload_n dX1_become_97 rfl ?_
  refine xw_getR dX1_become_98 fl_X1_37 hF.1 rfl ?_
  refine xw_iconst (v := 0) dX1_become_101 (by decide) ?_
  refine xw_bipush (v := 6) dX1_become_102 (by decide) ?_
  refine xw_acopyN (n := 6) (dp := 0) (sp := 0) dX1_become_104 ml_X1_46 kz_arraycopy rfl hO.2.2.2.2.2.1 hF.2.2.2.2.2.1 rfl rfl (by omega) (by omega) ?_
  refine xw_aload_n dX1_become_107 rfl ?_
  refine xw_getR dX1_become_108 fl_X1_40 hO.1 rfl ?_
  refine xw_iconst (v := 0) dX1_become_111 (by decide) ?_
  refine xw_aload_n dX1_become_112 rfl ?_
  refine xw_getR dX1_become_113 fl_X1_40 hF.1 rfl ?_
  refine xw_iconst (v := 0) dX1_become_116 (by decide) ?_
  refine xw_bipush (v := 6) dX1_become_117 (by decide) ?_
  refine xw_acopyN (n := 6) (dp := 0) (sp := 0) dX1_become_119 ml_X1_46 kz_arraycopy rfl hO.2.2.2.2.2.2.1 hF.2.2.2.2.2.2.1 rfl rfl (by omega) (by omega) ?_
  refine xw_aload_n dX1_become_122 rfl ?_
  refine xw_getR dX1_become_123 fl_X1_43 hO.1 rfl ?_
  refine xw_iconst (v := 0) dX1_become_126 (by decide) ?_
  refine xw_aload_n dX1_become_127 rfl ?_
  refine xw_getR dX1_become_128 fl_X1_43 hF.1 rfl ?_
  refine xw_iconst (v := 0) dX1_become_131 (by decide) ?_
  refine xw_bipush (v := 6) dX1_become_132 (by decide) ?_
  refine xw_acopyN (n := 6) (dp := 0) (sp := 0) dX1_become_134 ml_X1_46 kz_arraycopy rfl hO.2.2.2.2.2.2.2 hF.2.2.2.2.2.2.2 rfl rfl (by omega) (by omega) ?_
  refine xw_ret dX1_become_137 rfl ?_
  first | exact ⟨rfl, rfl⟩ | exact ⟨rfl, by simp_all⟩
set_option maxRecDepth 20000 in
theorem k_X7_image_bad {k : Int32} (h : ¬ (0 ≤ k ∧ k < 2)) : XC g l mX7_image (d + 2) [xr 0, xi k] M (XE (some (xi (-1000001))) M) := by
  show XW g l mX7_image _ 0 [some (xr 0), some (xi k)] [] M _
  refine xw_iload_n dX7_image_0 rfl ?_
  refine xw_if_lt (tgt := 9) dX7_image_1 (by decide) (fun c1 => ?_) (fun c1 => ?_)
  · refine xw_ldc dX7_image_9 kc_X7_66 ?_
    refine xw_ireti dX7_image_11 rfl ?_
    first | exact ⟨rfl, rfl⟩ | exact ⟨by simp_all, rfl⟩ | grind [XE]
  · refine xw_iload_n dX7_image_4 rfl ?_
    refine xw_iconst (v := 2) dX7_image_5 (by decide) ?_
    refine xw_icmp_lt (tgt := 12) dX7_image_6 (by decide) (fun c6 => ?_) (fun c6 => ?_)
    · exfalso; first | contradiction | omega | grind | simp_all
    · refine xw_ldc dX7_image_9 kc_X7_66 ?_
      refine xw_ireti dX7_image_11 rfl ?_
      first | exact ⟨rfl, rfl⟩ | exact ⟨by simp_all, rfl⟩ | grind [XE]
set_option maxRecDepth 20000 in
theorem k_X8_image_bad {k : Int32} (h : ¬ (0 ≤ k ∧ k < 2)) : XC g l mX8_image (d + 1) [xr 49, xi k] M (XE (some (xi (-1000001))) M) := by
  show XW g l mX8_image _ 0 [some (xr 49), some (xi k), none] [] M _
  refine xw_iload_n dX8_image_0 rfl ?_
  refine xw_iconst (v := 0) dX8_image_1 (by decide) ?_
  refine xw_iconst (v := 1) dX8_image_2 (by decide) ?_
  refine xw_cS3B dX8_image_3 okX8_in ml_X8_56 rfl rfl (s_X8_in _ _ _) (fun p3 => ?_) (fun p3 => ?_)
  · exfalso; first | contradiction | omega | grind | simp_all
  · refine xw_if_ne (tgt := 12) dX8_image_6 (by decide) (fun q9 => absurd q9 (by decide)) (fun _ => ?_)
    refine xw_ldc dX8_image_9 kc_X8_64 ?_
    refine xw_ireti dX8_image_11 rfl ?_
    first | exact ⟨rfl, rfl⟩ | exact ⟨by simp_all, rfl⟩ | grind [XE]
set_option maxRecDepth 20000 in
theorem k_X7_image_state {k : Nat} (hk : k < 2) (h : ¬ 0 < M.1 8 2) : XC g l mX7_image (d + 2) [xr 0, xi (nI k)] M (XE (some (xi (-1000002))) M) := by
  show XW g l mX7_image _ 0 [some (xr 0), some (xi (nI k))] [] M _
  refine xw_iload_n dX7_image_0 rfl ?_
  refine xw_if_ltN (tgt := 9) dX7_image_1 (by decide) (by omega) ?_
  refine xw_iload_n dX7_image_4 rfl ?_
  refine xw_iconst (v := 2) dX7_image_5 (by decide) ?_
  refine xw_icmp_ltN (b := 2) (tgt := 12) dX7_image_6 (by decide) (by omega) (fun c6 => ?_) (fun c6 => ?_)
  · refine xw_aload_n dX7_image_12 rfl ?_
    refine xw_getR dX7_image_13 fl_X7_26 rfl rfl ?_
    refine xw_cV0B dX7_image_16 okX1_isThere ml_X7_148 rfl rfl rfl rfl (s_X1_isThere xf_8) (fun p16 => ?_) (fun p16 => ?_)
    · exfalso; first | omega | contradiction
    · refine xw_if_ne (tgt := 25) dX7_image_19 (by decide) (fun q9 => absurd q9 (by decide)) (fun _ => ?_)
      refine xw_ldc dX7_image_22 kc_X7_143 ?_
      refine xw_ireti dX7_image_24 rfl ?_
      first | exact ⟨rfl, rfl⟩ | exact ⟨by simp_all, rfl⟩ | grind [XE]
  · exfalso; first | omega | contradiction
set_option maxRecDepth 20000 in
theorem k_X8_image_state {k : Nat} (hk : k < 2) (h : M.1 54 0 = 0) : XC g l mX8_image (d + 1) [xr 49, xi (nI k)] M (XE (some (xi (-1000002))) M) := by
  have e2 : (0 : Int32) ≤ nI k ∧ nI k ≤ 1 := ⟨nI_pos' (by omega), nI_le (b := 1) (by omega) (by decide)⟩
  show XW g l mX8_image _ 0 [some (xr 49), some (xi (nI k)), none] [] M _
  refine xw_iload_n dX8_image_0 rfl ?_
  refine xw_iconst (v := 0) dX8_image_1 (by decide) ?_
  refine xw_iconst (v := 1) dX8_image_2 (by decide) ?_
  refine xw_cS3B dX8_image_3 okX8_in ml_X8_56 rfl rfl (s_X8_in _ _ _) (fun p3 => ?_) (fun p3 => ?_)
  · refine xw_if_ne (tgt := 12) dX8_image_6 (by decide) (fun _ => ?_) (fun q9 => absurd q9 (by decide))
    refine xw_aload_n dX8_image_12 rfl ?_
    refine xw_getR dX8_image_13 fl_X8_22 rfl rfl ?_
    refine xw_iconst (v := 0) dX8_image_16 (by decide) ?_
    refine xw_ialN 0 dX8_image_17 rfl (rfl) (rfl) rfl ?_ ?_
    · omega
    refine xw_if_ne (tgt := 24) dX8_image_18 (by decide) (fun c18 => ?_) (fun c18 => ?_)
    · exfalso; first | omega | contradiction
    · refine xw_ldc dX8_image_21 kc_X8_205 ?_
      refine xw_ireti dX8_image_23 rfl ?_
      first | exact ⟨rfl, rfl⟩ | exact ⟨by simp_all, rfl⟩ | grind [XE]
  · exfalso; first | omega | contradiction
set_option maxRecDepth 20000 in
theorem k_X7_image_ok0 (h : 0 < M.1 8 2) : XC g l mX7_image (d + 2) [xr 0, xi (nI 0)] M (XE (some (xi 1)) (becM M 24 8)) := by
  show XW g l mX7_image _ 0 [some (xr 0), some (xi (nI 0))] [] M _
  refine xw_iload_n dX7_image_0 rfl ?_
  refine xw_if_lt (tgt := 9) dX7_image_1 (by decide) (fun q9 => absurd q9 (by decide)) (fun _ => ?_)
  refine xw_iload_n dX7_image_4 rfl ?_
  refine xw_iconst (v := 2) dX7_image_5 (by decide) ?_
  refine xw_icmp_lt (tgt := 12) dX7_image_6 (by decide) (fun _ => ?_) (fun q9 => absurd q9 (by decide))
  refine xw_aload_n dX7_image_12 rfl ?_
  refine xw_getR dX7_image_13 fl_X7_26 rfl rfl ?_
  refine xw_cV0B dX7_image_16 okX1_isThere ml_X7_148 rfl rfl rfl rfl (s_X1_isThere xf_8) (fun p16 => ?_) (fun p16 => ?_)
  · refine xw_if_ne (tgt := 25) dX7_image_19 (by decide) (fun _ => ?_) (fun q9 => absurd q9 (by decide))
    refine xw_aload_n dX7_image_25 rfl ?_
    refine xw_getR dX7_image_26 fl_X7_30 rfl rfl ?_
    refine xw_iload_n dX7_image_29 rfl ?_
    refine xw_aalN 0 dX7_image_30 rfl (rfl) rfl ?_ ?_
    · omega
    refine xw_aload_n dX7_image_31 rfl ?_
    refine xw_getR dX7_image_32 fl_X7_26 rfl rfl ?_
    refine xw_cV1N dX7_image_35 okX1_become ml_X7_120 rfl rfl rfl rfl (s_X1_become (f := 24) (o := 8) (xf_im (k := 0) (by decide)) xf_8 (by omega)) ?_
    refine xw_iconst (v := 1) dX7_image_38 (by decide) ?_
    refine xw_ireti dX7_image_39 rfl ?_
    first | exact ⟨rfl, rfl⟩ | exact ⟨by simp_all, rfl⟩ | grind [XE]
  · exfalso; first | omega | contradiction
set_option maxRecDepth 20000 in
theorem k_X7_restore_state0 (h : ¬ 0 < M.1 24 2) : XC g l mX7_restore (d + 2) [xr 0, xi (nI 0)] M (XE (some (xi (-1000002))) M) := by
  show XW g l mX7_restore _ 0 [some (xr 0), some (xi (nI 0))] [] M _
  refine xw_iload_n dX7_restore_0 rfl ?_
  refine xw_if_lt (tgt := 9) dX7_restore_1 (by decide) (fun q9 => absurd q9 (by decide)) (fun _ => ?_)
  refine xw_iload_n dX7_restore_4 rfl ?_
  refine xw_iconst (v := 2) dX7_restore_5 (by decide) ?_
  refine xw_icmp_lt (tgt := 12) dX7_restore_6 (by decide) (fun _ => ?_) (fun q9 => absurd q9 (by decide))
  refine xw_aload_n dX7_restore_12 rfl ?_
  refine xw_getR dX7_restore_13 fl_X7_30 rfl rfl ?_
  refine xw_iload_n dX7_restore_16 rfl ?_
  refine xw_aalN 0 dX7_restore_17 rfl (rfl) rfl ?_ ?_
  · omega
  refine xw_cV0B dX7_restore_18 okX1_isThere ml_X7_148 rfl rfl rfl rfl (s_X1_isThere (f := 24) (xf_im (k := 0) (by decide))) (fun p18 => ?_) (fun p18 => ?_)
  · exfalso; first | omega | contradiction
  · refine xw_if_ne (tgt := 27) dX7_restore_21 (by decide) (fun q9 => absurd q9 (by decide)) (fun _ => ?_)
    refine xw_ldc dX7_restore_24 kc_X7_143 ?_
    refine xw_ireti dX7_restore_26 rfl ?_
    first | exact ⟨rfl, rfl⟩ | exact ⟨by simp_all, rfl⟩ | grind [XE]
set_option maxRecDepth 20000 in
theorem k_X7_restore_ok0 (h : 0 < M.1 24 2) : XC g l mX7_restore (d + 2) [xr 0, xi (nI 0)] M (XE (some (xi 1)) (xup (becM M 8 24) 40 3 0)) := by
  show XW g l mX7_restore _ 0 [some (xr 0), some (xi (nI 0))] [] M _
  refine xw_iload_n dX7_restore_0 rfl ?_
  refine xw_if_lt (tgt := 9) dX7_restore_1 (by decide) (fun q9 => absurd q9 (by decide)) (fun _ => ?_)
  refine xw_iload_n dX7_restore_4 rfl ?_
  refine xw_iconst (v := 2) dX7_restore_5 (by decide) ?_
  refine xw_icmp_lt (tgt := 12) dX7_restore_6 (by decide) (fun _ => ?_) (fun q9 => absurd q9 (by decide))
  refine xw_aload_n dX7_restore_12 rfl ?_
  refine xw_getR dX7_restore_13 fl_X7_30 rfl rfl ?_
  refine xw_iload_n dX7_restore_16 rfl ?_
  refine xw_aalN 0 dX7_restore_17 rfl (rfl) rfl ?_ ?_
  · omega
  refine xw_cV0B dX7_restore_18 okX1_isThere ml_X7_148 rfl rfl rfl rfl (s_X1_isThere (f := 24) (xf_im (k := 0) (by decide))) (fun p18 => ?_) (fun p18 => ?_)
  · refine xw_if_ne (tgt := 27) dX7_restore_21 (by decide) (fun _ => ?_) (fun q9 => absurd q9 (by decide))
    refine xw_aload_n dX7_restore_27 rfl ?_
    refine xw_getR dX7_restore_28 fl_X7_26 rfl rfl ?_
    refine xw_aload_n dX7_restore_31 rfl ?_
    refine xw_getR dX7_restore_32 fl_X7_30 rfl rfl ?_
    refine xw_iload_n dX7_restore_35 rfl ?_
    refine xw_aalN 0 dX7_restore_36 rfl (rfl) rfl ?_ ?_
    · omega
    refine xw_cV1N dX7_restore_37 okX1_become ml_X7_120 rfl rfl rfl rfl (s_X1_become (f := 8) (o := 24) xf_8 (xf_im (k := 0) (by decide)) (by omega)) ?_
    refine xw_aload_n dX7_restore_40 rfl ?_
    refine xw_getR dX7_restore_41 fl_X7_37 rfl rfl ?_
    refine xw_cV0N dX7_restore_44 okX3_forgetAll ml_X7_124 rfl rfl rfl rfl (s_X3_forgetAll) ?_
    refine xw_iconst (v := 1) dX7_restore_47 (by decide) ?_
    refine xw_ireti dX7_restore_48 rfl ?_
    first | exact ⟨rfl, rfl⟩ | exact ⟨by simp_all, rfl⟩ | grind [XE]
  · exfalso; first | omega | contradiction
set_option maxRecDepth 20000 in
theorem k_X7_image_ok1 (h : 0 < M.1 8 2) : XC g l mX7_image (d + 2) [xr 0, xi (nI 1)] M (XE (some (xi 1)) (becM M 32 8)) := by
  show XW g l mX7_image _ 0 [some (xr 0), some (xi (nI 1))] [] M _
  refine xw_iload_n dX7_image_0 rfl ?_
  refine xw_if_lt (tgt := 9) dX7_image_1 (by decide) (fun q9 => absurd q9 (by decide)) (fun _ => ?_)
  refine xw_iload_n dX7_image_4 rfl ?_
  refine xw_iconst (v := 2) dX7_image_5 (by decide) ?_
  refine xw_icmp_lt (tgt := 12) dX7_image_6 (by decide) (fun _ => ?_) (fun q9 => absurd q9 (by decide))
  refine xw_aload_n dX7_image_12 rfl ?_
  refine xw_getR dX7_image_13 fl_X7_26 rfl rfl ?_
  refine xw_cV0B dX7_image_16 okX1_isThere ml_X7_148 rfl rfl rfl rfl (s_X1_isThere xf_8) (fun p16 => ?_) (fun p16 => ?_)
  · refine xw_if_ne (tgt := 25) dX7_image_19 (by decide) (fun _ => ?_) (fun q9 => absurd q9 (by decide))
    refine xw_aload_n dX7_image_25 rfl ?_
    refine xw_getR dX7_image_26 fl_X7_30 rfl rfl ?_
    refine xw_iload_n dX7_image_29 rfl ?_
    refine xw_aalN 1 dX7_image_30 rfl (rfl) rfl ?_ ?_
    · omega
    refine xw_aload_n dX7_image_31 rfl ?_
    refine xw_getR dX7_image_32 fl_X7_26 rfl rfl ?_
    refine xw_cV1N dX7_image_35 okX1_become ml_X7_120 rfl rfl rfl rfl (s_X1_become (f := 32) (o := 8) (xf_im (k := 1) (by decide)) xf_8 (by omega)) ?_
    refine xw_iconst (v := 1) dX7_image_38 (by decide) ?_
    refine xw_ireti dX7_image_39 rfl ?_
    first | exact ⟨rfl, rfl⟩ | exact ⟨by simp_all, rfl⟩ | grind [XE]
  · exfalso; first | omega | contradiction
set_option maxRecDepth 20000 in
theorem k_X7_restore_state1 (h : ¬ 0 < M.1 32 2) : XC g l mX7_restore (d + 2) [xr 0, xi (nI 1)] M (XE (some (xi (-1000002))) M) := by
  show XW g l mX7_restore _ 0 [some (xr 0), some (xi (nI 1))] [] M _
  refine xw_iload_n dX7_restore_0 rfl ?_
  refine xw_if_lt (tgt := 9) dX7_restore_1 (by decide) (fun q9 => absurd q9 (by decide)) (fun _ => ?_)
  refine xw_iload_n dX7_restore_4 rfl ?_
  refine xw_iconst (v := 2) dX7_restore_5 (by decide) ?_
  refine xw_icmp_lt (tgt := 12) dX7_restore_6 (by decide) (fun _ => ?_) (fun q9 => absurd q9 (by decide))
  refine xw_aload_n dX7_restore_12 rfl ?_
  refine xw_getR dX7_restore_13 fl_X7_30 rfl rfl ?_
  refine xw_iload_n dX7_restore_16 rfl ?_
  refine xw_aalN 1 dX7_restore_17 rfl (rfl) rfl ?_ ?_
  · omega
  refine xw_cV0B dX7_restore_18 okX1_isThere ml_X7_148 rfl rfl rfl rfl (s_X1_isThere (f := 32) (xf_im (k := 1) (by decide))) (fun p18 => ?_) (fun p18 => ?_)
  · exfalso; first | omega | contradiction
  · refine xw_if_ne (tgt := 27) dX7_restore_21 (by decide) (fun q9 => absurd q9 (by decide)) (fun _ => ?_)
    refine xw_ldc dX7_restore_24 kc_X7_143 ?_
    refine xw_ireti dX7_restore_26 rfl ?_
    first | exact ⟨rfl, rfl⟩ | exact ⟨by simp_all, rfl⟩ | grind [XE]
set_option maxRecDepth 20000 in
theorem k_X7_restore_ok1 (h : 0 < M.1 32 2) : XC g l mX7_restore (d + 2) [xr 0, xi (nI 1)] M (XE (some (xi 1)) (xup (becM M 8 32) 40 3 0)) := by
  show XW g l mX7_restore _ 0 [some (xr 0), some (xi (nI 1))] [] M _
  refine xw_iload_n dX7_restore_0 rfl ?_
  refine xw_if_lt (tgt := 9) dX7_restore_1 (by decide) (fun q9 => absurd q9 (by decide)) (fun _ => ?_)
  refine xw_iload_n dX7_restore_4 rfl ?_
  refine xw_iconst (v := 2) dX7_restore_5 (by decide) ?_
  refine xw_icmp_lt (tgt := 12) dX7_restore_6 (by decide) (fun _ => ?_) (fun q9 => absurd q9 (by decide))
  refine xw_aload_n dX7_restore_12 rfl ?_
  refine xw_getR dX7_restore_13 fl_X7_30 rfl rfl ?_
  refine xw_iload_n dX7_restore_16 rfl ?_
  refine xw_aalN 1 dX7_restore_17 rfl (rfl) rfl ?_ ?_
  · omega
  refine xw_cV0B dX7_restore_18 okX1_isThere ml_X7_148 rfl rfl rfl rfl (s_X1_isThere (f := 32) (xf_im (k := 1) (by decide))) (fun p18 => ?_) (fun p18 => ?_)
  · refine xw_if_ne (tgt := 27) dX7_restore_21 (by decide) (fun _ => ?_) (fun q9 => absurd q9 (by decide))
    refine xw_aload_n dX7_restore_27 rfl ?_
    refine xw_getR dX7_restore_28 fl_X7_26 rfl rfl ?_
    refine xw_aload_n dX7_restore_31 rfl ?_
    refine xw_getR dX7_restore_32 fl_X7_30 rfl rfl ?_
    refine xw_iload_n dX7_restore_35 rfl ?_
    refine xw_aalN 1 dX7_restore_36 rfl (rfl) rfl ?_ ?_
    · omega
    refine xw_cV1N dX7_restore_37 okX1_become ml_X7_120 rfl rfl rfl rfl (s_X1_become (f := 8) (o := 32) xf_8 (xf_im (k := 1) (by decide)) (by omega)) ?_
    refine xw_aload_n dX7_restore_40 rfl ?_
    refine xw_getR dX7_restore_41 fl_X7_37 rfl rfl ?_
    refine xw_cV0N dX7_restore_44 okX3_forgetAll ml_X7_124 rfl rfl rfl rfl (s_X3_forgetAll) ?_
    refine xw_iconst (v := 1) dX7_restore_47 (by decide) ?_
    refine xw_ireti dX7_restore_48 rfl ?_
    first | exact ⟨rfl, rfl⟩ | exact ⟨by simp_all, rfl⟩ | grind [XE]
  · exfalso; first | omega | contradiction
set_option maxRecDepth 20000 in
theorem k_X7_restore_bad {k : Int32} (h : ¬ (0 ≤ k ∧ k < 2)) : XC g l mX7_restore (d + 2) [xr 0, xi k] M (XE (some (xi (-1000001))) M) := by
  show XW g l mX7_restore _ 0 [some (xr 0), some (xi k)] [] M _
  refine xw_iload_n dX7_restore_0 rfl ?_
  refine xw_if_lt (tgt := 9) dX7_restore_1 (by decide) (fun c1 => ?_) (fun c1 => ?_)
  · refine xw_ldc dX7_restore_9 kc_X7_66 ?_
    refine xw_ireti dX7_restore_11 rfl ?_
    first | exact ⟨rfl, rfl⟩ | exact ⟨by simp_all, rfl⟩ | grind [XE]
  · refine xw_iload_n dX7_restore_4 rfl ?_
    refine xw_iconst (v := 2) dX7_restore_5 (by decide) ?_
    refine xw_icmp_lt (tgt := 12) dX7_restore_6 (by decide) (fun c6 => ?_) (fun c6 => ?_)
    · exfalso; first | contradiction | omega | grind | simp_all
    · refine xw_ldc dX7_restore_9 kc_X7_66 ?_
      refine xw_ireti dX7_restore_11 rfl ?_
      first | exact ⟨rfl, rfl⟩ | exact ⟨by simp_all, rfl⟩ | grind [XE]
set_option maxRecDepth 20000 in
theorem k_X8_restore_bad {k : Int32} (h : ¬ (0 ≤ k ∧ k < 2)) : XC g l mX8_restore (d + 1) [xr 49, xi k] M (XE (some (xi (-1000001))) M) := by
  show XW g l mX8_restore _ 0 [some (xr 49), some (xi k), none] [] M _
  refine xw_iload_n dX8_restore_0 rfl ?_
  refine xw_iconst (v := 0) dX8_restore_1 (by decide) ?_
  refine xw_iconst (v := 1) dX8_restore_2 (by decide) ?_
  refine xw_cS3B dX8_restore_3 okX8_in ml_X8_56 rfl rfl (s_X8_in _ _ _) (fun p3 => ?_) (fun p3 => ?_)
  · exfalso; first | contradiction | omega | grind | simp_all
  · refine xw_if_ne (tgt := 12) dX8_restore_6 (by decide) (fun q9 => absurd q9 (by decide)) (fun _ => ?_)
    refine xw_ldc dX8_restore_9 kc_X8_64 ?_
    refine xw_ireti dX8_restore_11 rfl ?_
    first | exact ⟨rfl, rfl⟩ | exact ⟨by simp_all, rfl⟩ | grind [XE]
set_option maxRecDepth 20000 in
theorem k_X8_restore_state {k : Nat} (hk : k < 2) (h : M.1 57 k = 0) : XC g l mX8_restore (d + 1) [xr 49, xi (nI k)] M (XE (some (xi (-1000002))) M) := by
  have e2 : (0 : Int32) ≤ nI k ∧ nI k ≤ 1 := ⟨nI_pos' (by omega), nI_le (b := 1) (by omega) (by decide)⟩
  show XW g l mX8_restore _ 0 [some (xr 49), some (xi (nI k)), none] [] M _
  refine xw_iload_n dX8_restore_0 rfl ?_
  refine xw_iconst (v := 0) dX8_restore_1 (by decide) ?_
  refine xw_iconst (v := 1) dX8_restore_2 (by decide) ?_
  refine xw_cS3B dX8_restore_3 okX8_in ml_X8_56 rfl rfl (s_X8_in _ _ _) (fun p3 => ?_) (fun p3 => ?_)
  · refine xw_if_ne (tgt := 12) dX8_restore_6 (by decide) (fun _ => ?_) (fun q9 => absurd q9 (by decide))
    refine xw_aload_n dX8_restore_12 rfl ?_
    refine xw_getR dX8_restore_13 fl_X8_31 rfl rfl ?_
    refine xw_iload_n dX8_restore_16 rfl ?_
    refine xw_zalN _ dX8_restore_17 rfl (rfl) (rfl) rfl ?_ ?_
    · omega
    refine xw_if_ne (tgt := 24) dX8_restore_18 (by decide) (fun c18 => ?_) (fun c18 => ?_)
    · exfalso; first | omega | contradiction
    · refine xw_ldc dX8_restore_21 kc_X8_205 ?_
      refine xw_ireti dX8_restore_23 rfl ?_
      first | exact ⟨rfl, rfl⟩ | exact ⟨by simp_all, rfl⟩ | grind [XE]
  · exfalso; first | omega | contradiction
def imM (M : XM) (k t : Nat) : XM := xum M 56 (fun i => if 168 * k + 0 ≤ i ∧ i < 168 * k + t then M.1 54 (i - 168 * k) else M.1 56 i)
def reM (M : XM) (k t : Nat) : XM := xum M 54 (fun i => if i < t then M.1 56 (168 * k + i) else M.1 54 i)
theorem imM_at (M : XM) (k t a b : Nat) : (imM M k t).1 a b = if a = 56 ∧ 168 * k ≤ b ∧ b < 168 * k + t then M.1 54 (b - 168 * k) else M.1 a b := by
  unfold imM
  rw [xum_at]
  by_cases e : a = 56
  · subst e; simp
  · simp [e]
theorem reM_at (M : XM) (k t a b : Nat) : (reM M k t).1 a b = if a = 54 ∧ b < t then M.1 56 (168 * k + b) else M.1 a b := by
  unfold reM
  rw [xum_at]
  by_cases e : a = 54
  · subst e; simp
  · simp [e]
theorem imM_s (M : XM) (k t : Nat) : xup (imM M k t) 56 (168 * k + t) (M.1 54 t) = imM M k (t + 1) := xm_ext (fun a b => by
  rw [xup_at, imM_at, imM_at]
  by_cases q : a = 56 ∧ b = 168 * k + t
  · rw [if_pos q, if_pos (by omega), show b - 168 * k = t by omega]
  · rw [if_neg q]
    by_cases z : a = 56 ∧ 168 * k ≤ b ∧ b < 168 * k + t
    · rw [if_pos z, if_pos (by omega)]
    · rw [if_neg z, if_neg (show ¬ (a = 56 ∧ 168 * k ≤ b ∧ b < 168 * k + (t + 1)) by omega)]) (fun _ _ => rfl)
theorem reM_s (M : XM) (k t : Nat) : xup (reM M k t) 54 t (M.1 56 (168 * k + t)) = reM M k (t + 1) := xm_ext (fun a b => by
  rw [xup_at, reM_at, reM_at]
  by_cases q : a = 54 ∧ b = t
  · rw [if_pos q, if_pos (by omega), q.2]
  · rw [if_neg q]
    by_cases z : a = 54 ∧ b < t
    · rw [if_pos z, if_pos (by omega)]
    · rw [if_neg z, if_neg (show ¬ (a = 54 ∧ b < t + 1) by omega)]) (fun _ _ => rfl)
theorem imM_0 (M : XM) (k : Nat) : imM M k 0 = M := xm_ext (fun a b => by rw [imM_at, if_neg (by omega)]) (fun _ _ => rfl)
theorem reM_0 (M : XM) (k : Nat) : reM M k 0 = M := xm_ext (fun a b => by rw [reM_at, if_neg (by omega)]) (fun _ _ => rfl)
set_option maxRecDepth 20000 in
theorem lp_X8_image {k : Nat} (hk : k < 2) : ∀ (q t : Nat), t + q = 168 → XW g l mX8_image (d + 1) 26 [some (xr 49), some (xi (nI k)), some (xi (nI t))] [] (imM M k t) (XE (some (xi 1)) (xup (imM M k 168) 57 k 1)) := by
  intro q
  induction q with
  | zero =>
    intro t ht
    have ht : t = 168 := by omega
    subst ht
    refine xw_iload_n dX8_image_26 rfl ?_
    refine xw_sipush (v := 168) dX8_image_27 (by decide) ?_
    refine xw_icmp_geN (b := 168) (tgt := 57) dX8_image_30 (by decide) (by omega) (fun c30 => ?_) (fun c30 => ?_)
    · refine xw_aload_n dX8_image_57 rfl ?_
      refine xw_getR dX8_image_58 fl_X8_31 rfl rfl ?_
      refine xw_iload_n dX8_image_61 rfl ?_
      refine xw_iconst (v := 1) dX8_image_62 (by decide) ?_
      refine xw_zasN _ dX8_image_63 rfl (rfl) (Or.inr rfl) rfl ?_ ?_
      · omega
      refine xw_iconst (v := 1) dX8_image_64 (by decide) ?_
      refine xw_ireti dX8_image_65 rfl ?_
      first | exact ⟨rfl, rfl⟩ | exact ⟨by simp_all, rfl⟩ | grind [XE]
    · exfalso; omega
  | succ q ih =>
    intro t ht
    have ih2 := ih (t + 1) (by omega)
    rw [← imM_s] at ih2
    refine xw_iload_n dX8_image_26 rfl ?_
    refine xw_sipush (v := 168) dX8_image_27 (by decide) ?_
    refine xw_icmp_geN (b := 168) (tgt := 57) dX8_image_30 (by decide) (by omega) (fun c30 => ?_) (fun c30 => ?_)
    · exfalso; omega
    · refine xw_aload_n dX8_image_33 rfl ?_
      refine xw_getR dX8_image_34 fl_X8_28 rfl rfl ?_
      refine xw_sipush (v := 168) dX8_image_37 (by decide) ?_
      refine xw_iload_n dX8_image_40 rfl ?_
      refine xw_imulN (a := 168) dX8_image_41 ?_
      refine xw_iload_n dX8_image_42 rfl ?_
      refine xw_iaddN dX8_image_43 ?_
      refine xw_aload_n dX8_image_44 rfl ?_
      refine xw_getR dX8_image_45 fl_X8_22 rfl rfl ?_
      refine xw_iload_n dX8_image_48 rfl ?_
      refine xw_ialN _ dX8_image_49 rfl (rfl) (show _ = M.1 54 t by rw [imM_at, if_neg (by omega)]) rfl ?_ ?_
      · omega
      refine xw_iasN _ dX8_image_50 rfl (rfl) rfl ?_ ?_
      · omega
      refine xw_iincN (v := 1) dX8_image_51 (by decide) rfl rfl rfl ?_
      refine xw_goto (tgt := 26) dX8_image_54 (by decide) ?_
      exact ih2
set_option maxRecDepth 20000 in
theorem k_X8_image_ok {k : Nat} (hk : k < 2) (h : ¬ M.1 54 0 = 0) : XC g l mX8_image (d + 1) [xr 49, xi (nI k)] M (XE (some (xi 1)) (xup (imM M k 168) 57 k 1)) := by
  have e2 : (0 : Int32) ≤ nI k ∧ nI k ≤ 1 := ⟨nI_pos' (by omega), nI_le (b := 1) (by omega) (by decide)⟩
  show XW g l mX8_image _ 0 [some (xr 49), some (xi (nI k)), none] [] M _
  refine xw_iload_n dX8_image_0 rfl ?_
  refine xw_iconst (v := 0) dX8_image_1 (by decide) ?_
  refine xw_iconst (v := 1) dX8_image_2 (by decide) ?_
  refine xw_cS3B dX8_image_3 okX8_in ml_X8_56 rfl rfl (s_X8_in _ _ _) (fun p3 => ?_) (fun p3 => ?_)
  · refine xw_if_ne (tgt := 12) dX8_image_6 (by decide) (fun _ => ?_) (fun q9 => absurd q9 (by decide))
    refine xw_aload_n dX8_image_12 rfl ?_
    refine xw_getR dX8_image_13 fl_X8_22 rfl rfl ?_
    refine xw_iconst (v := 0) dX8_image_16 (by decide) ?_
    refine xw_ialN 0 dX8_image_17 rfl (rfl) (rfl) rfl ?_ ?_
    · omega
    refine xw_if_ne (tgt := 24) dX8_image_18 (by decide) (fun c18 => ?_) (fun c18 => ?_)
    · refine xw_iconst (v := 0) dX8_image_24 (by decide) ?_
      refine xw_istore_n dX8_image_25 rfl rfl ?_
      have e9 := lp_X8_image (g := g) (l := l) (d := d) (M := M) hk 168 0 (by omega)
      rwa [imM_0] at e9
    · exfalso; first | omega | contradiction
  · exfalso; first | omega | contradiction
set_option maxRecDepth 20000 in
theorem lp_X8_restore {k : Nat} (hk : k < 2) : ∀ (q t : Nat), t + q = 168 → XW g l mX8_restore (d + 1) 26 [some (xr 49), some (xi (nI k)), some (xi (nI t))] [] (reM M k t) (XE (some (xi 1)) (xup (reM M k 168) 49 17 0)) := by
  intro q
  induction q with
  | zero =>
    intro t ht
    have ht : t = 168 := by omega
    subst ht
    refine xw_iload_n dX8_restore_26 rfl ?_
    refine xw_sipush (v := 168) dX8_restore_27 (by decide) ?_
    refine xw_icmp_geN (b := 168) (tgt := 57) dX8_restore_30 (by decide) (by omega) (fun c30 => ?_) (fun c30 => ?_)
    · refine xw_aload_n dX8_restore_57 rfl ?_
      refine xw_iconst (v := 0) dX8_restore_58 (by decide) ?_
      refine xw_putI dX8_restore_59 fp_X8_181 rfl rfl ?_
      refine xw_iconst (v := 1) dX8_restore_62 (by decide) ?_
      refine xw_ireti dX8_restore_63 rfl ?_
      first | exact ⟨rfl, rfl⟩ | exact ⟨by simp_all, rfl⟩ | grind [XE]
    · exfalso; omega
  | succ q ih =>
    intro t ht
    have ih2 := ih (t + 1) (by omega)
    rw [← reM_s] at ih2
    refine xw_iload_n dX8_restore_26 rfl ?_
    refine xw_sipush (v := 168) dX8_restore_27 (by decide) ?_
    refine xw_icmp_geN (b := 168) (tgt := 57) dX8_restore_30 (by decide) (by omega) (fun c30 => ?_) (fun c30 => ?_)
    · exfalso; omega
    · refine xw_aload_n dX8_restore_33 rfl ?_
      refine xw_getR dX8_restore_34 fl_X8_22 rfl rfl ?_
      refine xw_iload_n dX8_restore_37 rfl ?_
      refine xw_aload_n dX8_restore_38 rfl ?_
      refine xw_getR dX8_restore_39 fl_X8_28 rfl rfl ?_
      refine xw_sipush (v := 168) dX8_restore_42 (by decide) ?_
      refine xw_iload_n dX8_restore_45 rfl ?_
      refine xw_imulN (a := 168) dX8_restore_46 ?_
      refine xw_iload_n dX8_restore_47 rfl ?_
      refine xw_iaddN dX8_restore_48 ?_
      refine xw_ialN _ dX8_restore_49 rfl (rfl) (show _ = M.1 56 (168 * k + t) by rw [reM_at, if_neg (by omega)]) rfl ?_ ?_
      · omega
      refine xw_iasN _ dX8_restore_50 rfl (rfl) rfl ?_ ?_
      · omega
      refine xw_iincN (v := 1) dX8_restore_51 (by decide) rfl rfl rfl ?_
      refine xw_goto (tgt := 26) dX8_restore_54 (by decide) ?_
      exact ih2
set_option maxRecDepth 20000 in
theorem k_X8_restore_ok {k : Nat} (hk : k < 2) (h : ¬ M.1 57 k = 0) : XC g l mX8_restore (d + 1) [xr 49, xi (nI k)] M (XE (some (xi 1)) (xup (reM M k 168) 49 17 0)) := by
  have e2 : (0 : Int32) ≤ nI k ∧ nI k ≤ 1 := ⟨nI_pos' (by omega), nI_le (b := 1) (by omega) (by decide)⟩
  show XW g l mX8_restore _ 0 [some (xr 49), some (xi (nI k)), none] [] M _
  refine xw_iload_n dX8_restore_0 rfl ?_
  refine xw_iconst (v := 0) dX8_restore_1 (by decide) ?_
  refine xw_iconst (v := 1) dX8_restore_2 (by decide) ?_
  refine xw_cS3B dX8_restore_3 okX8_in ml_X8_56 rfl rfl (s_X8_in _ _ _) (fun p3 => ?_) (fun p3 => ?_)
  · refine xw_if_ne (tgt := 12) dX8_restore_6 (by decide) (fun _ => ?_) (fun q9 => absurd q9 (by decide))
    refine xw_aload_n dX8_restore_12 rfl ?_
    refine xw_getR dX8_restore_13 fl_X8_31 rfl rfl ?_
    refine xw_iload_n dX8_restore_16 rfl ?_
    refine xw_zalN _ dX8_restore_17 rfl (rfl) (rfl) rfl ?_ ?_
    · omega
    refine xw_if_ne (tgt := 24) dX8_restore_18 (by decide) (fun c18 => ?_) (fun c18 => ?_)
    · refine xw_iconst (v := 0) dX8_restore_24 (by decide) ?_
      refine xw_istore_n dX8_restore_25 rfl rfl ?_
      have e9 := lp_X8_restore (g := g) (l := l) (d := d) (M := M) hk 168 0 (by omega)
      rwa [reM_0] at e9
    · exfalso; first | omega | contradiction
  · exfalso; first | omega | contradiction
end PUB27
