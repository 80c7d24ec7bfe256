section PUB26
variable {g : XG} {l : Launch} {d : Nat} {M : XM}
set_option maxRecDepth 20000 in
theorem k_X7_count_0 {D : FD} {P : Nat} (hC : FCS M 8 D) (hX : M.1 8 3 = nI P) (hP : P < 2 ^ 24)  : XC g l mX7_count (d + 5) [xr 0, xi (nI 0)] M (XE (some (xi (nI (cntR M 8)))) M) := by
  show XW g l mX7_count _ 0 [some (xr 0), some (xi (nI 0))] [] M _
  refine xw_iload_n dX7_count_0 rfl ?_
  refine xw_tabIn (off := 43) (tgt := 44) dX7_count_1 (by decide) (by decide) (by decide) (by decide) ?_
  refine xw_aload_n dX7_count_44 rfl ?_
  refine xw_getR dX7_count_45 fl_X7_10 rfl rfl ?_
  refine xw_cV0E dX7_count_48 okX6_present ml_X7_239 rfl rfl rfl rfl (s_X6_present) ?_
  refine xw_ireti dX7_count_51 rfl ?_
  first | exact ⟨rfl, rfl⟩ | exact ⟨by simp_all, rfl⟩ | grind [XE]
set_option maxRecDepth 20000 in
theorem k_X7_count_1 {D : FD} {P : Nat} (hC : FCS M 8 D) (hX : M.1 8 3 = nI P) (hP : P < 2 ^ 24)  : XC g l mX7_count (d + 5) [xr 0, xi (nI 1)] M (XE (some (xi (M.1 8 2))) M) := by
  show XW g l mX7_count _ 0 [some (xr 0), some (xi (nI 1))] [] M _
  refine xw_iload_n dX7_count_0 rfl ?_
  refine xw_tabIn (off := 51) (tgt := 52) dX7_count_1 (by decide) (by decide) (by decide) (by decide) ?_
  refine xw_aload_n dX7_count_52 rfl ?_
  refine xw_getR dX7_count_53 fl_X7_26 rfl rfl ?_
  refine xw_getI dX7_count_56 fl_X7_127 rfl rfl ?_
  refine xw_ireti dX7_count_59 rfl ?_
  first | exact ⟨rfl, rfl⟩ | exact ⟨by simp_all, rfl⟩ | grind [XE]
set_option maxRecDepth 20000 in
theorem k_X7_count_2 {D : FD} {P : Nat} (hC : FCS M 8 D) (hX : M.1 8 3 = nI P) (hP : P < 2 ^ 24)  : XC g l mX7_count (d + 5) [xr 0, xi (nI 2)] M (XE (some (xi (nI (wallS D 8)))) M) := by
  show XW g l mX7_count _ 0 [some (xr 0), some (xi (nI 2))] [] M _
  refine xw_iload_n dX7_count_0 rfl ?_
  refine xw_tabIn (off := 59) (tgt := 60) dX7_count_1 (by decide) (by decide) (by decide) (by decide) ?_
  refine xw_aload_n dX7_count_60 rfl ?_
  refine xw_getR dX7_count_61 fl_X7_26 rfl rfl ?_
  refine xw_cV0E dX7_count_64 okX1_wallCells ml_X7_242 rfl rfl rfl rfl (s_X1_wallCells xf_8 hC) ?_
  refine xw_ireti dX7_count_67 rfl ?_
  first | exact ⟨rfl, rfl⟩ | exact ⟨by simp_all, rfl⟩ | grind [XE]
set_option maxRecDepth 20000 in
theorem k_X7_count_3 {D : FD} {P : Nat} (hC : FCS M 8 D) (hX : M.1 8 3 = nI P) (hP : P < 2 ^ 24)  : XC g l mX7_count (d + 5) [xr 0, xi (nI 3)] M (XE (some (xi (M.1 40 3))) M) := by
  show XW g l mX7_count _ 0 [some (xr 0), some (xi (nI 3))] [] M _
  refine xw_iload_n dX7_count_0 rfl ?_
  refine xw_tabIn (off := 67) (tgt := 68) dX7_count_1 (by decide) (by decide) (by decide) (by decide) ?_
  refine xw_aload_n dX7_count_68 rfl ?_
  refine xw_getR dX7_count_69 fl_X7_37 rfl rfl ?_
  refine xw_cV0E dX7_count_72 okX3_size ml_X7_157 rfl rfl rfl rfl (s_X3_size) ?_
  refine xw_ireti dX7_count_75 rfl ?_
  first | exact ⟨rfl, rfl⟩ | exact ⟨by simp_all, rfl⟩ | grind [XE]
set_option maxRecDepth 20000 in
theorem k_X7_count_4 {D : FD} {P : Nat} (hC : FCS M 8 D) (hX : M.1 8 3 = nI P) (hP : P < 2 ^ 24)  : XC g l mX7_count (d + 5) [xr 0, xi (nI 4)] M (XE (some (xi (lieS M 15 0 (dn D)))) M) := by
  show XW g l mX7_count _ 0 [some (xr 0), some (xi (nI 4))] [] M _
  refine xw_iload_n dX7_count_0 rfl ?_
  refine xw_tabIn (off := 75) (tgt := 76) dX7_count_1 (by decide) (by decide) (by decide) (by decide) ?_
  refine xw_aload_n dX7_count_76 rfl ?_
  refine xw_getR dX7_count_77 fl_X7_26 rfl rfl ?_
  refine xw_cV0E dX7_count_80 okX1_allLies ml_X7_245 rfl rfl rfl rfl (s_X1_allLies xf_8 hC) ?_
  refine xw_ireti dX7_count_83 rfl ?_
  first | exact ⟨rfl, rfl⟩ | exact ⟨by simp_all, rfl⟩ | grind [XE]
set_option maxRecDepth 20000 in
theorem k_X7_count_5 {D : FD} {P : Nat} (hC : FCS M 8 D) (hX : M.1 8 3 = nI P) (hP : P < 2 ^ 24)  : XC g l mX7_count (d + 5) [xr 0, xi (nI 5)] M (XE (some (xi (nI (rentS D P (dn D))))) M) := by
  show XW g l mX7_count _ 0 [some (xr 0), some (xi (nI 5))] [] M _
  refine xw_iload_n dX7_count_0 rfl ?_
  refine xw_tabIn (off := 83) (tgt := 84) dX7_count_1 (by decide) (by decide) (by decide) (by decide) ?_
  refine xw_aload_n dX7_count_84 rfl ?_
  refine xw_getR dX7_count_85 fl_X7_26 rfl rfl ?_
  refine xw_cV0E dX7_count_88 okX1_allRents ml_X7_248 rfl rfl rfl rfl (s_X1_allRents xf_8 hC hX hP) ?_
  refine xw_ireti dX7_count_91 rfl ?_
  first | exact ⟨rfl, rfl⟩ | exact ⟨by simp_all, rfl⟩ | grind [XE]
set_option maxRecDepth 20000 in
theorem k_X7_count_6 {D : FD} {P : Nat} (hC : FCS M 8 D) (hX : M.1 8 3 = nI P) (hP : P < 2 ^ 24)  : XC g l mX7_count (d + 5) [xr 0, xi (nI 6)] M (XE (some (xi (M.1 5 1))) M) := by
  show XW g l mX7_count _ 0 [some (xr 0), some (xi (nI 6))] [] M _
  refine xw_iload_n dX7_count_0 rfl ?_
  refine xw_tabIn (off := 91) (tgt := 92) dX7_count_1 (by decide) (by decide) (by decide) (by decide) ?_
  refine xw_aload_n dX7_count_92 rfl ?_
  refine xw_getR dX7_count_93 fl_X7_19 rfl rfl ?_
  refine xw_cV0E dX7_count_96 okX5_length ml_X7_103 rfl rfl rfl rfl (s_X5_length) ?_
  refine xw_ireti dX7_count_99 rfl ?_
  first | exact ⟨rfl, rfl⟩ | exact ⟨by simp_all, rfl⟩ | grind [XE]
set_option maxRecDepth 20000 in
theorem k_X7_count_bad {w : Int32} (hw : w.toInt < 0 ∨ 6 < w.toInt) : XC g l mX7_count (d + 5) [xr 0, xi w] M (XE (some (xi (-1000001))) M) := by
  show XW g l mX7_count _ 0 [some (xr 0), some (xi w)] [] M _
  refine xw_iload_n dX7_count_0 rfl ?_
  refine xw_tabOut (tgt := 100) dX7_count_1 (hw) (by decide) ?_
  refine xw_ldc dX7_count_100 kc_X7_66 ?_
  refine xw_ireti dX7_count_102 rfl ?_
  first | exact ⟨rfl, rfl⟩ | exact ⟨by simp_all, rfl⟩ | grind [XE]
set_option maxRecDepth 20000 in
theorem k_X8_count_bad {w : Int32} (hw : w.toInt < 0 ∨ 6 < w.toInt) : XC g l mX8_count (d + 2) [xr 49, xi w] M (XE (some (xi (-1000001))) M) := by
  show XW g l mX8_count _ 0 [some (xr 49), some (xi w), none, none] [] M _
  refine xw_iconst (v := 0) dX8_count_0 (by decide) ?_
  refine xw_istore_n dX8_count_1 rfl rfl ?_
  refine xw_iload_n dX8_count_2 rfl ?_
  refine xw_tabOut (tgt := 184) dX8_count_3 (hw) (by decide) ?_
  refine xw_ldc dX8_count_184 kc_X8_64 ?_
  refine xw_ireti dX8_count_186 rfl ?_
  first | exact ⟨rfl, rfl⟩ | exact ⟨by simp_all, rfl⟩ | grind [XE]
def cntS (M : XM) : Nat → Nat | 0 => 0 | j + 1 => cntS M j + (if M.1 50 j = -1000000 then 0 else 1)
theorem cntS_le (M : XM) : ∀ j, cntS M j ≤ j | 0 => Nat.le_refl _ | j + 1 => by have := cntS_le M j; unfold cntS; split <;> omega
def wlS (D : FD) : Nat → Nat | 0 => 0 | c + 1 => wlS D c + dwl D (c / 16) / 2 ^ (c % 16) % 2
theorem wlS_16 (D : FD) (y : Nat) : wlS D (16 * y + 16) = wlS D (16 * y) + popc (dwl D y) := by
  have e : ∀ i, i < 16 → (16 * y + i) / 16 = y ∧ (16 * y + i) % 16 = i := fun i hi => by omega
  have s : ∀ i, i < 16 → wlS D (16 * y + (i + 1)) = wlS D (16 * y + i) + dwl D y / 2 ^ i % 2 := fun i hi => by
    show wlS D (16 * y + i + 1) = _
    rw [wlS, (e i hi).1, (e i hi).2]
  rw [s 15 (by decide), s 14 (by decide), s 13 (by decide), s 12 (by decide), s 11 (by decide), s 10 (by decide), s 9 (by decide), s 8 (by decide), s 7 (by decide), s 6 (by decide), s 5 (by decide), s 4 (by decide), s 3 (by decide), s 2 (by decide), s 1 (by decide), s 0 (by decide)]
  unfold popc
  simp
  omega
theorem wlS_wall (D : FD) : ∀ y, wlS D (16 * y) = wallS D y
  | 0 => rfl
  | y + 1 => by rw [show 16 * (y + 1) = 16 * y + 16 by omega, wlS_16, wlS_wall D y]; rfl
theorem wlS_le (D : FD) : ∀ c, wlS D c ≤ c | 0 => Nat.le_refl _ | c + 1 => by have := wlS_le D c; have := Nat.mod_lt (dwl D (c / 16) / 2 ^ (c % 16)) (show 2 > 0 by decide); unfold wlS; omega
set_option maxRecDepth 20000 in
theorem lp_X8_count_0 {D : FD} {P : Nat} (hC : FMS M 54 D) (hX : XMP M 54 P)  : ∀ (q k : Nat), k + q = 8 → XW g l mX8_count (d + 2) 46 [some (xr 49), some (xi (nI 0)), some (xi (nI (cntS M k))), some (xi (nI k))] [] M (XE (some (xi (nI (cntS M 8)))) M) := by
  have hC0 := hC
  obtain ⟨hn6, ⟨hT, hT2⟩, ⟨hB, hB2⟩, hN, hcl, hK, hY, hW, hH, hG⟩ := hC
  intro q
  induction q with
  | zero =>
    intro k hk
    have hk : k = 8 := by omega
    subst hk
    refine xw_iload_n dX8_count_46 rfl ?_
    refine xw_bipush (v := 8) dX8_count_47 (by decide) ?_
    refine xw_icmp_geN (b := 8) (tgt := 74) dX8_count_49 (by decide) (by omega) (fun c49 => ?_) (fun c49 => ?_)
    · refine xw_iload_n dX8_count_74 rfl ?_
      refine xw_ireti dX8_count_75 rfl ?_
      first | exact ⟨rfl, rfl⟩ | exact ⟨by simp_all, rfl⟩ | grind [XE]
    · exfalso; omega
  | succ q ih =>
    intro k hk
    have ih2 := ih (k + 1) (by omega)
    have h9 := cntS_le M k
    refine xw_iload_n dX8_count_46 rfl ?_
    refine xw_bipush (v := 8) dX8_count_47 (by decide) ?_
    refine xw_icmp_geN (b := 8) (tgt := 74) dX8_count_49 (by decide) (by omega) (fun c49 => ?_) (fun c49 => ?_)
    · exfalso; omega
    · refine xw_iload_n dX8_count_52 rfl ?_
      refine xw_aload_n dX8_count_53 rfl ?_
      refine xw_iload_n dX8_count_54 rfl ?_
      refine xw_cV1B dX8_count_55 okX8_isMissing ml_X8_72 rfl rfl rfl rfl (s_X8_isMissing (by omega)) (fun p55 => ?_) (fun p55 => ?_)
      · rw [show cntS M (k + 1) = cntS M k + 0 by rw [cntS, if_pos p55]] at ih2
        refine xw_if_eq (tgt := 65) dX8_count_58 (by decide) (fun q9 => absurd q9 (by decide)) (fun _ => ?_)
        refine xw_iconst (v := 0) dX8_count_61 (by decide) ?_
        refine xw_goto (tgt := 66) dX8_count_62 (by decide) ?_
        refine xw_iaddN (b := 0) dX8_count_66 ?_
        refine xw_istore_n dX8_count_67 rfl rfl ?_
        refine xw_iincN (v := 1) dX8_count_68 (by decide) rfl rfl rfl ?_
        refine xw_goto (tgt := 46) dX8_count_71 (by decide) ?_
        exact ih2
      · rw [show cntS M (k + 1) = cntS M k + 1 by rw [cntS, if_neg p55]] at ih2
        refine xw_if_eq (tgt := 65) dX8_count_58 (by decide) (fun _ => ?_) (fun q9 => absurd q9 (by decide))
        refine xw_iconst (v := 1) dX8_count_65 (by decide) ?_
        refine xw_iaddN (b := 1) dX8_count_66 ?_
        refine xw_istore_n dX8_count_67 rfl rfl ?_
        refine xw_iincN (v := 1) dX8_count_68 (by decide) rfl rfl rfl ?_
        refine xw_goto (tgt := 46) dX8_count_71 (by decide) ?_
        exact ih2
set_option maxRecDepth 20000 in
theorem k_X8_count_0 {D : FD} {P : Nat} (hC : FMS M 54 D) (hX : XMP M 54 P)  : XC g l mX8_count (d + 2) [xr 49, xi (nI 0)] M (XE (some (xi (nI (cntS M 8)))) M) := by
  have hC0 := hC
  obtain ⟨hn6, ⟨hT, hT2⟩, ⟨hB, hB2⟩, hN, hcl, hK, hY, hW, hH, hG⟩ := hC
  show XW g l mX8_count _ 0 [some (xr 49), some (xi (nI 0)), none, none] [] M _
  refine xw_iconst (v := 0) dX8_count_0 (by decide) ?_
  refine xw_istore_n dX8_count_1 rfl rfl ?_
  refine xw_iload_n dX8_count_2 rfl ?_
  refine xw_tabIn (off := 41) (tgt := 44) dX8_count_3 (by decide) (by decide) (by decide) (by decide) ?_
  refine xw_iconst (v := 0) dX8_count_44 (by decide) ?_
  refine xw_istore_n dX8_count_45 rfl rfl ?_
  exact lp_X8_count_0 hC0 hX (8) 0 (by omega)
set_option maxRecDepth 20000 in
theorem lp_X8_count_2 {D : FD} {P : Nat} (hC : FMS M 54 D) (hX : XMP M 54 P)  : ∀ (q k : Nat), k + q = 128 → XW g l mX8_count (d + 2) 85 [some (xr 49), some (xi (nI 2)), some (xi (nI (wlS D k))), some (xi (nI k))] [] M (XE (some (xi (nI (wlS D 128)))) M) := by
  have hC0 := hC
  obtain ⟨hn6, ⟨hT, hT2⟩, ⟨hB, hB2⟩, hN, hcl, hK, hY, hW, hH, hG⟩ := hC
  intro q
  induction q with
  | zero =>
    intro k hk
    have hk : k = 128 := by omega
    subst hk
    refine xw_iload_n dX8_count_85 rfl ?_
    refine xw_sipush (v := 128) dX8_count_86 (by decide) ?_
    refine xw_icmp_geN (b := 128) (tgt := 112) dX8_count_89 (by decide) (by omega) (fun c89 => ?_) (fun c89 => ?_)
    · refine xw_iload_n dX8_count_112 rfl ?_
      refine xw_ireti dX8_count_113 rfl ?_
      first | exact ⟨rfl, rfl⟩ | exact ⟨by simp_all, rfl⟩ | grind [XE]
    · exfalso; omega
  | succ q ih =>
    intro k hk
    have ih2 := ih (k + 1) (by omega)
    have h9 := wlS_le D k
    refine xw_iload_n dX8_count_85 rfl ?_
    refine xw_sipush (v := 128) dX8_count_86 (by decide) ?_
    refine xw_icmp_geN (b := 128) (tgt := 112) dX8_count_89 (by decide) (by omega) (fun c89 => ?_) (fun c89 => ?_)
    · exfalso; omega
    · refine xw_iload_n dX8_count_92 rfl ?_
      refine xw_aload_n dX8_count_93 rfl ?_
      refine xw_getR dX8_count_94 fl_X8_22 rfl rfl ?_
      refine xw_bipush (v := 40) dX8_count_97 (by decide) ?_
      refine xw_iload_n dX8_count_99 rfl ?_
      refine xw_iaddN (a := 40) dX8_count_100 ?_
      refine xw_ialN _ dX8_count_101 rfl (rfl) (show _ = nI (dwl D (k / 16) / 2 ^ (k % 16) % 2 + 2 * (dpt D (k / 16) / 2 ^ (k % 16) % 2)) by have := hcl (k % 16) (k / 16) (by omega) (by omega); rwa [show 40 + k % 16 + 16 * (k / 16) = 40 + k by omega] at this) rfl ?_ ?_
      · omega
      refine xw_iconst (v := 1) dX8_count_102 (by decide) ?_
      refine xw_iandN (b := 1) dX8_count_103 ?_
      rw [mod2and]
      refine xw_iaddN dX8_count_104 ?_
      refine xw_istore_n dX8_count_105 rfl rfl ?_
      refine xw_iincN (v := 1) dX8_count_106 (by decide) rfl rfl rfl ?_
      refine xw_goto (tgt := 85) dX8_count_109 (by decide) ?_
      exact ih2
set_option maxRecDepth 20000 in
theorem k_X8_count_2 {D : FD} {P : Nat} (hC : FMS M 54 D) (hX : XMP M 54 P)  : XC g l mX8_count (d + 2) [xr 49, xi (nI 2)] M (XE (some (xi (nI (wlS D 128)))) M) := by
  have hC0 := hC
  obtain ⟨hn6, ⟨hT, hT2⟩, ⟨hB, hB2⟩, hN, hcl, hK, hY, hW, hH, hG⟩ := hC
  show XW g l mX8_count _ 0 [some (xr 49), some (xi (nI 2)), none, none] [] M _
  refine xw_iconst (v := 0) dX8_count_0 (by decide) ?_
  refine xw_istore_n dX8_count_1 rfl rfl ?_
  refine xw_iload_n dX8_count_2 rfl ?_
  refine xw_tabIn (off := 80) (tgt := 83) dX8_count_3 (by decide) (by decide) (by decide) (by decide) ?_
  refine xw_iconst (v := 0) dX8_count_83 (by decide) ?_
  refine xw_istore_n dX8_count_84 rfl rfl ?_
  exact lp_X8_count_2 hC0 hX (128) 0 (by omega)
set_option maxRecDepth 20000 in
theorem lp_X8_count_4 {D : FD} {P : Nat} (hC : FMS M 54 D) (hX : XMP M 54 P)  : ∀ (q k : Nat), k + q = dn D → XW g l mX8_count (d + 2) 121 [some (xr 49), some (xi (nI 4)), some (xi (lieS M 54 34 (k))), some (xi (nI k))] [] M (XE (some (xi (lieS M 54 34 (dn D)))) M) := by
  have hC0 := hC
  obtain ⟨hn6, ⟨hT, hT2⟩, ⟨hB, hB2⟩, hN, hcl, hK, hY, hW, hH, hG⟩ := hC
  intro q
  induction q with
  | zero =>
    intro k hk
    have hk : k = dn D := by omega
    subst hk
    refine xw_iload_n dX8_count_121 rfl ?_
    refine xw_aload_n dX8_count_122 rfl ?_
    refine xw_getR dX8_count_123 fl_X8_22 rfl rfl ?_
    refine xw_iconst (v := 3) dX8_count_126 (by decide) ?_
    refine xw_ialN 3 dX8_count_127 rfl (rfl) (hN) rfl ?_ ?_
    · omega
    refine xw_icmp_geN (tgt := 149) dX8_count_128 (by decide) (by omega) (fun c128 => ?_) (fun c128 => ?_)
    · refine xw_iload_n dX8_count_149 rfl ?_
      refine xw_ireti dX8_count_150 rfl ?_
      first | exact ⟨rfl, rfl⟩ | exact ⟨by simp_all, rfl⟩ | grind [XE]
    · exfalso; omega
  | succ q ih =>
    intro k hk
    have ih2 := ih (k + 1) (by omega)
    refine xw_iload_n dX8_count_121 rfl ?_
    refine xw_aload_n dX8_count_122 rfl ?_
    refine xw_getR dX8_count_123 fl_X8_22 rfl rfl ?_
    refine xw_iconst (v := 3) dX8_count_126 (by decide) ?_
    refine xw_ialN 3 dX8_count_127 rfl (rfl) (hN) rfl ?_ ?_
    · omega
    refine xw_icmp_geN (tgt := 149) dX8_count_128 (by decide) (by omega) (fun c128 => ?_) (fun c128 => ?_)
    · exfalso; omega
    · refine xw_iload_n dX8_count_131 rfl ?_
      refine xw_aload_n dX8_count_132 rfl ?_
      refine xw_getR dX8_count_133 fl_X8_22 rfl rfl ?_
      refine xw_bipush (v := 34) dX8_count_136 (by decide) ?_
      refine xw_iload_n dX8_count_138 rfl ?_
      refine xw_iaddN (a := 34) dX8_count_139 ?_
      refine xw_ialN _ dX8_count_140 rfl (rfl) (rfl) rfl ?_ ?_
      · omega
      refine xw_iadd dX8_count_141 ?_
      refine xw_istore_n dX8_count_142 rfl rfl ?_
      refine xw_iincN (v := 1) dX8_count_143 (by decide) rfl rfl rfl ?_
      refine xw_goto (tgt := 121) dX8_count_146 (by decide) ?_
      exact ih2
set_option maxRecDepth 20000 in
theorem k_X8_count_4 {D : FD} {P : Nat} (hC : FMS M 54 D) (hX : XMP M 54 P)  : XC g l mX8_count (d + 2) [xr 49, xi (nI 4)] M (XE (some (xi (lieS M 54 34 (dn D)))) M) := by
  have hC0 := hC
  obtain ⟨hn6, ⟨hT, hT2⟩, ⟨hB, hB2⟩, hN, hcl, hK, hY, hW, hH, hG⟩ := hC
  show XW g l mX8_count _ 0 [some (xr 49), some (xi (nI 4)), none, none] [] M _
  refine xw_iconst (v := 0) dX8_count_0 (by decide) ?_
  refine xw_istore_n dX8_count_1 rfl rfl ?_
  refine xw_iload_n dX8_count_2 rfl ?_
  refine xw_tabIn (off := 116) (tgt := 119) dX8_count_3 (by decide) (by decide) (by decide) (by decide) ?_
  refine xw_iconst (v := 0) dX8_count_119 (by decide) ?_
  refine xw_istore_n dX8_count_120 rfl rfl ?_
  exact lp_X8_count_4 hC0 hX (dn D) 0 (by omega)
set_option maxRecDepth 20000 in
theorem lp_X8_count_5 {D : FD} {P : Nat} (hC : FMS M 54 D) (hX : XMP M 54 P)  : ∀ (q k : Nat), k + q = dn D → XW g l mX8_count (d + 2) 153 [some (xr 49), some (xi (nI 5)), some (xi (nI (rentS D P (k)))), some (xi (nI k))] [] M (XE (some (xi (nI (rentS D P (dn D))))) M) := by
  have hC0 := hC
  obtain ⟨hn6, ⟨hT, hT2⟩, ⟨hB, hB2⟩, hN, hcl, hK, hY, hW, hH, hG⟩ := hC
  intro q
  induction q with
  | zero =>
    intro k hk
    have hk : k = dn D := by omega
    subst hk
    refine xw_iload_n dX8_count_153 rfl ?_
    refine xw_aload_n dX8_count_154 rfl ?_
    refine xw_getR dX8_count_155 fl_X8_22 rfl rfl ?_
    refine xw_iconst (v := 3) dX8_count_158 (by decide) ?_
    refine xw_ialN 3 dX8_count_159 rfl (rfl) (hN) rfl ?_ ?_
    · omega
    refine xw_icmp_geN (tgt := 177) dX8_count_160 (by decide) (by omega) (fun c160 => ?_) (fun c160 => ?_)
    · refine xw_iload_n dX8_count_177 rfl ?_
      refine xw_ireti dX8_count_178 rfl ?_
      first | exact ⟨rfl, rfl⟩ | exact ⟨by simp_all, rfl⟩ | grind [XE]
    · exfalso; omega
  | succ q ih =>
    intro k hk
    have ih2 := ih (k + 1) (by omega)
    refine xw_iload_n dX8_count_153 rfl ?_
    refine xw_aload_n dX8_count_154 rfl ?_
    refine xw_getR dX8_count_155 fl_X8_22 rfl rfl ?_
    refine xw_iconst (v := 3) dX8_count_158 (by decide) ?_
    refine xw_ialN 3 dX8_count_159 rfl (rfl) (hN) rfl ?_ ?_
    · omega
    refine xw_icmp_geN (tgt := 177) dX8_count_160 (by decide) (by omega) (fun c160 => ?_) (fun c160 => ?_)
    · exfalso; omega
    · refine xw_iload_n dX8_count_163 rfl ?_
      refine xw_aload_n dX8_count_164 rfl ?_
      refine xw_iload_n dX8_count_165 rfl ?_
      refine xw_cV1E dX8_count_166 okX8_rentOf ml_X8_216 rfl rfl rfl rfl (s_X8_rentOf hC0 hX (by omega)) ?_
      refine xw_iaddN dX8_count_169 ?_
      refine xw_istore_n dX8_count_170 rfl rfl ?_
      refine xw_iincN (v := 1) dX8_count_171 (by decide) rfl rfl rfl ?_
      refine xw_goto (tgt := 153) dX8_count_174 (by decide) ?_
      exact ih2
set_option maxRecDepth 20000 in
theorem k_X8_count_5 {D : FD} {P : Nat} (hC : FMS M 54 D) (hX : XMP M 54 P)  : XC g l mX8_count (d + 2) [xr 49, xi (nI 5)] M (XE (some (xi (nI (rentS D P (dn D))))) M) := by
  have hC0 := hC
  obtain ⟨hn6, ⟨hT, hT2⟩, ⟨hB, hB2⟩, hN, hcl, hK, hY, hW, hH, hG⟩ := hC
  show XW g l mX8_count _ 0 [some (xr 49), some (xi (nI 5)), none, none] [] M _
  refine xw_iconst (v := 0) dX8_count_0 (by decide) ?_
  refine xw_istore_n dX8_count_1 rfl rfl ?_
  refine xw_iload_n dX8_count_2 rfl ?_
  refine xw_tabIn (off := 148) (tgt := 151) dX8_count_3 (by decide) (by decide) (by decide) (by decide) ?_
  refine xw_iconst (v := 0) dX8_count_151 (by decide) ?_
  refine xw_istore_n dX8_count_152 rfl rfl ?_
  exact lp_X8_count_5 hC0 hX (dn D) 0 (by omega)
set_option maxRecDepth 20000 in
theorem k_X8_count_1 {D : FD} {P : Nat} (hC : FMS M 54 D) (hX : XMP M 54 P)  : XC g l mX8_count (d + 2) [xr 49, xi (nI 1)] M (XE (some (xi (M.1 54 3))) M) := by
  show XW g l mX8_count _ 0 [some (xr 49), some (xi (nI 1)), none, none] [] M _
  refine xw_iconst (v := 0) dX8_count_0 (by decide) ?_
  refine xw_istore_n dX8_count_1 rfl rfl ?_
  refine xw_iload_n dX8_count_2 rfl ?_
  refine xw_tabIn (off := 73) (tgt := 76) dX8_count_3 (by decide) (by decide) (by decide) (by decide) ?_
  refine xw_aload_n dX8_count_76 rfl ?_
  refine xw_getR dX8_count_77 fl_X8_22 rfl rfl ?_
  refine xw_iconst (v := 3) dX8_count_80 (by decide) ?_
  refine xw_ialN 3 dX8_count_81 rfl (rfl) (rfl) rfl ?_ ?_
  · omega
  refine xw_ireti dX8_count_82 rfl ?_
  first | exact ⟨rfl, rfl⟩ | exact ⟨by simp_all, rfl⟩ | grind [XE]
set_option maxRecDepth 20000 in
theorem k_X8_count_3 {D : FD} {P : Nat} (hC : FMS M 54 D) (hX : XMP M 54 P)  : XC g l mX8_count (d + 2) [xr 49, xi (nI 3)] M (XE (some (xi (M.1 49 17))) M) := by
  show XW g l mX8_count _ 0 [some (xr 49), some (xi (nI 3)), none, none] [] M _
  refine xw_iconst (v := 0) dX8_count_0 (by decide) ?_
  refine xw_istore_n dX8_count_1 rfl rfl ?_
  refine xw_iload_n dX8_count_2 rfl ?_
  refine xw_tabIn (off := 111) (tgt := 114) dX8_count_3 (by decide) (by decide) (by decide) (by decide) ?_
  refine xw_aload_n dX8_count_114 rfl ?_
  refine xw_getI dX8_count_115 fl_X8_181 rfl rfl ?_
  refine xw_ireti dX8_count_118 rfl ?_
  first | exact ⟨rfl, rfl⟩ | exact ⟨by simp_all, rfl⟩ | grind [XE]
set_option maxRecDepth 20000 in
theorem k_X8_count_6 {D : FD} {P : Nat} (hC : FMS M 54 D) (hX : XMP M 54 P)  : XC g l mX8_count (d + 2) [xr 49, xi (nI 6)] M (XE (some (xi (M.1 49 4))) M) := by
  show XW g l mX8_count _ 0 [some (xr 49), some (xi (nI 6)), none, none] [] M _
  refine xw_iconst (v := 0) dX8_count_0 (by decide) ?_
  refine xw_istore_n dX8_count_1 rfl rfl ?_
  refine xw_iload_n dX8_count_2 rfl ?_
  refine xw_tabIn (off := 176) (tgt := 179) dX8_count_3 (by decide) (by decide) (by decide) (by decide) ?_
  refine xw_aload_n dX8_count_179 rfl ?_
  refine xw_getI dX8_count_180 fl_X8_75 rfl rfl ?_
  refine xw_ireti dX8_count_183 rfl ?_
  first | exact ⟨rfl, rfl⟩ | exact ⟨by simp_all, rfl⟩ | grind [XE]
/-- byte k of w, as the class's tape keeps it, and as the reference's -/
def byC (w : Int64) (k : Nat) : Int32 := (w >>> ((nI (8 * k)).toInt64 &&& 63)).toInt32.toInt8.toInt32
def byM (w : Int64) (k : Nat) : Int32 := ((w >>> ((nI (8 * k)).toInt64 &&& 63)) &&& 255).toInt32
theorem by_same (w : Int64) (k : Nat) : ∃ c, c < 256 ∧ byM w k = nI c ∧ byC w k = (nI c).toInt8.toInt32 := by
  unfold byC byM
  generalize w >>> ((nI (8 * k)).toInt64 &&& 63) = x
  obtain ⟨c, h1, h2⟩ := pk_andE x.toInt32 (m := 255) 8 (by decide)
  refine ⟨c, h1, ?_, ?_⟩
  · rw [Int64.toInt32_and]; exact h2
  · rw [← h2, fa_byte_low]
def fdC (M : XM) (w : Int64) (b n t : Nat) : XM := xup (xum M 6 (fun i => if b ≤ i ∧ i < b + t then byC w (n - 1 - (i - b)) else M.1 6 i)) 5 1 (nI (b + t))
def fdM (M : XM) (w : Int64) (b n t : Nat) : XM := xup (xum M 53 (fun i => if b ≤ i ∧ i < b + t then byM w (n - 1 - (i - b)) else M.1 53 i)) 49 4 (nI (b + t))
theorem fdC_at (M : XM) (w : Int64) (b n t a c : Nat) : (fdC M w b n t).1 a c = if a = 5 ∧ c = 1 then nI (b + t) else if a = 6 ∧ b ≤ c ∧ c < b + t then byC w (n - 1 - (c - b)) else M.1 a c := by
  unfold fdC
  rw [xup_at, xum_at]
  by_cases e : a = 6
  · subst e; simp
  · simp [e]
theorem fdM_at (M : XM) (w : Int64) (b n t a c : Nat) : (fdM M w b n t).1 a c = if a = 49 ∧ c = 4 then nI (b + t) else if a = 53 ∧ b ≤ c ∧ c < b + t then byM w (n - 1 - (c - b)) else M.1 a c := by
  unfold fdM
  rw [xup_at, xum_at]
  by_cases e : a = 53
  · subst e; simp
  · simp [e]
theorem fdC_0 (M : XM) (w : Int64) (b n : Nat) (h : M.1 5 1 = nI b) : fdC M w b n 0 = M := xm_ext (fun a c => by
  rw [fdC_at]
  by_cases e : a = 5 ∧ c = 1
  · rw [if_pos e, e.1, e.2, h]; rfl
  · rw [if_neg e, if_neg (by omega)]) (fun _ _ => rfl)
theorem fdM_0 (M : XM) (w : Int64) (b n : Nat) (h : M.1 49 4 = nI b) : fdM M w b n 0 = M := xm_ext (fun a c => by
  rw [fdM_at]
  by_cases e : a = 49 ∧ c = 4
  · rw [if_pos e, e.1, e.2, h]; rfl
  · rw [if_neg e, if_neg (by omega)]) (fun _ _ => rfl)
theorem fdC_s (M : XM) (w : Int64) (b n t k : Nat) (hk : k = n - 1 - t) : xup (xup (fdC M w b n t) 6 (b + t) (byC w k)) 5 1 (nI (b + t + 1)) = fdC M w b n (t + 1) := xm_ext (fun a c => by
  subst hk
  rw [xup_at, xup_at, fdC_at, fdC_at]
  by_cases e : a = 5 ∧ c = 1
  · rw [if_pos e, if_pos e]; rfl
  · rw [if_neg e, if_neg e]
    by_cases q : a = 6 ∧ c = b + t
    · rw [if_pos q, if_neg e, if_pos (by omega), show c - b = t by omega]
    · rw [if_neg q]
      by_cases z : a = 6 ∧ b ≤ c ∧ c < b + t
      · rw [if_neg e, if_pos z, if_pos (by omega)]
      · rw [if_neg e, if_neg z, if_neg (show ¬ (a = 6 ∧ b ≤ c ∧ c < b + (t + 1)) by omega)]) (fun _ _ => rfl)
theorem fdM_s (M : XM) (w : Int64) (b n t k : Nat) (hk : k = n - 1 - t) : xup (xup (fdM M w b n t) 53 (b + t) (byM w k)) 49 4 (nI (b + t + 1)) = fdM M w b n (t + 1) := xm_ext (fun a c => by
  subst hk
  rw [xup_at, xup_at, fdM_at, fdM_at]
  by_cases e : a = 49 ∧ c = 4
  · rw [if_pos e, if_pos e]; rfl
  · rw [if_neg e, if_neg e]
    by_cases q : a = 53 ∧ c = b + t
    · rw [if_pos q, if_neg e, if_pos (by omega), show c - b = t by omega]
    · rw [if_neg q]
      by_cases z : a = 53 ∧ b ≤ c ∧ c < b + t
      · rw [if_neg e, if_pos z, if_pos (by omega)]
      · rw [if_neg e, if_neg z, if_neg (show ¬ (a = 53 ∧ b ≤ c ∧ c < b + (t + 1)) by omega)]) (fun _ _ => rfl)
theorem m1_sub (j : Nat) : nI j + (-1) = nI j - 1 := by grind
set_option maxRecDepth 20000 in
theorem lp_X5_append {w : Int64} {b n : Nat} (hn : n ≤ 8) (hbn : b + n ≤ 400)  : ∀ (j t : Nat), t + j = n → XW g l mX5_append (d + 1) 19 [some (xr 5), some (xl w), none, some (xi (nI n)), some (xi (nI j - 1))] [] (fdC M w b n t) (XB True (fdC M w b n n) M) := by
  intro j
  induction j with
  | zero =>
    intro t ht
    have ht : t = n := by omega
    subst ht
    refine xw_iload dX5_append_19 rfl ?_
    refine xw_if_lt (tgt := 58) dX5_append_21 (by decide) (fun c21 => ?_) (fun c21 => ?_)
    · refine xw_iconst (v := 1) dX5_append_58 (by decide) ?_
      refine xw_iretz dX5_append_59 rfl (Or.inr rfl) (Or.inl ⟨?_, rfl, rfl⟩)
      trivial
    · exact absurd (show nI 0 - 1 < 0 by decide) c21
  | succ j ih =>
    intro t ht
    have ih2 := ih (t + 1) (by omega)
    rw [← fdC_s M w b n t j (by omega)] at ih2
    rw [nI_pred]
    refine xw_iload dX5_append_19 rfl ?_
    refine xw_if_ltN (tgt := 58) dX5_append_21 (by decide) (by omega) ?_
    refine xw_aload_n dX5_append_24 rfl ?_
    refine xw_getR dX5_append_25 fl_X5_11 rfl rfl ?_
    refine xw_aload_n dX5_append_28 rfl ?_
    refine xw_getV dX5_append_29 fl_X5_15 rfl rfl (show _ = nI (b + t) by rw [fdC_at, if_pos ⟨rfl, rfl⟩]) ?_
    refine xw_lload_n dX5_append_32 rfl ?_
    refine xw_bipush (v := 8) dX5_append_33 (by decide) ?_
    refine xw_iload dX5_append_35 rfl ?_
    refine xw_imulN (a := 8) dX5_append_37 ?_
    refine xw_lshr dX5_append_38 ?_
    refine xw_l2i dX5_append_39 ?_
    refine xw_i2b dX5_append_40 ?_
    refine xw_basN _ dX5_append_41 rfl (rfl) rfl ?_ ?_
    · omega
    refine xw_aload_n dX5_append_42 rfl ?_
    refine xw_dup dX5_append_43 rfl ?_
    refine xw_getV dX5_append_44 fl_X5_15 rfl rfl (show _ = nI (b + t) by rw [xup_cell _ _ (by decide), fdC_at, if_pos ⟨rfl, rfl⟩]) ?_
    refine xw_iconst (v := 1) dX5_append_47 (by decide) ?_
    refine xw_iaddN (b := 1) dX5_append_48 ?_
    refine xw_putI dX5_append_49 fp_X5_15 rfl rfl ?_
    refine xw_iinc (v := (-1)) dX5_append_52 (by decide) rfl rfl rfl ?_
    refine xw_goto (tgt := 19) dX5_append_55 (by decide) ?_
    rw [m1_sub]
    rw [show (w >>> ((nI (8 * j)).toInt64 &&& 63)).toInt32.toInt8.toInt32.toInt8.toInt32 = byC w j from fb_byte_twice _]
    exact ih2
set_option maxRecDepth 20000 in
theorem lp_X8_feed {w : Int64} {b n : Nat} (hn : n ≤ 8) (hbn : b + n ≤ 400)  : ∀ (j t : Nat), t + j = n → XW g l mX8_feed (d + 1) 33 [some (xr 49), some (xl w), none, some (xi (nI n)), some (xi (nI j - 1))] [] (fdM M w b n t) (XE (some (xi (nI (b + n)))) (fdM M w b n n)) := by
  intro j
  induction j with
  | zero =>
    intro t ht
    have ht : t = n := by omega
    subst ht
    refine xw_iload dX8_feed_33 rfl ?_
    refine xw_if_lt (tgt := 75) dX8_feed_35 (by decide) (fun c35 => ?_) (fun c35 => ?_)
    · refine xw_aload_n dX8_feed_75 rfl ?_
      refine xw_getV dX8_feed_76 fl_X8_75 rfl rfl (show _ = nI (b + t) by rw [fdM_at, if_pos ⟨rfl, rfl⟩]) ?_
      refine xw_ireti dX8_feed_79 rfl ?_
      first | exact ⟨rfl, rfl⟩ | exact ⟨by simp_all, rfl⟩ | grind [XE]
    · exact absurd (show nI 0 - 1 < 0 by decide) c35
  | succ j ih =>
    intro t ht
    have ih2 := ih (t + 1) (by omega)
    rw [← fdM_s M w b n t j (by omega)] at ih2
    rw [nI_pred]
    refine xw_iload dX8_feed_33 rfl ?_
    refine xw_if_ltN (tgt := 75) dX8_feed_35 (by decide) (by omega) ?_
    refine xw_aload_n dX8_feed_38 rfl ?_
    refine xw_getR dX8_feed_39 fl_X8_19 rfl rfl ?_
    refine xw_aload_n dX8_feed_42 rfl ?_
    refine xw_getV dX8_feed_43 fl_X8_75 rfl rfl (show _ = nI (b + t) by rw [fdM_at, if_pos ⟨rfl, rfl⟩]) ?_
    refine xw_lload_n dX8_feed_46 rfl ?_
    refine xw_bipush (v := 8) dX8_feed_47 (by decide) ?_
    refine xw_iload dX8_feed_49 rfl ?_
    refine xw_imulN (a := 8) dX8_feed_51 ?_
    refine xw_lshr dX8_feed_52 ?_
    refine xw_ldc2 dX8_feed_53 kc_X8_79 ?_
    refine xw_land dX8_feed_56 ?_
    refine xw_l2i dX8_feed_57 ?_
    refine xw_iasN _ dX8_feed_58 rfl (rfl) rfl ?_ ?_
    · omega
    refine xw_aload_n dX8_feed_59 rfl ?_
    refine xw_dup dX8_feed_60 rfl ?_
    refine xw_getV dX8_feed_61 fl_X8_75 rfl rfl (show _ = nI (b + t) by rw [xup_cell _ _ (by decide), fdM_at, if_pos ⟨rfl, rfl⟩]) ?_
    refine xw_iconst (v := 1) dX8_feed_64 (by decide) ?_
    refine xw_iaddN (b := 1) dX8_feed_65 ?_
    refine xw_putI dX8_feed_66 fp_X8_75 rfl rfl ?_
    refine xw_iinc (v := (-1)) dX8_feed_69 (by decide) rfl rfl rfl ?_
    refine xw_goto (tgt := 33) dX8_feed_72 (by decide) ?_
    rw [m1_sub]
    exact ih2
set_option maxRecDepth 20000 in
theorem s_X5_append_ok {w : Int64} {b n : Nat} (hb : M.1 5 1 = nI b) (hn : n ≤ 8) (hbn : b + n ≤ 400) : XC g l mX5_append (d + 1) [xr 5, xl w, xi (nI n)] M (XB True (fdC M w b n n) M) := by
  show XW g l mX5_append _ 0 [some (xr 5), some (xl w), none, some (xi (nI n)), none] [] M _
  refine xw_aload_n dX5_append_0 rfl ?_
  refine xw_getV dX5_append_1 fl_X5_15 rfl rfl (hb) ?_
  refine xw_iload_n dX5_append_4 rfl ?_
  refine xw_iaddN dX5_append_5 ?_
  refine xw_sipush (v := 400) dX5_append_6 (by decide) ?_
  refine xw_icmp_leN (b := 400) (tgt := 14) dX5_append_9 (by decide) (by omega) (fun c9 => ?_) (fun c9 => ?_)
  · refine xw_iload_n dX5_append_14 rfl ?_
    refine xw_iconst (v := 1) dX5_append_15 (by decide) ?_
    refine xw_isub dX5_append_16 ?_
    refine xw_istore dX5_append_17 rfl rfl ?_
    have e9 := lp_X5_append (g := g) (l := l) (d := d) (M := M) (w := w) hn hbn n 0 (by omega)
    rwa [fdC_0 M w b n hb] at e9
  · exfalso; omega
set_option maxRecDepth 20000 in
theorem s_X5_append_no {w : Int64} {b n : Nat} (hb : M.1 5 1 = nI b) (hn : n ≤ 8) (hb4 : b ≤ 400) (hbn : ¬ b + n ≤ 400) : XC g l mX5_append (d + 1) [xr 5, xl w, xi (nI n)] M (XB False M M) := by
  show XW g l mX5_append _ 0 [some (xr 5), some (xl w), none, some (xi (nI n)), none] [] M _
  refine xw_aload_n dX5_append_0 rfl ?_
  refine xw_getV dX5_append_1 fl_X5_15 rfl rfl (hb) ?_
  refine xw_iload_n dX5_append_4 rfl ?_
  refine xw_iaddN dX5_append_5 ?_
  refine xw_sipush (v := 400) dX5_append_6 (by decide) ?_
  refine xw_icmp_leN (b := 400) (tgt := 14) dX5_append_9 (by decide) (by omega) (fun c9 => ?_) (fun c9 => ?_)
  · exfalso; omega
  · refine xw_iconst (v := 0) dX5_append_12 (by decide) ?_
    refine xw_iretz dX5_append_13 rfl (Or.inl rfl) (Or.inr ⟨?_, rfl, rfl⟩)
    exact id
set_option maxRecDepth 20000 in
theorem k_X7_feed_bad {w : Int64} {n : Int32} (h : ¬ (1 ≤ n ∧ n ≤ 8)) : XC g l mX7_feed (d + 2) [xr 0, xl w, xi n] M (XE (some (xi (-1000001))) M) := by
  show XW g l mX7_feed _ 0 [some (xr 0), some (xl w), none, some (xi n)] [] M _
  refine xw_iload_n dX7_feed_0 rfl ?_
  refine xw_iconst (v := 1) dX7_feed_1 (by decide) ?_
  refine xw_icmp_lt (tgt := 11) dX7_feed_2 (by decide) (fun c2 => ?_) (fun c2 => ?_)
  · refine xw_ldc dX7_feed_11 kc_X7_66 ?_
    refine xw_ireti dX7_feed_13 rfl ?_
    first | exact ⟨rfl, rfl⟩ | exact ⟨by simp_all, rfl⟩ | grind [XE]
  · refine xw_iload_n dX7_feed_5 rfl ?_
    refine xw_bipush (v := 8) dX7_feed_6 (by decide) ?_
    refine xw_icmp_le (tgt := 14) dX7_feed_8 (by decide) (fun c8 => ?_) (fun c8 => ?_)
    · exfalso; first | contradiction | omega | grind | simp_all
    · refine xw_ldc dX7_feed_11 kc_X7_66 ?_
      refine xw_ireti dX7_feed_13 rfl ?_
      first | exact ⟨rfl, rfl⟩ | exact ⟨by simp_all, rfl⟩ | grind [XE]
set_option maxRecDepth 20000 in
theorem k_X8_feed_bad {w : Int64} {n : Int32} (h : ¬ (1 ≤ n ∧ n ≤ 8)) : XC g l mX8_feed (d + 1) [xr 49, xl w, xi n] M (XE (some (xi (-1000001))) M) := by
  show XW g l mX8_feed _ 0 [some (xr 49), some (xl w), none, some (xi n), none] [] M _
  refine xw_iload_n dX8_feed_0 rfl ?_
  refine xw_iconst (v := 1) dX8_feed_1 (by decide) ?_
  refine xw_bipush (v := 8) dX8_feed_2 (by decide) ?_
  refine xw_cS3B dX8_feed_4 okX8_in ml_X8_56 rfl rfl (s_X8_in _ _ _) (fun p4 => ?_) (fun p4 => ?_)
  · exfalso; first | contradiction | omega | grind | simp_all
  · refine xw_if_ne (tgt := 13) dX8_feed_7 (by decide) (fun q9 => absurd q9 (by decide)) (fun _ => ?_)
    refine xw_ldc dX8_feed_10 kc_X8_64 ?_
    refine xw_ireti dX8_feed_12 rfl ?_
    first | exact ⟨rfl, rfl⟩ | exact ⟨by simp_all, rfl⟩ | grind [XE]
set_option maxRecDepth 20000 in
theorem k_X7_feed_full {w : Int64} {b n : Nat} (hb : M.1 5 1 = nI b) (hb4 : b ≤ 400) (hn : 1 ≤ n ∧ n ≤ 8) (hbn : ¬ b + n ≤ 400) : XC g l mX7_feed (d + 2) [xr 0, xl w, xi (nI n)] M (XE (some (xi (-1000003))) M) := by
  show XW g l mX7_feed _ 0 [some (xr 0), some (xl w), none, some (xi (nI n))] [] M _
  refine xw_iload_n dX7_feed_0 rfl ?_
  refine xw_iconst (v := 1) dX7_feed_1 (by decide) ?_
  refine xw_icmp_ltN (b := 1) (tgt := 11) dX7_feed_2 (by decide) (by omega) (fun c2 => ?_) (fun c2 => ?_)
  · exfalso; first | omega | contradiction
  · refine xw_iload_n dX7_feed_5 rfl ?_
    refine xw_bipush (v := 8) dX7_feed_6 (by decide) ?_
    refine xw_icmp_leN (b := 8) (tgt := 14) dX7_feed_8 (by decide) (by omega) (fun c8 => ?_) (fun c8 => ?_)
    · refine xw_aload_n dX7_feed_14 rfl ?_
      refine xw_getR dX7_feed_15 fl_X7_19 rfl rfl ?_
      refine xw_lload_n dX7_feed_18 rfl ?_
      refine xw_iload_n dX7_feed_19 rfl ?_
      refine xw_cV2B dX7_feed_20 okX5_append ml_X7_99 rfl rfl rfl rfl (s_X5_append_no hb (by omega) hb4 hbn) (fun p20 => ?_) (fun p20 => ?_)
      · exfalso; first | omega | contradiction
      · refine xw_if_eq (tgt := 36) dX7_feed_23 (by decide) (fun _ => ?_) (fun q9 => absurd q9 (by decide))
        refine xw_ldc dX7_feed_36 kc_X7_107 ?_
        refine xw_ireti dX7_feed_38 rfl ?_
        first | exact ⟨rfl, rfl⟩ | exact ⟨by simp_all, rfl⟩ | grind [XE]
    · exfalso; first | omega | contradiction
set_option maxRecDepth 20000 in
theorem k_X7_feed_ok {w : Int64} {b n : Nat} (hb : M.1 5 1 = nI b) (hb4 : b ≤ 400) (hn : 1 ≤ n ∧ n ≤ 8) (hbn : b + n ≤ 400) : XC g l mX7_feed (d + 2) [xr 0, xl w, xi (nI n)] M (XE (some (xi (nI (b + n)))) (fdC M w b n n)) := by
  show XW g l mX7_feed _ 0 [some (xr 0), some (xl w), none, some (xi (nI n))] [] M _
  refine xw_iload_n dX7_feed_0 rfl ?_
  refine xw_iconst (v := 1) dX7_feed_1 (by decide) ?_
  refine xw_icmp_ltN (b := 1) (tgt := 11) dX7_feed_2 (by decide) (by omega) (fun c2 => ?_) (fun c2 => ?_)
  · exfalso; first | omega | exact p20 trivial
  · refine xw_iload_n dX7_feed_5 rfl ?_
    refine xw_bipush (v := 8) dX7_feed_6 (by decide) ?_
    refine xw_icmp_leN (b := 8) (tgt := 14) dX7_feed_8 (by decide) (by omega) (fun c8 => ?_) (fun c8 => ?_)
    · refine xw_aload_n dX7_feed_14 rfl ?_
      refine xw_getR dX7_feed_15 fl_X7_19 rfl rfl ?_
      refine xw_lload_n dX7_feed_18 rfl ?_
      refine xw_iload_n dX7_feed_19 rfl ?_
      refine xw_cV2B dX7_feed_20 okX5_append ml_X7_99 rfl rfl rfl rfl (s_X5_append_ok hb (by omega) hbn) (fun p20 => ?_) (fun p20 => ?_)
      · refine xw_if_eq (tgt := 36) dX7_feed_23 (by decide) (fun q9 => absurd q9 (by decide)) (fun _ => ?_)
        refine xw_aload_n dX7_feed_26 rfl ?_
        refine xw_getR dX7_feed_27 fl_X7_19 rfl rfl ?_
        refine xw_cV0E dX7_feed_30 okX5_length ml_X7_103 rfl rfl rfl rfl ((s_X5_length).eqv (by rw [fdC_at, if_pos ⟨rfl, rfl⟩]) rfl) ?_
        refine xw_goto (tgt := 38) dX7_feed_33 (by decide) ?_
        refine xw_ireti dX7_feed_38 rfl ?_
        first | exact ⟨rfl, rfl⟩ | exact ⟨by simp_all, rfl⟩ | grind [XE]
      · exfalso; first | omega | exact p20 trivial
    · exfalso; first | omega | exact p20 trivial
set_option maxRecDepth 20000 in
theorem k_X8_feed_full {w : Int64} {b n : Nat} (hb : M.1 49 4 = nI b) (hb4 : b ≤ 400) (hn : 1 ≤ n ∧ n ≤ 8) (hbn : ¬ b + n ≤ 400) : XC g l mX8_feed (d + 1) [xr 49, xl w, xi (nI n)] M (XE (some (xi (-1000003))) M) := by
  have e1 : (1 : Int32) ≤ nI n ∧ nI n ≤ 8 := ⟨nI_le (a := 1) (by omega) (by omega), nI_le (b := 8) (by omega) (by decide)⟩
  show XW g l mX8_feed _ 0 [some (xr 49), some (xl w), none, some (xi (nI n)), none] [] M _
  refine xw_iload_n dX8_feed_0 rfl ?_
  refine xw_iconst (v := 1) dX8_feed_1 (by decide) ?_
  refine xw_bipush (v := 8) dX8_feed_2 (by decide) ?_
  refine xw_cS3B dX8_feed_4 okX8_in ml_X8_56 rfl rfl (s_X8_in _ _ _) (fun p4 => ?_) (fun p4 => ?_)
  · refine xw_if_ne (tgt := 13) dX8_feed_7 (by decide) (fun _ => ?_) (fun q9 => absurd q9 (by decide))
    refine xw_aload_n dX8_feed_13 rfl ?_
    refine xw_getV dX8_feed_14 fl_X8_75 rfl rfl (hb) ?_
    refine xw_iload_n dX8_feed_17 rfl ?_
    refine xw_iaddN dX8_feed_18 ?_
    refine xw_sipush (v := 400) dX8_feed_19 (by decide) ?_
    refine xw_icmp_leN (b := 400) (tgt := 28) dX8_feed_22 (by decide) (by omega) (fun c22 => ?_) (fun c22 => ?_)
    · exfalso; first | omega | contradiction
    · refine xw_ldc dX8_feed_25 kc_X8_78 ?_
      refine xw_ireti dX8_feed_27 rfl ?_
      first | exact ⟨rfl, rfl⟩ | exact ⟨by simp_all, rfl⟩ | grind [XE]
  · exfalso; first | omega | contradiction
set_option maxRecDepth 20000 in
theorem k_X8_feed_ok {w : Int64} {b n : Nat} (hb : M.1 49 4 = nI b) (hb4 : b ≤ 400) (hn : 1 ≤ n ∧ n ≤ 8) (hbn : b + n ≤ 400) : XC g l mX8_feed (d + 1) [xr 49, xl w, xi (nI n)] M (XE (some (xi (nI (b + n)))) (fdM M w b n n)) := by
  have e1 : (1 : Int32) ≤ nI n ∧ nI n ≤ 8 := ⟨nI_le (a := 1) (by omega) (by omega), nI_le (b := 8) (by omega) (by decide)⟩
  show XW g l mX8_feed _ 0 [some (xr 49), some (xl w), none, some (xi (nI n)), none] [] M _
  refine xw_iload_n dX8_feed_0 rfl ?_
  refine xw_iconst (v := 1) dX8_feed_1 (by decide) ?_
  refine xw_bipush (v := 8) dX8_feed_2 (by decide) ?_
  refine xw_cS3B dX8_feed_4 okX8_in ml_X8_56 rfl rfl (s_X8_in _ _ _) (fun p4 => ?_) (fun p4 => ?_)
  · refine xw_if_ne (tgt := 13) dX8_feed_7 (by decide) (fun _ => ?_) (fun q9 => absurd q9 (by decide))
    refine xw_aload_n dX8_feed_13 rfl ?_
    refine xw_getV dX8_feed_14 fl_X8_75 rfl rfl (hb) ?_
    refine xw_iload_n dX8_feed_17 rfl ?_
    refine xw_iaddN dX8_feed_18 ?_
    refine xw_sipush (v := 400) dX8_feed_19 (by decide) ?_
    refine xw_icmp_leN (b := 400) (tgt := 28) dX8_feed_22 (by decide) (by omega) (fun c22 => ?_) (fun c22 => ?_)
    · refine xw_iload_n dX8_feed_28 rfl ?_
      refine xw_iconst (v := 1) dX8_feed_29 (by decide) ?_
      refine xw_isub dX8_feed_30 ?_
      refine xw_istore dX8_feed_31 rfl rfl ?_
      have e9 := lp_X8_feed (g := g) (l := l) (d := d) (M := M) (w := w) (by omega) hbn n 0 (by omega)
      rwa [fdM_0 M w b n hb] at e9
    · exfalso; first | omega | contradiction
  · exfalso; first | omega | contradiction
end PUB26
