section SAYM
variable {g : XG} {l : Launch} {d : Nat} {M : XM}
set_option maxRecDepth 20000 in
theorem s_X8_isLie {D : FD} {c : Nat} (hC : FMS M 54 D) (hc : c < 16) : XC g l mX8_isLie (d + 1) [xr 49, xi (nI c)] M (XB (isLieN D c) M M) := by
  have hC0 := hC
  obtain ⟨hn6, ⟨hT, hT2⟩, ⟨hB, hB2⟩, hN, hcl, hK, hY, hW, hH, hG⟩ := hC
  have ht := tb_div (dtr D) (c / 2)
  have hm := Nat.mod_lt (dtr D / 2 ^ (c / 2)) (show 2 > 0 by decide)
  show XW g l mX8_isLie _ 0 [some (xr 49), some (xi (nI c))] [] M _
  refine xw_iload_n dX8_isLie_0 rfl ?_
  refine xw_iconst (v := 1) dX8_isLie_1 (by decide) ?_
  refine xw_iandN (b := 1) dX8_isLie_2 ?_
  rw [and1]
  refine xw_if_neN (tgt := 10) dX8_isLie_3 (by decide) (by omega) (fun c3 => ?_) (fun c3 => ?_)
  · refine xw_iconst (v := 0) dX8_isLie_10 (by decide) ?_
    refine xw_aload_n dX8_isLie_11 rfl ?_
    refine xw_getR dX8_isLie_12 fl_X8_22 rfl rfl ?_
    refine xw_iconst (v := 1) dX8_isLie_15 (by decide) ?_
    refine xw_ialN 1 dX8_isLie_16 rfl (rfl) (hT) rfl ?_ ?_
    · omega
    refine xw_iload_n dX8_isLie_17 rfl ?_
    refine xw_iconst (v := 2) dX8_isLie_18 (by decide) ?_
    refine xw_idivN (b := 2) dX8_isLie_19 (by omega) ?_
    refine xw_cS2B dX8_isLie_20 okX8_has ml_X8_184 rfl rfl (s_X8_has (by omega) (by omega)) (fun p20 => ?_) (fun p20 => ?_)
    · have e9 := ht.mpr p20
      refine xw_icmp_ne (tgt := 30) dX8_isLie_23 (by decide) (fun _ => ?_) (fun q9 => absurd q9 (by decide))
      refine xw_iconst (v := 0) dX8_isLie_30 (by decide) ?_
      refine xw_iretz dX8_isLie_31 rfl (Or.inl rfl) (Or.inr ⟨?_, rfl, rfl⟩)
      unfold isLieN
      omega
    · have e9 : ¬ dtr D / 2 ^ (c / 2) % 2 = 1 := fun z => p20 (ht.mp z)
      refine xw_icmp_ne (tgt := 30) dX8_isLie_23 (by decide) (fun q9 => absurd q9 (by decide)) (fun _ => ?_)
      refine xw_iconst (v := 1) dX8_isLie_26 (by decide) ?_
      refine xw_goto (tgt := 31) dX8_isLie_27 (by decide) ?_
      refine xw_iretz dX8_isLie_31 rfl (Or.inr rfl) (Or.inl ⟨?_, rfl, rfl⟩)
      unfold isLieN
      omega
  · refine xw_iconst (v := 1) dX8_isLie_6 (by decide) ?_
    refine xw_goto (tgt := 11) dX8_isLie_7 (by decide) ?_
    refine xw_aload_n dX8_isLie_11 rfl ?_
    refine xw_getR dX8_isLie_12 fl_X8_22 rfl rfl ?_
    refine xw_iconst (v := 1) dX8_isLie_15 (by decide) ?_
    refine xw_ialN 1 dX8_isLie_16 rfl (rfl) (hT) rfl ?_ ?_
    · omega
    refine xw_iload_n dX8_isLie_17 rfl ?_
    refine xw_iconst (v := 2) dX8_isLie_18 (by decide) ?_
    refine xw_idivN (b := 2) dX8_isLie_19 (by omega) ?_
    refine xw_cS2B dX8_isLie_20 okX8_has ml_X8_184 rfl rfl (s_X8_has (by omega) (by omega)) (fun p20 => ?_) (fun p20 => ?_)
    · have e9 := ht.mpr p20
      refine xw_icmp_ne (tgt := 30) dX8_isLie_23 (by decide) (fun q9 => absurd q9 (by decide)) (fun _ => ?_)
      refine xw_iconst (v := 1) dX8_isLie_26 (by decide) ?_
      refine xw_goto (tgt := 31) dX8_isLie_27 (by decide) ?_
      refine xw_iretz dX8_isLie_31 rfl (Or.inr rfl) (Or.inl ⟨?_, rfl, rfl⟩)
      unfold isLieN
      omega
    · have e9 : ¬ dtr D / 2 ^ (c / 2) % 2 = 1 := fun z => p20 (ht.mp z)
      refine xw_icmp_ne (tgt := 30) dX8_isLie_23 (by decide) (fun _ => ?_) (fun q9 => absurd q9 (by decide))
      refine xw_iconst (v := 0) dX8_isLie_30 (by decide) ?_
      refine xw_iretz dX8_isLie_31 rfl (Or.inl rfl) (Or.inr ⟨?_, rfl, rfl⟩)
      unfold isLieN
      omega
theorem FMS.keep2 {M M' : XM} {a : Nat} {D : FD} (h : FMS M a D) (hk : ∀ b, (b < 10 ∨ (16 ≤ b ∧ b < 34) ∨ 40 ≤ b) → b < 168 → M'.1 a b = M.1 a b) : FMS M' a D := by
  obtain ⟨h1, ⟨h2, h2b⟩, ⟨h3, h3b⟩, h4, h5, h6, h7, h8, h9, h10⟩ := h
  refine ⟨h1, ⟨by rw [hk 1 (by omega) (by omega)]; exact h2, h2b⟩, ⟨by rw [hk 2 (by omega) (by omega)]; exact h3, h3b⟩, by rw [hk 3 (by omega) (by omega)]; exact h4, fun x y hx hy => by rw [hk _ (by omega) (by omega)]; exact h5 x y hx hy, fun h hh => by rw [hk _ (by omega) (by omega)]; exact h6 h hh, fun h hh => by rw [hk _ (by omega) (by omega)]; exact h7 h hh, fun h hh => by rw [hk _ (by omega) (by omega)]; exact h8 h hh, fun h hh => by rw [hk _ (by omega) (by omega)]; exact h9 h hh, h10⟩
def shM (M : XM) (k : Nat) : XM := xum M 58 (fun i => if i < k then M.1 58 (i + 7) else M.1 58 i)
theorem shM_at (M : XM) (k a b : Nat) : (shM M k).1 a b = if a = 58 ∧ b < k then M.1 58 (b + 7) else M.1 a b := by
  unfold shM
  rw [xum_at]
  by_cases e : a = 58
  · subst e; simp
  · simp [e]
theorem shM_succ (M : XM) (k : Nat) : xup (shM M k) 58 k (M.1 58 (k + 7)) = shM M (k + 1) := by
  refine xm_ext (fun a b => ?_) (fun _ _ => rfl)
  rw [xup_at, shM_at, shM_at]
  grind
def cpM (M : XM) (K P k : Nat) : XM := xum M 58 (fun i => if 7 * K ≤ i ∧ i < 7 * K + k then nI (px P (i - 7 * K)) else M.1 58 i)
theorem cpM_at (M : XM) (K P k a b : Nat) : (cpM M K P k).1 a b = if a = 58 ∧ 7 * K ≤ b ∧ b < 7 * K + k then nI (px P (b - 7 * K)) else M.1 a b := by
  unfold cpM
  rw [xum_at]
  by_cases e : a = 58
  · subst e; simp
  · simp [e]
theorem cpM_succ (M : XM) (K P k : Nat) : xup (cpM M K P k) 58 (7 * K + k) (nI (px P k)) = cpM M K P (k + 1) := by
  refine xm_ext (fun a b => ?_) (fun _ _ => rfl)
  rw [xup_at, cpM_at, cpM_at]
  by_cases e : a = 58 ∧ b = 7 * K + k
  · rw [if_pos e, if_pos (by omega), show b - 7 * K = k by omega]
  · rw [if_neg e]
    by_cases q : a = 58 ∧ 7 * K ≤ b ∧ b < 7 * K + k
    · rw [if_pos q, if_pos (by omega)]
    · rw [if_neg q, if_neg (by omega)]
set_option maxRecDepth 20000 in
theorem tl_X8_saying_true {D : FD} {P K h c : Nat} (hC : FMS M 54 D) (hX : XMP M 54 P) (hS : M.1 49 17 = nI K) (hK24 : K < 24) (hh : h < dn D) (hc : c < 16) (hl : ¬ isLieN D c) : ∀ (q k : Nat), k + q = 6 → XW g l mX8_saying (d + 3) 51 [some (xr 49), some (xi (nI h)), some (xi (nI c)), some (xi (nI k))] [] (cpM M K P k) (XE (some (xi 0)) (xup (xup (cpM M K P 6) 58 (7 * K + 6) (-1000000)) 49 17 (nI (K + 1)))) := by
  have hC0 := hC
  obtain ⟨hn6, ⟨hT, hT2⟩, ⟨hB, hB2⟩, hN, hcl, hK, hY, hW, hH, hG⟩ := hC
  intro q
  induction q with
  | zero =>
    intro k hk
    have hk : k = 6 := by omega
    subst hk
    refine xw_iload_n dX8_saying_51 rfl ?_
    refine xw_bipush (v := 6) dX8_saying_52 (by decide) ?_
    refine xw_icmp_geN (b := 6) (tgt := 86) dX8_saying_54 (by decide) (by omega) (fun c54 => ?_) (fun c54 => ?_)
    · refine xw_aload_n dX8_saying_86 rfl ?_
      refine xw_iload_n dX8_saying_87 rfl ?_
      refine xw_cV1B dX8_saying_88 okX8_isLie ml_X8_193 rfl rfl rfl rfl (s_X8_isLie (show FMS _ 54 D from hC0.keep (fun b _ _ => by rw [cpM_at, if_neg (by omega)])) hc) (fun p88 => ?_) (fun p88 => ?_)
      · first | (exfalso; omega) | exact absurd p88 hl
      · refine xw_istore_n dX8_saying_91 rfl rfl ?_
        refine xw_aload_n dX8_saying_92 rfl ?_
        refine xw_getR dX8_saying_93 fl_X8_35 rfl rfl ?_
        refine xw_bipush (v := 7) dX8_saying_96 (by decide) ?_
        refine xw_aload_n dX8_saying_98 rfl ?_
        refine xw_getV dX8_saying_99 fl_X8_181 rfl rfl (show _ = nI K by rw [cpM_at, if_neg (by omega)]; exact hS) ?_
        refine xw_imulN (a := 7) dX8_saying_102 ?_
        refine xw_bipush (v := 6) dX8_saying_103 (by decide) ?_
        refine xw_iaddN (b := 6) dX8_saying_105 ?_
        refine xw_iload_n dX8_saying_106 rfl ?_
        refine xw_if_eq (tgt := 114) dX8_saying_107 (by decide) (fun _ => ?_) (fun q9 => absurd q9 (by decide))
        refine xw_ldc dX8_saying_114 kc_X8_50 ?_
        refine xw_iasN _ dX8_saying_116 rfl (rfl) rfl ?_ ?_
        · omega
        refine xw_aload_n dX8_saying_117 rfl ?_
        refine xw_dup dX8_saying_118 rfl ?_
        refine xw_getV dX8_saying_119 fl_X8_181 rfl rfl (show _ = nI K by rw [xup_cell _ _ (by decide), cpM_at, if_neg (by omega)]; exact hS) ?_
        refine xw_iconst (v := 1) dX8_saying_122 (by decide) ?_
        refine xw_iaddN (b := 1) dX8_saying_123 ?_
        refine xw_putI dX8_saying_124 fp_X8_181 rfl rfl ?_
        refine xw_iload_n dX8_saying_127 rfl ?_
        refine xw_if_ne (tgt := 133) dX8_saying_128 (by decide) (fun q9 => absurd q9 (by decide)) (fun _ => ?_)
        refine xw_iconst (v := 0) dX8_saying_131 (by decide) ?_
        refine xw_ireti dX8_saying_132 rfl ?_
        first | exact ⟨rfl, rfl⟩ | exact ⟨by simp_all, rfl⟩ | grind [XE]
    · first | (exfalso; omega) | exact absurd p88 hl
  | succ q ih =>
    intro k hk
    have ih2 := ih (k + 1) (by omega)
    rw [← cpM_succ] at ih2
    refine xw_iload_n dX8_saying_51 rfl ?_
    refine xw_bipush (v := 6) dX8_saying_52 (by decide) ?_
    refine xw_icmp_geN (b := 6) (tgt := 86) dX8_saying_54 (by decide) (by omega) (fun c54 => ?_) (fun c54 => ?_)
    · exfalso; omega
    · refine xw_aload_n dX8_saying_57 rfl ?_
      refine xw_getR dX8_saying_58 fl_X8_35 rfl rfl ?_
      refine xw_bipush (v := 7) dX8_saying_61 (by decide) ?_
      refine xw_aload_n dX8_saying_63 rfl ?_
      refine xw_getV dX8_saying_64 fl_X8_181 rfl rfl (show _ = nI K by rw [cpM_at, if_neg (by omega)]; exact hS) ?_
      refine xw_imulN (a := 7) dX8_saying_67 ?_
      refine xw_iload_n dX8_saying_68 rfl ?_
      refine xw_iaddN dX8_saying_69 ?_
      refine xw_aload_n dX8_saying_70 rfl ?_
      refine xw_getR dX8_saying_71 fl_X8_22 rfl rfl ?_
      refine xw_bipush (v := 10) dX8_saying_74 (by decide) ?_
      refine xw_iload_n dX8_saying_76 rfl ?_
      refine xw_iaddN (a := 10) dX8_saying_77 ?_
      refine xw_ialN _ dX8_saying_78 rfl (rfl) (show _ = nI (px P k) by rw [cpM_at, if_neg (by omega)]; exact hX k (by omega)) rfl ?_ ?_
      · omega
      refine xw_iasN _ dX8_saying_79 rfl (rfl) rfl ?_ ?_
      · omega
      refine xw_iincN (v := 1) dX8_saying_80 (by decide) rfl rfl rfl ?_
      refine xw_goto (tgt := 51) dX8_saying_83 (by decide) ?_
      exact ih2
set_option maxRecDepth 20000 in
theorem tl_X8_saying_lie {D : FD} {P K h c : Nat} (hC : FMS M 54 D) (hX : XMP M 54 P) (hS : M.1 49 17 = nI K) (hK24 : K < 24) (hh : h < dn D) (hc : c < 16) (hg : GW D P) (hl : isLieN D c) : ∀ (q k : Nat), k + q = 6 → XW g l mX8_saying (d + 3) 51 [some (xr 49), some (xi (nI h)), some (xi (nI c)), some (xi (nI k))] [] (cpM M K P k) (XE (some (xi (nI (slV D P h)))) (mvX (xup (xup (xup (cpM M K P 6) 58 (7 * K + 6) (nI h)) 49 17 (nI (K + 1))) 54 (34 + h) (M.1 54 (34 + h) + 1)) (slV D P h) (dn D))) := by
  have hC9 : FMS (xup (xup (xup (cpM M K P 6) 58 (7 * K + 6) (nI h)) 49 17 (nI (K + 1))) 54 (34 + h) (M.1 54 (34 + h) + 1)) 54 D := hC.keep2 (fun b _ _ => by rw [xup_place _ _ (by have := hC.1; omega), xup_cell _ _ (by decide), xup_cell _ _ (by decide), cpM_at, if_neg (by omega)])
  have hX9 : XMP (xup (xup (xup (cpM M K P 6) 58 (7 * K + 6) (nI h)) 49 17 (nI (K + 1))) 54 (34 + h) (M.1 54 (34 + h) + 1)) 54 P := fun k hk => by rw [xup_place _ _ (by have := hC.1; omega), xup_cell _ _ (by decide), xup_cell _ _ (by decide), cpM_at, if_neg (by omega)]; exact hX k hk
  have hC0 := hC
  obtain ⟨hn6, ⟨hT, hT2⟩, ⟨hB, hB2⟩, hN, hcl, hK, hY, hW, hH, hG⟩ := hC
  intro q
  induction q with
  | zero =>
    intro k hk
    have hk : k = 6 := by omega
    subst hk
    refine xw_iload_n dX8_saying_51 rfl ?_
    refine xw_bipush (v := 6) dX8_saying_52 (by decide) ?_
    refine xw_icmp_geN (b := 6) (tgt := 86) dX8_saying_54 (by decide) (by omega) (fun c54 => ?_) (fun c54 => ?_)
    · refine xw_aload_n dX8_saying_86 rfl ?_
      refine xw_iload_n dX8_saying_87 rfl ?_
      refine xw_cV1B dX8_saying_88 okX8_isLie ml_X8_193 rfl rfl rfl rfl (s_X8_isLie (show FMS _ 54 D from hC0.keep (fun b _ _ => by rw [cpM_at, if_neg (by omega)])) hc) (fun p88 => ?_) (fun p88 => ?_)
      · refine xw_istore_n dX8_saying_91 rfl rfl ?_
        refine xw_aload_n dX8_saying_92 rfl ?_
        refine xw_getR dX8_saying_93 fl_X8_35 rfl rfl ?_
        refine xw_bipush (v := 7) dX8_saying_96 (by decide) ?_
        refine xw_aload_n dX8_saying_98 rfl ?_
        refine xw_getV dX8_saying_99 fl_X8_181 rfl rfl (show _ = nI K by rw [cpM_at, if_neg (by omega)]; exact hS) ?_
        refine xw_imulN (a := 7) dX8_saying_102 ?_
        refine xw_bipush (v := 6) dX8_saying_103 (by decide) ?_
        refine xw_iaddN (b := 6) dX8_saying_105 ?_
        refine xw_iload_n dX8_saying_106 rfl ?_
        refine xw_if_eq (tgt := 114) dX8_saying_107 (by decide) (fun q9 => absurd q9 (by decide)) (fun _ => ?_)
        refine xw_iload_n dX8_saying_110 rfl ?_
        refine xw_goto (tgt := 116) dX8_saying_111 (by decide) ?_
        refine xw_iasN _ dX8_saying_116 rfl (rfl) rfl ?_ ?_
        · omega
        refine xw_aload_n dX8_saying_117 rfl ?_
        refine xw_dup dX8_saying_118 rfl ?_
        refine xw_getV dX8_saying_119 fl_X8_181 rfl rfl (show _ = nI K by rw [xup_cell _ _ (by decide), cpM_at, if_neg (by omega)]; exact hS) ?_
        refine xw_iconst (v := 1) dX8_saying_122 (by decide) ?_
        refine xw_iaddN (b := 1) dX8_saying_123 ?_
        refine xw_putI dX8_saying_124 fp_X8_181 rfl rfl ?_
        refine xw_iload_n dX8_saying_127 rfl ?_
        refine xw_if_ne (tgt := 133) dX8_saying_128 (by decide) (fun _ => ?_) (fun q9 => absurd q9 (by decide))
        refine xw_aload_n dX8_saying_133 rfl ?_
        refine xw_getR dX8_saying_134 fl_X8_22 rfl rfl ?_
        refine xw_bipush (v := 34) dX8_saying_137 (by decide) ?_
        refine xw_iload_n dX8_saying_139 rfl ?_
        refine xw_iaddN (a := 34) dX8_saying_140 ?_
        refine xw_dup2 dX8_saying_141 rfl rfl ?_
        refine xw_ialN _ dX8_saying_142 rfl (rfl) (rfl) rfl ?_ ?_
        · omega
        refine xw_iconst (v := 1) dX8_saying_143 (by decide) ?_
        refine xw_iadd dX8_saying_144 ?_
        refine xw_iasN _ dX8_saying_145 rfl (rfl) rfl ?_ ?_
        · omega
        rw [xup_cell _ _ (by decide), xup_cell _ _ (by decide), cpM_at, if_neg (by omega)]
        refine xw_aload_n dX8_saying_146 rfl ?_
        refine xw_iload_n dX8_saying_147 rfl ?_
        refine xw_cV1E dX8_saying_148 okX8_slide ml_X8_196 rfl rfl rfl rfl (s_X8_slide hC9 hX9 hg hh) ?_
        refine xw_ireti dX8_saying_151 rfl ?_
        exact ⟨rfl, rfl⟩
      · first | (exfalso; omega) | exact absurd hl p88
    · first | (exfalso; omega) | exact absurd hl p88
  | succ q ih =>
    intro k hk
    have ih2 := ih (k + 1) (by omega)
    rw [← cpM_succ] at ih2
    refine xw_iload_n dX8_saying_51 rfl ?_
    refine xw_bipush (v := 6) dX8_saying_52 (by decide) ?_
    refine xw_icmp_geN (b := 6) (tgt := 86) dX8_saying_54 (by decide) (by omega) (fun c54 => ?_) (fun c54 => ?_)
    · exfalso; omega
    · refine xw_aload_n dX8_saying_57 rfl ?_
      refine xw_getR dX8_saying_58 fl_X8_35 rfl rfl ?_
      refine xw_bipush (v := 7) dX8_saying_61 (by decide) ?_
      refine xw_aload_n dX8_saying_63 rfl ?_
      refine xw_getV dX8_saying_64 fl_X8_181 rfl rfl (show _ = nI K by rw [cpM_at, if_neg (by omega)]; exact hS) ?_
      refine xw_imulN (a := 7) dX8_saying_67 ?_
      refine xw_iload_n dX8_saying_68 rfl ?_
      refine xw_iaddN dX8_saying_69 ?_
      refine xw_aload_n dX8_saying_70 rfl ?_
      refine xw_getR dX8_saying_71 fl_X8_22 rfl rfl ?_
      refine xw_bipush (v := 10) dX8_saying_74 (by decide) ?_
      refine xw_iload_n dX8_saying_76 rfl ?_
      refine xw_iaddN (a := 10) dX8_saying_77 ?_
      refine xw_ialN _ dX8_saying_78 rfl (rfl) (show _ = nI (px P k) by rw [cpM_at, if_neg (by omega)]; exact hX k (by omega)) rfl ?_ ?_
      · omega
      refine xw_iasN _ dX8_saying_79 rfl (rfl) rfl ?_ ?_
      · omega
      refine xw_iincN (v := 1) dX8_saying_80 (by decide) rfl rfl rfl ?_
      refine xw_goto (tgt := 51) dX8_saying_83 (by decide) ?_
      exact ih2
set_option maxRecDepth 20000 in
theorem lp_X8_shift {h c K : Nat} {Q : Option XV → XM → Prop} (hS : M.1 49 17 = nI K) (hK : 0 < K) (hk : ∀ v3, XW g l mX8_saying (d + 3) 49 [some (xr 49), some (xi (nI h)), some (xi (nI c)), v3] [] (xup (shM M 161) 49 17 (nI (K - 1))) Q) : ∀ (q k : Nat), k + q = 161 → XW g l mX8_saying (d + 3) 11 [some (xr 49), some (xi (nI h)), some (xi (nI c)), some (xi (nI k))] [] (shM M k) Q := by
  intro q
  induction q with
  | zero =>
    intro k hk2
    have hk2 : k = 161 := by omega
    subst hk2
    refine xw_iload_n dX8_saying_11 rfl ?_
    refine xw_sipush (v := 161) dX8_saying_12 (by decide) ?_
    refine xw_icmp_geN (b := 161) (tgt := 39) dX8_saying_15 (by decide) (by omega) (fun c15 => ?_) (fun c15 => ?_)
    · refine xw_aload_n dX8_saying_39 rfl ?_
      refine xw_dup dX8_saying_40 rfl ?_
      refine xw_getV dX8_saying_41 fl_X8_181 rfl rfl (show _ = nI K by rw [shM_at, if_neg (by omega)]; exact hS) ?_
      refine xw_iconst (v := 1) dX8_saying_44 (by decide) ?_
      refine xw_isubN (b := 1) dX8_saying_45 ?_ ?_
      · omega
      refine xw_putI dX8_saying_46 fp_X8_181 rfl rfl ?_
      exact hk _
    · exfalso; omega
  | succ q ih =>
    intro k hk2
    have ih2 := ih (k + 1) (by omega)
    rw [← shM_succ] at ih2
    refine xw_iload_n dX8_saying_11 rfl ?_
    refine xw_sipush (v := 161) dX8_saying_12 (by decide) ?_
    refine xw_icmp_geN (b := 161) (tgt := 39) dX8_saying_15 (by decide) (by omega) (fun c15 => ?_) (fun c15 => ?_)
    · exfalso; omega
    · refine xw_aload_n dX8_saying_18 rfl ?_
      refine xw_getR dX8_saying_19 fl_X8_35 rfl rfl ?_
      refine xw_iload_n dX8_saying_22 rfl ?_
      refine xw_aload_n dX8_saying_23 rfl ?_
      refine xw_getR dX8_saying_24 fl_X8_35 rfl rfl ?_
      refine xw_iload_n dX8_saying_27 rfl ?_
      refine xw_bipush (v := 7) dX8_saying_28 (by decide) ?_
      refine xw_iaddN (b := 7) dX8_saying_30 ?_
      refine xw_ialN _ dX8_saying_31 rfl (rfl) (show _ = M.1 58 (k + 7) by rw [shM_at, if_neg (by omega)]) rfl ?_ ?_
      · omega
      refine xw_iasN _ dX8_saying_32 rfl (rfl) rfl ?_ ?_
      · omega
      refine xw_iincN (v := 1) dX8_saying_33 (by decide) rfl rfl rfl ?_
      refine xw_goto (tgt := 11) dX8_saying_36 (by decide) ?_
      exact ih2
theorem MRep.houses {D : FD} {A : FA} (h : MRep M D A) : dn D ≤ 6 ∧ ∀ h, h < dn D → 1 ≤ dW D h := ⟨h.1.1, fun k hk => (h.1.2.2.2.2.2.2.2.2.2 k hk).2.1⟩
/-- a saying of the reference, with room for one more -/
theorem m_saying0 {D : FD} {A : FA} {h c : Nat} {v3 : Option XV} (hR : MRep M D A) (hg : GW D A.1) (hP : A.1 < 2 ^ 24) (hK : A.2.2.1 < 24) (hh : h < dn D) (hc : c < 16) : XW g l mX8_saying (d + 3) 49 [some (xr 49), some (xi (nI h)), some (xi (nI c)), v3] [] M (fun r M' => r = some (xi (nI (sayV D A h c))) ∧ MRep M' D (stepSay D A h c) ∧ FrM M M') := by
  have hhs := hR.houses
  obtain ⟨hC, hX, hL, hS, hK2, hH⟩ := hR
  have e0 : cpM M A.2.2.1 A.1 0 = M := xm_ext (fun a b => by rw [cpM_at, if_neg (by omega)]) (fun _ _ => rfl)
  have hh6 : h < 6 := by omega
  -- the new history, by places
  have key : ∀ (M' : XM) (v : Int32) (u : Nat), v = liarM u → M'.1 49 17 = nI (A.2.2.1 + 1) → (∀ b, M'.1 58 b = if b = 7 * A.2.2.1 + 6 then v else (cpM M A.2.2.1 A.1 6).1 58 b) → HM M' (min (A.2.2.1 + 1) 24) (consH (A.1, u) A.2.2.2) := by
    intro M' v u hv q1 q2
    rw [Nat.min_eq_left (by omega)]
    refine ⟨q1, by omega, fun i hi => ?_⟩
    cases i with
    | zero =>
      refine ⟨fun a ha => ?_, ?_⟩
      · rw [q2, if_neg (by omega), cpM_at, if_pos (by omega), show 7 * (A.2.2.1 + 1 - 1 - 0) + a - 7 * A.2.2.1 = a by omega]; rfl
      · rw [q2, if_pos (by omega), hv]; rfl
    | succ i =>
      have e1 : A.2.2.1 + 1 - 1 - (i + 1) = A.2.2.1 - 1 - i := by omega
      have e2 := hH i (by omega)
      rw [e1]
      refine ⟨fun a ha => ?_, ?_⟩
      · rw [q2, if_neg (by omega), cpM_at, if_neg (by omega)]; exact e2.1 a ha
      · rw [q2, if_neg (by omega), cpM_at, if_neg (by omega)]; exact e2.2
  refine xw_iconst (v := 0) dX8_saying_49 (by decide) ?_
  refine xw_istore_n dX8_saying_50 rfl rfl ?_
  by_cases hl : isLieN D c
  · have e1 := tl_X8_saying_lie (g := g) (l := l) (d := d) hC hX hS hK hh hc hg hl 6 0 rfl
    rw [e0] at e1
    refine XW.mono e1 (fun r M' hq => ?_)
    obtain ⟨rfl, rfl⟩ := hq
    have at' : ∀ a b, (a ≠ 54 ∨ b < 10 ∨ 16 ≤ b) → (mvX (xup (xup (xup (cpM M A.2.2.1 A.1 6) 58 (7 * A.2.2.1 + 6) (nI h)) 49 17 (nI (A.2.2.1 + 1))) 54 (34 + h) (M.1 54 (34 + h) + 1)) (slV D A.1 h) (dn D)).1 a b = if a = 54 ∧ b = 34 + h then M.1 54 (34 + h) + 1 else if a = 49 ∧ b = 17 then nI (A.2.2.1 + 1) else if a = 58 ∧ b = 7 * A.2.2.1 + 6 then nI h else (cpM M A.2.2.1 A.1 6).1 a b := by
      intro a b q
      rw [mvX_at q hhs.1, xup_at, xup_at, xup_at]
    refine ⟨by unfold sayV; rw [if_pos (decP_t hl)], ?_, ?_⟩
    · unfold stepSay
      rw [if_pos (decP_t hl)]
      refine ⟨hC.keep2 (fun b q1 q2 => ?_), ?_, fun k hk => ?_, ?_⟩
      · rw [at' 54 b (by omega), if_neg (by omega), if_neg (by omega), if_neg (by omega), cpM_at, if_neg (by omega)]
      · refine mvX_XMP (fun k hk => ?_) hP hhs.1 hg hhs.2
        rw [xup_at, if_neg (by omega), xup_cell _ _ (by decide), xup_cell _ _ (by decide), cpM_at, if_neg (by omega)]
        exact hX k hk
      · show _ = upL A.2.1 h _ k
        unfold upL
        rw [at' 54 (34 + k) (by omega)]
        by_cases e : k = h
        · subst e; rw [if_pos ⟨rfl, rfl⟩, if_pos rfl, hL k hk]
        · rw [if_neg (by omega), if_neg (by omega), if_neg (by omega), if_neg e, cpM_at, if_neg (by omega), hL k hk]
      · refine key _ (nI h) (h + 1) (by simp [liarM]) ?_ (fun b => ?_)
        · rw [at' 49 17 (by omega), if_neg (by omega), if_pos ⟨rfl, rfl⟩]
        · rw [at' 58 b (by omega), if_neg (by omega), if_neg (by omega)]; simp
    · refine ⟨fun a b q1 q2 q3 => ?_, ?_, rfl⟩
      · rw [at' a b (by omega), if_neg (by omega), if_neg q1, if_neg (by omega), cpM_at, if_neg (by omega)]
      · rw [at' 54 0 (by omega), if_neg (by omega), if_neg (by omega), if_neg (by omega), cpM_at, if_neg (by omega)]
  · have e1 := tl_X8_saying_true (g := g) (l := l) (d := d) hC hX hS hK hh hc hl 6 0 rfl
    rw [e0] at e1
    refine XW.mono e1 (fun r M' hq => ?_)
    obtain ⟨rfl, rfl⟩ := hq
    have at' : ∀ a b, (xup (xup (cpM M A.2.2.1 A.1 6) 58 (7 * A.2.2.1 + 6) (-1000000)) 49 17 (nI (A.2.2.1 + 1))).1 a b = if a = 49 ∧ b = 17 then nI (A.2.2.1 + 1) else if a = 58 ∧ b = 7 * A.2.2.1 + 6 then -1000000 else (cpM M A.2.2.1 A.1 6).1 a b := by
      intro a b
      rw [xup_at, xup_at]
    refine ⟨by unfold sayV; rw [decP_f hl]; rfl, ?_, ?_⟩
    · unfold stepSay
      rw [decP_f hl, if_neg (by decide)]
      refine ⟨hC.keep2 (fun b q1 q2 => ?_), fun k hk => ?_, fun k hk => ?_, ?_⟩
      · rw [at', if_neg (by omega), if_neg (by omega), cpM_at, if_neg (by omega)]
      · rw [at', if_neg (by omega), if_neg (by omega), cpM_at, if_neg (by omega)]; exact hX k hk
      · rw [at', if_neg (by omega), if_neg (by omega), cpM_at, if_neg (by omega)]; exact hL k hk
      · refine key _ (-1000000) 0 rfl ?_ (fun b => ?_)
        · rw [at', if_pos ⟨rfl, rfl⟩]
        · rw [at', if_neg (by omega)]; simp
    · refine ⟨fun a b q1 q2 q3 => ?_, ?_, rfl⟩
      · rw [at', if_neg q1, if_neg (by omega), cpM_at, if_neg (by omega)]
      · rw [at', if_neg (by omega), if_neg (by omega), cpM_at, if_neg (by omega)]
set_option maxRecDepth 20000 in
theorem m_saying {D : FD} {A : FA} {h c : Nat} (hR : MRep M D A) (hg : GW D A.1) (hP : A.1 < 2 ^ 24) (hh : h < dn D) (hc : c < 16) : XC g l mX8_saying (d + 3) [xr 49, xi (nI h), xi (nI c)] M (fun r M' => r = some (xi (nI (sayV D A h c))) ∧ MRep M' D (stepSay D A h c) ∧ FrM M M') := by
  have hS := hR.2.2.2.1
  have hK24 := hR.2.2.2.2.1
  have hh2 := hR.houses
  show XW g l mX8_saying _ 0 [some (xr 49), some (xi (nI h)), some (xi (nI c)), none] [] M _
  refine xw_aload_n dX8_saying_0 rfl ?_
  refine xw_getV dX8_saying_1 fl_X8_181 rfl rfl (hS) ?_
  refine xw_bipush (v := 24) dX8_saying_4 (by decide) ?_
  refine xw_icmp_neN (b := 24) (tgt := 49) dX8_saying_6 (by decide) (by omega) (fun c6 => ?_) (fun c6 => ?_)
  · exact m_saying0 hR hg hP (by omega) hh hc
  · refine xw_iconst (v := 0) dX8_saying_9 (by decide) ?_
    refine xw_istore_n dX8_saying_10 rfl rfl ?_
    have e9 : shM M 0 = M := xm_ext (fun a b => by rw [shM_at, if_neg (by omega)]) (fun _ _ => rfl)
    have e8 := lp_X8_shift (g := g) (l := l) (d := d) (M := M) (h := h) (c := c) (K := A.2.2.1) (Q := fun r M' => r = some (xi (nI (sayV D A h c))) ∧ MRep M' D (stepSay D A h c) ∧ FrM M M') hS (by omega) (fun v3 => ?_) 161 0 rfl
    · rw [e9] at e8
      exact e8
    have at' : ∀ a b, (xup (shM M 161) 49 17 (nI (A.2.2.1 - 1))).1 a b = if a = 49 ∧ b = 17 then nI (A.2.2.1 - 1) else if a = 58 ∧ b < 161 then M.1 58 (b + 7) else M.1 a b := fun a b => by rw [xup_at, shM_at]
    have hR2 : MRep (xup (shM M 161) 49 17 (nI (A.2.2.1 - 1))) D (A.1, A.2.1, A.2.2.1 - 1, A.2.2.2) := by
      obtain ⟨hC, hX, hL, -, -, hH⟩ := hR
      refine ⟨hC.keep2 (fun b _ _ => by rw [at', if_neg (by omega), if_neg (by omega)]), fun k hk => by rw [at', if_neg (by omega), if_neg (by omega)]; exact hX k hk, fun k hk => by rw [at', if_neg (by omega), if_neg (by omega)]; exact hL k hk, by rw [at', if_pos ⟨rfl, rfl⟩], by show A.2.2.1 - 1 ≤ 24; omega, fun i hi => ?_⟩
      have hi : i < A.2.2.1 - 1 := hi
      have e2 := hH i (by omega)
      have e3 : ∀ a, 7 * (A.2.2.1 - 1 - 1 - i) + a + 7 = 7 * (A.2.2.1 - 1 - i) + a := fun a => by omega
      refine ⟨fun a ha => ?_, ?_⟩
      · show (xup (shM M 161) 49 17 _).1 58 (7 * (A.2.2.1 - 1 - 1 - i) + a) = _
        rw [at', if_neg (by omega), if_pos (by omega), e3]; exact e2.1 a ha
      · show (xup (shM M 161) 49 17 _).1 58 (7 * (A.2.2.1 - 1 - 1 - i) + 6) = _
        rw [at', if_neg (by omega), if_pos (by omega), e3]; exact e2.2
    refine XW.mono (m_saying0 (v3 := v3) hR2 hg hP (by show A.2.2.1 - 1 < 24; omega) hh hc) (fun r M' hq => ?_)
    obtain ⟨q1, q2, q3⟩ := hq
    have e7 : stepSay D (A.1, A.2.1, A.2.2.1 - 1, A.2.2.2) h c = stepSay D A h c := by
      unfold stepSay stepLie stepTrue
      simp only
      rw [show min (A.2.2.1 - 1 + 1) 24 = min (A.2.2.1 + 1) 24 by omega]
    refine ⟨q1, by rw [← e7]; exact q2, fun a b z1 z2 z3 => ?_, ?_, ?_⟩
    · rw [q3.1 a b z1 z2 z3, at', if_neg z1, if_neg (by omega)]
    · rw [q3.2.1, at', if_neg (by omega), if_neg (by omega)]
    · rw [q3.2.2]; rfl
end SAYM
