section TALK
variable {g : XG} {l : Launch} {d : Nat} {M : XM}
set_option maxRecDepth 20000 in
theorem k_X8_say_bad {n : Nat} {a c : Int32} (hN : M.1 54 3 = nI n) (hn6 : n ≤ 6) (h : ¬ ((0 ≤ a ∧ a < nI n) ∧ 0 ≤ c ∧ c ≤ 15)) : XC g l mX8_say (d + 4) [xr 49, xi a, xi c] M (XE (some (xi (-1000001))) M) := by
  show XW g l mX8_say _ 0 [some (xr 49), some (xi a), some (xi c)] [] M _
  refine xw_aload_n dX8_say_0 rfl ?_
  refine xw_iload_n dX8_say_1 rfl ?_
  refine xw_cV1B dX8_say_2 okX8_isThere ml_X8_199 rfl rfl rfl rfl (s_X8_isThere hN hn6 _) (fun p2 => ?_) (fun p2 => ?_)
  · refine xw_if_eq (tgt := 18) dX8_say_5 (by decide) (fun q9 => absurd q9 (by decide)) (fun _ => ?_)
    refine xw_iload_n dX8_say_8 rfl ?_
    refine xw_iconst (v := 0) dX8_say_9 (by decide) ?_
    refine xw_bipush (v := 15) dX8_say_10 (by decide) ?_
    refine xw_cS3B dX8_say_12 okX8_in ml_X8_56 rfl rfl (s_X8_in _ _ _) (fun p12 => ?_) (fun p12 => ?_)
    · exfalso; grind
    · refine xw_if_ne (tgt := 21) dX8_say_15 (by decide) (fun q9 => absurd q9 (by decide)) (fun _ => ?_)
      refine xw_ldc dX8_say_18 kc_X8_64 ?_
      refine xw_ireti dX8_say_20 rfl ?_
      first | exact ⟨rfl, rfl⟩ | exact ⟨by simp_all, rfl⟩ | grind [XE]
  · refine xw_if_eq (tgt := 18) dX8_say_5 (by decide) (fun _ => ?_) (fun q9 => absurd q9 (by decide))
    refine xw_ldc dX8_say_18 kc_X8_64 ?_
    refine xw_ireti dX8_say_20 rfl ?_
    first | exact ⟨rfl, rfl⟩ | exact ⟨by simp_all, rfl⟩ | grind [XE]
set_option maxRecDepth 20000 in
theorem k_X8_say_state {D : FD} {A : FA} {h c : Nat} (hR : MRep M D A) (hh : h < dn D) (hc : c < 16) (hd : drowned D A.1 h) : XC g l mX8_say (d + 4) [xr 49, xi (nI h), xi (nI c)] M (XE (some (xi (-1000002))) M) := by
  obtain ⟨hC, hX, hL, hHM⟩ := id hR
  have hn6 := hC.1
  have hN := hC.2.2.2.1
  have e0 : 0 ≤ nI h ∧ nI h < nI (dn D) := nI_in0 (by omega) hh
  have e1 : (0 : Int32) ≤ nI c ∧ nI c ≤ 15 := ⟨nI_pos' (by omega), nI_le (b := 15) (by omega) (by decide)⟩
  show XW g l mX8_say _ 0 [some (xr 49), some (xi (nI h)), some (xi (nI c))] [] M _
  refine xw_aload_n dX8_say_0 rfl ?_
  refine xw_iload_n dX8_say_1 rfl ?_
  refine xw_cV1B dX8_say_2 okX8_isThere ml_X8_199 rfl rfl rfl rfl (s_X8_isThere hN hn6 _) (fun p2 => ?_) (fun p2 => ?_)
  · refine xw_if_eq (tgt := 18) dX8_say_5 (by decide) (fun q9 => absurd q9 (by decide)) (fun _ => ?_)
    refine xw_iload_n dX8_say_8 rfl ?_
    refine xw_iconst (v := 0) dX8_say_9 (by decide) ?_
    refine xw_bipush (v := 15) dX8_say_10 (by decide) ?_
    refine xw_cS3B dX8_say_12 okX8_in ml_X8_56 rfl rfl (s_X8_in _ _ _) (fun p12 => ?_) (fun p12 => ?_)
    · refine xw_if_ne (tgt := 21) dX8_say_15 (by decide) (fun _ => ?_) (fun q9 => absurd q9 (by decide))
      refine xw_aload_n dX8_say_21 rfl ?_
      refine xw_iload_n dX8_say_22 rfl ?_
      refine xw_cV1B dX8_say_23 okX8_isDrowned ml_X8_202 rfl rfl rfl rfl (s_X8_isDrowned hC hX hh) (fun p23 => ?_) (fun p23 => ?_)
      · refine xw_if_eq (tgt := 34) dX8_say_26 (by decide) (fun q9 => absurd q9 (by decide)) (fun _ => ?_)
        refine xw_ldc dX8_say_29 kc_X8_205 ?_
        refine xw_goto (tgt := 40) dX8_say_31 (by decide) ?_
        refine xw_ireti dX8_say_40 rfl ?_
        first | exact ⟨rfl, rfl⟩ | exact ⟨by simp_all, rfl⟩ | grind [XE]
      · exfalso; first | contradiction | omega
    · exfalso; first | contradiction | omega
  · exfalso; first | contradiction | omega
set_option maxRecDepth 20000 in
theorem m_say {D : FD} {A : FA} {h c : Nat} (hR : MRep M D A) (hh : h < dn D) (hc : c < 16) (hg : GW D A.1) (hP : A.1 < 2 ^ 24) (hd : ¬ drowned D A.1 h) : XC g l mX8_say (d + 4) [xr 49, xi (nI h), xi (nI c)] M (fun r M' => r = some (xi (nI (sayV D A h c))) ∧ MRep M' D (stepSay D A h c) ∧ FrM M M') := by
  obtain ⟨hC, hX, hL, hHM⟩ := id hR
  have hn6 := hC.1
  have hN := hC.2.2.2.1
  have e0 : 0 ≤ nI h ∧ nI h < nI (dn D) := nI_in0 (by omega) hh
  have e1 : (0 : Int32) ≤ nI c ∧ nI c ≤ 15 := ⟨nI_pos' (by omega), nI_le (b := 15) (by omega) (by decide)⟩
  show XW g l mX8_say _ 0 [some (xr 49), some (xi (nI h)), some (xi (nI c))] [] M _
  refine xw_aload_n dX8_say_0 rfl ?_
  refine xw_iload_n dX8_say_1 rfl ?_
  refine xw_cV1B dX8_say_2 okX8_isThere ml_X8_199 rfl rfl rfl rfl (s_X8_isThere hN hn6 _) (fun p2 => ?_) (fun p2 => ?_)
  · refine xw_if_eq (tgt := 18) dX8_say_5 (by decide) (fun q9 => absurd q9 (by decide)) (fun _ => ?_)
    refine xw_iload_n dX8_say_8 rfl ?_
    refine xw_iconst (v := 0) dX8_say_9 (by decide) ?_
    refine xw_bipush (v := 15) dX8_say_10 (by decide) ?_
    refine xw_cS3B dX8_say_12 okX8_in ml_X8_56 rfl rfl (s_X8_in _ _ _) (fun p12 => ?_) (fun p12 => ?_)
    · refine xw_if_ne (tgt := 21) dX8_say_15 (by decide) (fun _ => ?_) (fun q9 => absurd q9 (by decide))
      refine xw_aload_n dX8_say_21 rfl ?_
      refine xw_iload_n dX8_say_22 rfl ?_
      refine xw_cV1B dX8_say_23 okX8_isDrowned ml_X8_202 rfl rfl rfl rfl (s_X8_isDrowned hC hX hh) (fun p23 => ?_) (fun p23 => ?_)
      · exfalso; first | contradiction | omega
      · refine xw_if_eq (tgt := 34) dX8_say_26 (by decide) (fun _ => ?_) (fun q9 => absurd q9 (by decide))
        refine xw_aload_n dX8_say_34 rfl ?_
        refine xw_iload_n dX8_say_35 rfl ?_
        refine xw_iload_n dX8_say_36 rfl ?_
        refine xw_cV2Q dX8_say_37 okX8_saying ml_X8_206 rfl rfl rfl rfl (m_saying hR hg hP hh hc) ?_
        rintro _ M' ⟨rfl, hR2, hF2⟩
        refine xw_ireti dX8_say_40 rfl ?_
        exact ⟨rfl, hR2, hF2⟩
    · exfalso; first | contradiction | omega
  · exfalso; first | contradiction | omega
set_option maxRecDepth 20000 in
theorem k_X8_undo_none (h3 : M.1 49 17 = nI 0) : XC g l mX8_undo d [xr 49] M (XE (some (xi (-1000002))) M) := by
  show XW g l mX8_undo _ 0 [some (xr 49), none] [] M _
  refine xw_aload_n dX8_undo_0 rfl ?_
  refine xw_getV dX8_undo_1 fl_X8_181 rfl rfl (h3) ?_
  refine xw_if_neN (tgt := 10) dX8_undo_4 (by decide) (by omega) (fun c4 => ?_) (fun c4 => ?_)
  · exact absurd rfl c4
  · refine xw_ldc dX8_undo_7 kc_X8_205 ?_
    refine xw_ireti dX8_undo_9 rfl ?_
    first | exact ⟨rfl, rfl⟩ | exact ⟨by simp_all, rfl⟩ | grind [XE]
def rbM (M : XM) (K P k : Nat) : XM := xum (xup M 49 17 (nI (K - 1))) 54 (fun i => if 10 ≤ i ∧ i < 10 + k then nI (px P (i - 10)) else M.1 54 i)
theorem rbM_at (M : XM) (K P k a b : Nat) : (rbM M K P k).1 a b = if a = 54 ∧ 10 ≤ b ∧ b < 10 + k then nI (px P (b - 10)) else if a = 49 ∧ b = 17 then nI (K - 1) else M.1 a b := by
  unfold rbM
  rw [xum_at, xup_at]
  by_cases e : a = 54
  · subst e; simp
  · simp [e]
theorem rbM_succ (M : XM) (K P k : Nat) : xup (rbM M K P k) 54 (10 + k) (nI (px P k)) = rbM M K P (k + 1) := by
  refine xm_ext (fun a b => ?_) (fun _ _ => rfl)
  rw [xup_at, rbM_at, rbM_at]
  by_cases e : a = 54 ∧ b = 10 + k
  · rw [if_pos e, if_pos (by omega), show b - 10 = k by omega]
  · rw [if_neg e]
    by_cases q : a = 54 ∧ 10 ≤ b ∧ b < 10 + k
    · rw [if_pos q, if_pos (by omega)]
    · rw [if_neg q, if_neg (show ¬ (a = 54 ∧ 10 ≤ b ∧ b < 10 + (k + 1)) by omega)]
def udM (M : XM) (K P u : Nat) : XM := if u = 0 then rbM M K P 6 else xup (rbM M K P 6) 54 (34 + (u - 1)) (M.1 54 (34 + (u - 1)) - 1)
set_option maxRecDepth 20000 in
theorem lp_X8_undo {K PP u : Nat} (hK0 : 0 < K) (hK24 : K ≤ 24) (hE : ∀ a, a < 6 → M.1 58 (7 * (K - 1) + a) = nI (px PP a)) (hu : u ≤ 6) (hU : M.1 58 (7 * (K - 1) + 6) = liarM u) : ∀ (q k : Nat), k + q = 6 → XW g l mX8_undo d 22 [some (xr 49), some (xi (nI k))] [] (rbM M K PP k) (XE (some (xi (nI (K - 1)))) (udM M K PP u)) := by
  intro q
  induction q with
  | zero =>
    intro k hk
    have hk : k = 6 := by omega
    subst hk
    have e5 : (rbM M K PP 6).1 58 (7 * (K - 1) + 6) = liarM u := by rw [rbM_at, if_neg (by omega), if_neg (by omega)]; exact hU
    by_cases e6 : u = 0
    · have e5b : (rbM M K PP 6).1 58 (7 * (K - 1) + 6) = -1000000 := by rw [e5, e6]; rfl
      refine xw_iload_n dX8_undo_22 rfl ?_
      refine xw_bipush (v := 6) dX8_undo_23 (by decide) ?_
      refine xw_icmp_geN (b := 6) (tgt := 57) dX8_undo_25 (by decide) (by omega) (fun c25 => ?_) (fun c25 => ?_)
      · refine xw_aload_n dX8_undo_57 rfl ?_
        refine xw_getR dX8_undo_58 fl_X8_35 rfl rfl ?_
        refine xw_bipush (v := 7) dX8_undo_61 (by decide) ?_
        refine xw_aload_n dX8_undo_63 rfl ?_
        refine xw_getV dX8_undo_64 fl_X8_181 rfl rfl (show _ = nI (K - 1) by rw [rbM_at, if_neg (by omega), if_pos ⟨rfl, rfl⟩]) ?_
        refine xw_imulN (a := 7) dX8_undo_67 ?_
        refine xw_bipush (v := 6) dX8_undo_68 (by decide) ?_
        refine xw_iaddN (b := 6) dX8_undo_70 ?_
        refine xw_ialN _ dX8_undo_71 rfl (rfl) (rfl) rfl ?_ ?_
        · omega
        refine xw_istore_n dX8_undo_72 rfl rfl ?_
        refine xw_iload_n dX8_undo_73 rfl ?_
        refine xw_ldc dX8_undo_74 kc_X8_50 ?_
        refine xw_icmp_eq (tgt := 92) dX8_undo_76 (by decide) (fun c76 => ?_) (fun c76 => ?_)
        · refine xw_aload_n dX8_undo_92 rfl ?_
          refine xw_getV dX8_undo_93 fl_X8_181 rfl rfl (show _ = nI (K - 1) by rw [rbM_at, if_neg (by omega), if_pos ⟨rfl, rfl⟩]) ?_
          refine xw_ireti dX8_undo_96 rfl ?_
          exact ⟨rfl, by unfold udM; rw [if_pos e6]⟩
        · first | (exfalso; omega) | exact absurd e5b c76
      · first | (exfalso; omega) | exact absurd e5b c76
    · have e5b : (rbM M K PP 6).1 58 (7 * (K - 1) + 6) = nI (u - 1) := by rw [e5]; unfold liarM; rw [if_neg e6]
      refine xw_iload_n dX8_undo_22 rfl ?_
      refine xw_bipush (v := 6) dX8_undo_23 (by decide) ?_
      refine xw_icmp_geN (b := 6) (tgt := 57) dX8_undo_25 (by decide) (by omega) (fun c25 => ?_) (fun c25 => ?_)
      · refine xw_aload_n dX8_undo_57 rfl ?_
        refine xw_getR dX8_undo_58 fl_X8_35 rfl rfl ?_
        refine xw_bipush (v := 7) dX8_undo_61 (by decide) ?_
        refine xw_aload_n dX8_undo_63 rfl ?_
        refine xw_getV dX8_undo_64 fl_X8_181 rfl rfl (show _ = nI (K - 1) by rw [rbM_at, if_neg (by omega), if_pos ⟨rfl, rfl⟩]) ?_
        refine xw_imulN (a := 7) dX8_undo_67 ?_
        refine xw_bipush (v := 6) dX8_undo_68 (by decide) ?_
        refine xw_iaddN (b := 6) dX8_undo_70 ?_
        refine xw_ialN _ dX8_undo_71 rfl (rfl) (e5b) rfl ?_ ?_
        · omega
        refine xw_istore_n dX8_undo_72 rfl rfl ?_
        refine xw_iload_n dX8_undo_73 rfl ?_
        refine xw_ldc dX8_undo_74 kc_X8_50 ?_
        refine xw_icmp_eq (tgt := 92) dX8_undo_76 (by decide) (fun c76 => ?_) (fun c76 => ?_)
        · first | (exfalso; omega) | exact absurd c76 (fun z => absurd (z ▸ nI_pos' (n := u - 1) (by omega)) (by decide))
        · refine xw_aload_n dX8_undo_79 rfl ?_
          refine xw_getR dX8_undo_80 fl_X8_22 rfl rfl ?_
          refine xw_bipush (v := 34) dX8_undo_83 (by decide) ?_
          refine xw_iload_n dX8_undo_85 rfl ?_
          refine xw_iaddN (a := 34) dX8_undo_86 ?_
          refine xw_dup2 dX8_undo_87 rfl rfl ?_
          refine xw_ialN _ dX8_undo_88 rfl (rfl) (show _ = M.1 54 (34 + (u - 1)) by rw [rbM_at, if_neg (by omega), if_neg (by omega)]) rfl ?_ ?_
          · omega
          refine xw_iconst (v := 1) dX8_undo_89 (by decide) ?_
          refine xw_isub dX8_undo_90 ?_
          refine xw_iasN _ dX8_undo_91 rfl (rfl) rfl ?_ ?_
          · omega
          refine xw_aload_n dX8_undo_92 rfl ?_
          refine xw_getV dX8_undo_93 fl_X8_181 rfl rfl (show _ = nI (K - 1) by rw [xup_cell _ _ (by decide), rbM_at, if_neg (by omega), if_pos ⟨rfl, rfl⟩]) ?_
          refine xw_ireti dX8_undo_96 rfl ?_
          exact ⟨rfl, by unfold udM; rw [if_neg e6]⟩
      · first | (exfalso; omega) | exact absurd c76 (fun z => absurd (z ▸ nI_pos' (n := u - 1) (by omega)) (by decide))
  | succ q ih =>
    intro k hk
    have ih2 := ih (k + 1) (by omega)
    rw [← rbM_succ] at ih2
    refine xw_iload_n dX8_undo_22 rfl ?_
    refine xw_bipush (v := 6) dX8_undo_23 (by decide) ?_
    refine xw_icmp_geN (b := 6) (tgt := 57) dX8_undo_25 (by decide) (by omega) (fun c25 => ?_) (fun c25 => ?_)
    · exfalso; omega
    · refine xw_aload_n dX8_undo_28 rfl ?_
      refine xw_getR dX8_undo_29 fl_X8_22 rfl rfl ?_
      refine xw_bipush (v := 10) dX8_undo_32 (by decide) ?_
      refine xw_iload_n dX8_undo_34 rfl ?_
      refine xw_iaddN (a := 10) dX8_undo_35 ?_
      refine xw_aload_n dX8_undo_36 rfl ?_
      refine xw_getR dX8_undo_37 fl_X8_35 rfl rfl ?_
      refine xw_bipush (v := 7) dX8_undo_40 (by decide) ?_
      refine xw_aload_n dX8_undo_42 rfl ?_
      refine xw_getV dX8_undo_43 fl_X8_181 rfl rfl (show _ = nI (K - 1) by rw [rbM_at, if_neg (by omega), if_pos ⟨rfl, rfl⟩]) ?_
      refine xw_imulN (a := 7) dX8_undo_46 ?_
      refine xw_iload_n dX8_undo_47 rfl ?_
      refine xw_iaddN dX8_undo_48 ?_
      refine xw_ialN _ dX8_undo_49 rfl (rfl) (show _ = nI (px PP k) by rw [rbM_at, if_neg (by omega), if_neg (by omega)]; exact hE k (by omega)) rfl ?_ ?_
      · omega
      refine xw_iasN _ dX8_undo_50 rfl (rfl) rfl ?_ ?_
      · omega
      refine xw_iincN (v := 1) dX8_undo_51 (by decide) rfl rfl rfl ?_
      refine xw_goto (tgt := 22) dX8_undo_54 (by decide) ?_
      exact ih2
set_option maxRecDepth 20000 in
theorem s_X8_undo {K PP u : Nat} (h3 : M.1 49 17 = nI K) (hK0 : 0 < K) (hK24 : K ≤ 24) (hE : ∀ a, a < 6 → M.1 58 (7 * (K - 1) + a) = nI (px PP a)) (hu : u ≤ 6) (hU : M.1 58 (7 * (K - 1) + 6) = liarM u) : XC g l mX8_undo d [xr 49] M (XE (some (xi (nI (K - 1)))) (udM M K PP u)) := by
  have e0 : rbM M K PP 0 = xup M 49 17 (nI (K - 1)) := xm_ext (fun a b => by rw [rbM_at, xup_at, if_neg (by omega)]) (fun _ _ => rfl)
  show XW g l mX8_undo _ 0 [some (xr 49), none] [] M _
  refine xw_aload_n dX8_undo_0 rfl ?_
  refine xw_getV dX8_undo_1 fl_X8_181 rfl rfl (h3) ?_
  refine xw_if_neN (tgt := 10) dX8_undo_4 (by decide) (by omega) (fun c4 => ?_) (fun c4 => ?_)
  · refine xw_aload_n dX8_undo_10 rfl ?_
    refine xw_dup dX8_undo_11 rfl ?_
    refine xw_getV dX8_undo_12 fl_X8_181 rfl rfl (h3) ?_
    refine xw_iconst (v := 1) dX8_undo_15 (by decide) ?_
    refine xw_isubN (b := 1) dX8_undo_16 ?_ ?_
    · omega
    refine xw_putI dX8_undo_17 fp_X8_181 rfl rfl ?_
    refine xw_iconst (v := 0) dX8_undo_20 (by decide) ?_
    refine xw_istore_n dX8_undo_21 rfl rfl ?_
    rw [← e0]
    exact lp_X8_undo hK0 hK24 hE hu hU 6 0 rfl
  · exfalso; omega
/-- undo of the reference -/
theorem m_undo {D : FD} {A : FA} (hR : MRep M D A) (hW : WFA D A) (hK0 : 0 < A.2.2.1) : XC g l mX8_undo d [xr 49] M (fun r M' => r = some (xi (nI (A.2.2.1 - 1))) ∧ MRep M' D (stepUndo A) ∧ FrM M M') := by
  have hhs := hR.houses
  obtain ⟨hC, hX, hL, hS, hK, hH⟩ := hR
  have e0 := hH 0 hK0
  have w0 := hW.2.2.2 0 hK0
  rw [show A.2.2.1 - 1 - 0 = A.2.2.1 - 1 by omega] at e0
  refine (s_X8_undo (u := (A.2.2.2 0).2) hS hK0 hK e0.1 (by have := w0.2.2; omega) e0.2).mono (fun r M' hq => ?_)
  obtain ⟨rfl, rfl⟩ := hq
  have at' : ∀ a b, (udM M A.2.2.1 (A.2.2.2 0).1 (A.2.2.2 0).2).1 a b = if (A.2.2.2 0).2 ≠ 0 ∧ a = 54 ∧ b = 34 + ((A.2.2.2 0).2 - 1) then M.1 54 b - 1 else if a = 54 ∧ 10 ≤ b ∧ b < 16 then nI (px (A.2.2.2 0).1 (b - 10)) else if a = 49 ∧ b = 17 then nI (A.2.2.1 - 1) else M.1 a b := by
    intro a b
    unfold udM
    by_cases e : (A.2.2.2 0).2 = 0
    · rw [if_pos e, rbM_at]; simp [e]
    · rw [if_neg e, xup_at, rbM_at]
      by_cases q : a = 54 ∧ b = 34 + ((A.2.2.2 0).2 - 1)
      · rw [if_pos q, if_pos ⟨e, q.1, q.2⟩, q.2]
      · rw [if_neg q, if_neg (show ¬ ((A.2.2.2 0).2 ≠ 0 ∧ a = 54 ∧ b = 34 + ((A.2.2.2 0).2 - 1)) from fun z => q z.2)]
  refine ⟨rfl, ⟨hC.keep2 (fun b q1 q2 => ?_), fun k hk => ?_, fun k hk => ?_, ?_⟩, fun a b q1 q2 q3 => ?_, ?_, ?_⟩
  · have := w0.2.2
    rw [at', if_neg (by omega), if_neg (by omega), if_neg (by omega)]
  · rw [at', if_neg (by omega), if_pos (by omega), show 10 + k - 10 = k by omega]; rfl
  · rw [at']
    unfold stepUndo upL
    by_cases e : (A.2.2.2 0).2 = 0
    · simp only [e, if_true]
      rw [if_neg (by omega), if_neg (by omega), if_neg (by omega)]; exact hL k hk
    · simp only [e, if_false]
      by_cases q : k = (A.2.2.2 0).2 - 1
      · rw [if_pos ⟨e, trivial, by omega⟩, if_pos q, hL k hk, q]
      · rw [if_neg (by omega), if_neg (by omega), if_neg (by omega), if_neg q]; exact hL k hk
  · refine ⟨by rw [at', if_neg (by omega), if_neg (by omega), if_pos ⟨rfl, rfl⟩]; rfl, by show A.2.2.1 - 1 ≤ 24; omega, fun i hi => ?_⟩
    have hi : i < A.2.2.1 - 1 := hi
    have e2 := hH (i + 1) (by omega)
    rw [show A.2.2.1 - 1 - (i + 1) = A.2.2.1 - 1 - 1 - i by omega] at e2
    refine ⟨fun a ha => ?_, ?_⟩
    · show (udM M _ _ _).1 58 (7 * (A.2.2.1 - 1 - 1 - i) + a) = _
      rw [at', if_neg (by omega), if_neg (by omega), if_neg (by omega)]; exact e2.1 a ha
    · show (udM M _ _ _).1 58 (7 * (A.2.2.1 - 1 - 1 - i) + 6) = _
      rw [at', if_neg (by omega), if_neg (by omega), if_neg (by omega)]; exact e2.2
  · rw [at', if_neg (by omega), if_neg (by omega), if_neg q1]
  · rw [at', if_neg (by omega), if_neg (by omega), if_neg (by omega)]
  · unfold udM
    split <;> rfl
/-- sayings one after another: the state, and how many slid something -/
noncomputable def tkF (D : FD) (it : Nat → Nat) (A : FA) : Nat → FA × Nat
  | 0 => (A, 0)
  | q + 1 => if decP (drowned D (tkF D it A q).1.1 (it q / 16)) then tkF D it A q else (stepSay D (tkF D it A q).1 (it q / 16) (it q % 16), (tkF D it A q).2 + (if sayV D (tkF D it A q).1 (it q / 16) (it q % 16) = 0 then 0 else 1))
theorem tkF_WF {D : FD} {it : Nat → Nat} {A : FA} (hA : WFA D A) (hn : dn D ≤ 6) (hw : ∀ h, h < dn D → 1 ≤ dW D h) : ∀ q, (∀ j, j < q → it j < 16 * dn D) → WFA D (tkF D it A q).1 ∧ (tkF D it A q).2 ≤ q
  | 0, _ => ⟨hA, Nat.le_refl _⟩
  | q + 1, h => by
    obtain ⟨i1, i2⟩ := tkF_WF hA hn hw q (fun j hj => h j (by omega))
    have h1 := h q (by omega)
    unfold tkF
    split
    · exact ⟨i1, by omega⟩
    · exact ⟨stepSay_WF i1 hn (by omega) hw, by simp only; split <;> omega⟩
set_option maxRecDepth 20000 in
theorem lp_X7_sayAll {D : FD} {A : FA} {r i n : Nat} {it : Nat → Nat} (hA : WFA D A) (hr : r < 8) (hi : i + n ≤ 40) (hit : ∀ j, j < n → M.1 4 (r * 40 + (i + j)) = nI (it j)) (hit2 : ∀ j, j < n → it j < 16 * dn D) (hR0 : CRep M D A) : ∀ (p q : Nat) (M1 : XM) (v6 v7 : Option XV), q + p = n → CRep M1 D (tkF D it A q).1 → FrC M M1 → XW g l mX7_sayAll (d + 5) 6 [some (xr 0), some (xi (nI r)), some (xi (nI i)), some (xi (nI n)), some (xi (nI (tkF D it A q).2)), some (xi (nI (i + q))), v6, v7] [] M1 (fun r M' => r = some (xi (nI (tkF D it A n).2)) ∧ CRep M' D (tkF D it A n).1 ∧ FrC M M') := by
  have hhs := hR0.houses
  intro p
  induction p with
  | zero =>
    intro q M1 v6 v7 hq hR hF
    have hq : q = n := by omega
    subst hq
    have hw2 := (tkF_WF hA hhs.1 hhs.2 q hit2).2
    refine xw_iload dX7_sayAll_6 rfl ?_
    refine xw_iload_n dX7_sayAll_8 rfl ?_
    refine xw_iload_n dX7_sayAll_9 rfl ?_
    refine xw_iaddN dX7_sayAll_10 ?_
    refine xw_icmp_geN (tgt := 75) dX7_sayAll_11 (by decide) (by omega) (fun c11 => ?_) (fun c11 => ?_)
    · refine xw_iload dX7_sayAll_75 rfl ?_
      refine xw_ireti dX7_sayAll_77 rfl ?_
      exact ⟨rfl, hR, hF⟩
    · exfalso; omega
  | succ p ih =>
    intro q M1 v6 v7 hq hR hF
    obtain ⟨hw1, hw2⟩ := tkF_WF hA hhs.1 hhs.2 q (fun j hj => hit2 j (by omega))
    have hI : M1.1 4 (r * 40 + (i + q)) = nI (it q) := by rw [hF.1 4 _ (by omega) (by omega) (by omega) (by omega) (by omega)]; exact hit q (by omega)
    have hI2 := hit2 q (by omega)
    obtain ⟨hC, hX, hP, hL, hHC⟩ := id hR
    have hn6 := hC.1
    have ihs := fun M2 u6 u7 => ih (q + 1) M2 u6 u7 (by omega)
    have e9 : tkF D it A (q + 1) = if decP (drowned D (tkF D it A q).1.1 (it q / 16)) then tkF D it A q else (stepSay D (tkF D it A q).1 (it q / 16) (it q % 16), (tkF D it A q).2 + (if sayV D (tkF D it A q).1 (it q / 16) (it q % 16) = 0 then 0 else 1)) := rfl
    rw [e9] at ihs
    have hsv : sayV D (tkF D it A q).1 (it q / 16) (it q % 16) < 64 := by
      unfold sayV
      split
      · exact slV_lt _ _ _ hn6
      · decide
    refine xw_iload dX7_sayAll_6 rfl ?_
    refine xw_iload_n dX7_sayAll_8 rfl ?_
    refine xw_iload_n dX7_sayAll_9 rfl ?_
    refine xw_iaddN dX7_sayAll_10 ?_
    refine xw_icmp_geN (tgt := 75) dX7_sayAll_11 (by decide) (by omega) (fun c11 => ?_) (fun c11 => ?_)
    · exfalso; omega
    · refine xw_aload_n dX7_sayAll_14 rfl ?_
      refine xw_getR dX7_sayAll_15 fl_X7_10 rfl rfl ?_
      refine xw_iload_n dX7_sayAll_18 rfl ?_
      refine xw_iload dX7_sayAll_19 rfl ?_
      refine xw_cV2E dX7_sayAll_21 okX6_item ml_X7_265 rfl rfl rfl rfl ((s_X6_item (by omega)).eqv (by rw [hI]) rfl) ?_
      refine xw_istore dX7_sayAll_24 rfl rfl ?_
      refine xw_iload dX7_sayAll_26 rfl ?_
      refine xw_bipush (v := 16) dX7_sayAll_28 (by decide) ?_
      refine xw_idivN (b := 16) dX7_sayAll_30 (by omega) ?_
      refine xw_istore dX7_sayAll_31 rfl rfl ?_
      refine xw_aload_n dX7_sayAll_33 rfl ?_
      refine xw_getR dX7_sayAll_34 fl_X7_26 rfl rfl ?_
      refine xw_aload_n dX7_sayAll_37 rfl ?_
      refine xw_getR dX7_sayAll_38 fl_X7_26 rfl rfl ?_
      refine xw_getV dX7_sayAll_41 fl_X7_136 rfl rfl (hX) ?_
      refine xw_iload dX7_sayAll_44 rfl ?_
      refine xw_cV2B dX7_sayAll_46 okX1_isDrowned ml_X7_139 rfl rfl rfl rfl (s_X1_isDrowned xf_8 hC hP (by omega)) (fun p46 => ?_) (fun p46 => ?_)
      · rw [decP_t p46, if_pos rfl] at ihs
        refine xw_if_ne (tgt := 69) dX7_sayAll_49 (by decide) (fun _ => ?_) (fun q9 => absurd q9 (by decide))
        refine xw_iincN (v := 1) dX7_sayAll_69 (by decide) rfl rfl rfl ?_
        refine xw_goto (tgt := 6) dX7_sayAll_72 (by decide) ?_
        first | exact ihs _ _ _ hR hF | exact ihs _ _ _ hR2 (hF.tr hF2)
      · rw [decP_f p46, if_neg (by decide)] at ihs
        refine xw_if_ne (tgt := 69) dX7_sayAll_49 (by decide) (fun q9 => absurd q9 (by decide)) (fun _ => ?_)
        refine xw_aload_n dX7_sayAll_52 rfl ?_
        refine xw_iload dX7_sayAll_53 rfl ?_
        refine xw_iload dX7_sayAll_55 rfl ?_
        refine xw_bipush (v := 16) dX7_sayAll_57 (by decide) ?_
        refine xw_iremN (b := 16) dX7_sayAll_59 (by omega) ?_
        refine xw_cV2Q dX7_sayAll_60 okX7_sayIn ml_X7_144 rfl rfl rfl rfl (c_sayIn hR hw1.1 (by omega) (by omega)) ?_
        rintro _ M' ⟨rfl, hR2, hF2⟩
        refine xw_if_eqN (tgt := 69) dX7_sayAll_63 (by decide) (by omega) (fun c63 => ?_) (fun c63 => ?_)
        · rw [if_pos (by assumption)] at ihs
          refine xw_iincN (v := 1) dX7_sayAll_69 (by decide) rfl rfl rfl ?_
          refine xw_goto (tgt := 6) dX7_sayAll_72 (by decide) ?_
          first | exact ihs _ _ _ hR hF | exact ihs _ _ _ hR2 (hF.tr hF2)
        · rw [if_neg (by assumption)] at ihs
          refine xw_iincN (v := 1) dX7_sayAll_66 (by decide) rfl rfl rfl ?_
          refine xw_iincN (v := 1) dX7_sayAll_69 (by decide) rfl rfl rfl ?_
          refine xw_goto (tgt := 6) dX7_sayAll_72 (by decide) ?_
          first | exact ihs _ _ _ hR hF | exact ihs _ _ _ hR2 (hF.tr hF2)
set_option maxRecDepth 20000 in
theorem c_sayAll {D : FD} {A : FA} {r i n : Nat} {it : Nat → Nat} (hA : WFA D A) (hr : r < 8) (hi : i + n ≤ 40) (hit : ∀ j, j < n → M.1 4 (r * 40 + (i + j)) = nI (it j)) (hit2 : ∀ j, j < n → it j < 16 * dn D) (hR0 : CRep M D A) : XC g l mX7_sayAll (d + 5) [xr 0, xi (nI r), xi (nI i), xi (nI n)] M (fun r M' => r = some (xi (nI (tkF D it A n).2)) ∧ CRep M' D (tkF D it A n).1 ∧ FrC M M') := by
  show XW g l mX7_sayAll _ 0 [some (xr 0), some (xi (nI r)), some (xi (nI i)), some (xi (nI n)), none, none, none, none] [] M _
  refine xw_iconst (v := 0) dX7_sayAll_0 (by decide) ?_
  refine xw_istore dX7_sayAll_1 rfl rfl ?_
  refine xw_iload_n dX7_sayAll_3 rfl ?_
  refine xw_istore dX7_sayAll_4 rfl rfl ?_
  exact lp_X7_sayAll hA hr hi hit hit2 hR0 n 0 M none none (by omega) hR0 (FrC.rf M)
/-- an item that is a saying -/
def okIt (D : FD) (v : Int32) : Prop := 0 ≤ v ∧ v < nI (16 * dn D)
theorem okIt_nat {D : FD} {v : Int32} (hn : dn D ≤ 6) (h : okIt D v) : ∃ w, w < 16 * dn D ∧ v = nI w := nv_lit (by omega) h.1 h.2
theorem okIt_of {D : FD} {w : Nat} (hn : dn D ≤ 6) (h : w < 16 * dn D) : okIt D (nI w) := ⟨nI_pos' (by omega), nI_lt h (by omega)⟩
set_option maxRecDepth 20000 in
theorem lp_X7_areSayings {D : FD} {r i n : Nat} (hC : FCS M 8 D) (hr : r < 8) (hi : i + n ≤ 40)  : ∀ (p q : Nat) (v5 : Option XV), q + p = n → (∀ j, j < q → okIt D (M.1 4 (r * 40 + (i + j)))) → XW g l mX7_areSayings (d + 1) 3 [some (xr 0), some (xi (nI r)), some (xi (nI i)), some (xi (nI n)), some (xi (nI (i + q))), v5] [] M (XB (∀ j, j < n → okIt D (M.1 4 (r * 40 + (i + j)))) M M) := by
  have hn6 := hC.1
  have hN := hC.2.2.2.1
  intro p
  induction p with
  | zero =>
    intro q v5 hq h0
    have hq : q = n := by omega
    subst hq
    refine xw_iload dX7_areSayings_3 rfl ?_
    refine xw_iload_n dX7_areSayings_5 rfl ?_
    refine xw_iload_n dX7_areSayings_6 rfl ?_
    refine xw_iaddN dX7_areSayings_7 ?_
    refine xw_icmp_geN (tgt := 51) dX7_areSayings_8 (by decide) (by omega) (fun c8 => ?_) (fun c8 => ?_)
    · refine xw_iconst (v := 1) dX7_areSayings_51 (by decide) ?_
      refine xw_iretz dX7_areSayings_52 rfl (Or.inr rfl) (Or.inl ⟨?_, rfl, rfl⟩)
      exact h0
    · exfalso; omega
  | succ p ih =>
    intro q v5 hq h0
    have hnx : okIt D (M.1 4 (r * 40 + (i + q))) → ∀ j, j < q + 1 → okIt D (M.1 4 (r * 40 + (i + j))) := fun z j hj => by
      rcases Nat.lt_or_ge j q with y | y
      · exact h0 j y
      · rw [show j = q by omega]; exact z
    refine xw_iload dX7_areSayings_3 rfl ?_
    refine xw_iload_n dX7_areSayings_5 rfl ?_
    refine xw_iload_n dX7_areSayings_6 rfl ?_
    refine xw_iaddN dX7_areSayings_7 ?_
    refine xw_icmp_geN (tgt := 51) dX7_areSayings_8 (by decide) (by omega) (fun c8 => ?_) (fun c8 => ?_)
    · exfalso; omega
    · refine xw_aload_n dX7_areSayings_11 rfl ?_
      refine xw_getR dX7_areSayings_12 fl_X7_10 rfl rfl ?_
      refine xw_iload_n dX7_areSayings_15 rfl ?_
      refine xw_iload dX7_areSayings_16 rfl ?_
      refine xw_cV2E dX7_areSayings_18 okX6_item ml_X7_265 rfl rfl rfl rfl (s_X6_item (by omega)) ?_
      refine xw_istore dX7_areSayings_21 rfl rfl ?_
      refine xw_iload dX7_areSayings_23 rfl ?_
      refine xw_if_lt (tgt := 43) dX7_areSayings_25 (by decide) (fun c25 => ?_) (fun c25 => ?_)
      · have e9 : ¬ okIt D (M.1 4 (r * 40 + (i + q))) := fun z => absurd z.1 (by rw [Int32.not_le]; exact c25)
        refine xw_iconst (v := 0) dX7_areSayings_43 (by decide) ?_
        refine xw_iretz dX7_areSayings_44 rfl (Or.inl rfl) (Or.inr ⟨?_, rfl, rfl⟩)
        exact fun z => e9 (z q (by omega))
      · obtain ⟨w, hw, hwe⟩ := nI_of c25
        rw [hwe] at hnx ⊢
        refine xw_aload_n dX7_areSayings_28 rfl ?_
        refine xw_getR dX7_areSayings_29 fl_X7_26 rfl rfl ?_
        refine xw_iload dX7_areSayings_32 rfl ?_
        refine xw_bipush (v := 16) dX7_areSayings_34 (by decide) ?_
        refine xw_idivN (b := 16) dX7_areSayings_36 (by omega) ?_
        refine xw_cV1B dX7_areSayings_37 okX1_isHouse ml_X7_133 rfl rfl rfl rfl (s_X1_isHouse xf_8 _) (fun p37 => ?_) (fun p37 => ?_)
        · have e8 : okIt D (nI w) := by
            rw [hN] at p37
            have := (nI_ltI (by omega) (by omega)).mp p37.2
            exact okIt_of hn6 (by omega)
          refine xw_if_ne (tgt := 45) dX7_areSayings_40 (by decide) (fun _ => ?_) (fun q9 => absurd q9 (by decide))
          refine xw_iincN (v := 1) dX7_areSayings_45 (by decide) rfl rfl rfl ?_
          refine xw_goto (tgt := 3) dX7_areSayings_48 (by decide) ?_
          exact ih (q + 1) _ (by omega) (hnx e8)
        · have e9 : ¬ okIt D (M.1 4 (r * 40 + (i + q))) := fun z => p37 (by
            rw [hwe] at z
            have := (nI_ltI hw (by omega)).mp z.2
            rw [hN]
            exact nI_in0 (by omega) (by omega))
          refine xw_if_ne (tgt := 45) dX7_areSayings_40 (by decide) (fun q9 => absurd q9 (by decide)) (fun _ => ?_)
          refine xw_iconst (v := 0) dX7_areSayings_43 (by decide) ?_
          refine xw_iretz dX7_areSayings_44 rfl (Or.inl rfl) (Or.inr ⟨?_, rfl, rfl⟩)
          exact fun z => e9 (z q (by omega))
set_option maxRecDepth 20000 in
theorem s_X7_areSayings {D : FD} {r i n : Nat} (hC : FCS M 8 D) (hr : r < 8) (hi : i + n ≤ 40)  : XC g l mX7_areSayings (d + 1) [xr 0, xi (nI r), xi (nI i), xi (nI n)] M (XB (∀ j, j < n → okIt D (M.1 4 (r * 40 + (i + j)))) M M) := by
  show XW g l mX7_areSayings _ 0 [some (xr 0), some (xi (nI r)), some (xi (nI i)), some (xi (nI n)), none, none] [] M _
  refine xw_iload_n dX7_areSayings_0 rfl ?_
  refine xw_istore dX7_areSayings_1 rfl rfl ?_
  exact lp_X7_areSayings hC hr hi n 0 none (by omega) (fun _ z => absurd z (by omega))
set_option maxRecDepth 20000 in
theorem k_X7_talk_state {a i n : Int32} (h : ¬ 0 < M.1 8 2) : XC g l mX7_talk (d + 6) [xr 0, xi a, xi i, xi n] M (XE (some (xi (-1000002))) (M)) := by
  show XW g l mX7_talk _ 0 [some (xr 0), some (xi a), some (xi i), some (xi n)] [] M _
  refine xw_aload_n dX7_talk_0 rfl ?_
  refine xw_getR dX7_talk_1 fl_X7_26 rfl rfl ?_
  refine xw_cV0B dX7_talk_4 okX1_isThere ml_X7_148 rfl rfl rfl rfl (s_X1_isThere xf_8) (fun p4 => ?_) (fun p4 => ?_)
  · exfalso; first | contradiction | omega | grind | simp_all
  · refine xw_if_ne (tgt := 13) dX7_talk_7 (by decide) (fun q9 => absurd q9 (by decide)) (fun _ => ?_)
    refine xw_ldc dX7_talk_10 kc_X7_143 ?_
    refine xw_ireti dX7_talk_12 rfl ?_
    first | exact ⟨rfl, rfl⟩ | exact ⟨by simp_all, rfl⟩ | grind [XE]
set_option maxRecDepth 20000 in
theorem k_X7_talk_bad {a i n : Int32} (h : 0 < M.1 8 2) (h2 : ¬ ((0 ≤ a ∧ a < 8) ∧ 1 ≤ n ∧ n ≤ 20)) : XC g l mX7_talk (d + 6) [xr 0, xi a, xi i, xi n] M (XE (some (xi (-1000001))) (M)) := by
  show XW g l mX7_talk _ 0 [some (xr 0), some (xi a), some (xi i), some (xi n)] [] M _
  refine xw_aload_n dX7_talk_0 rfl ?_
  refine xw_getR dX7_talk_1 fl_X7_26 rfl rfl ?_
  refine xw_cV0B dX7_talk_4 okX1_isThere ml_X7_148 rfl rfl rfl rfl (s_X1_isThere xf_8) (fun p4 => ?_) (fun p4 => ?_)
  · refine xw_if_ne (tgt := 13) dX7_talk_7 (by decide) (fun _ => ?_) (fun q9 => absurd q9 (by decide))
    refine xw_aload_n dX7_talk_13 rfl ?_
    refine xw_getR dX7_talk_14 fl_X7_10 rfl rfl ?_
    refine xw_iload_n dX7_talk_17 rfl ?_
    refine xw_cV1B dX7_talk_18 okX6_isNumber ml_X7_59 rfl rfl rfl rfl (s_X6_isNumber _) (fun p18 => ?_) (fun p18 => ?_)
    · refine xw_if_eq (tgt := 35) dX7_talk_21 (by decide) (fun q9 => absurd q9 (by decide)) (fun _ => ?_)
      refine xw_iload_n dX7_talk_24 rfl ?_
      refine xw_iconst (v := 1) dX7_talk_25 (by decide) ?_
      refine xw_icmp_lt (tgt := 35) dX7_talk_26 (by decide) (fun c26 => ?_) (fun c26 => ?_)
      · refine xw_ldc dX7_talk_35 kc_X7_66 ?_
        refine xw_ireti dX7_talk_37 rfl ?_
        first | exact ⟨rfl, rfl⟩ | exact ⟨by simp_all, rfl⟩ | grind [XE]
      · refine xw_iload_n dX7_talk_29 rfl ?_
        refine xw_bipush (v := 20) dX7_talk_30 (by decide) ?_
        refine xw_icmp_le (tgt := 38) dX7_talk_32 (by decide) (fun c32 => ?_) (fun c32 => ?_)
        · exfalso; first | contradiction | omega | grind | simp_all
        · refine xw_ldc dX7_talk_35 kc_X7_66 ?_
          refine xw_ireti dX7_talk_37 rfl ?_
          first | exact ⟨rfl, rfl⟩ | exact ⟨by simp_all, rfl⟩ | grind [XE]
    · refine xw_if_eq (tgt := 35) dX7_talk_21 (by decide) (fun _ => ?_) (fun q9 => absurd q9 (by decide))
      refine xw_ldc dX7_talk_35 kc_X7_66 ?_
      refine xw_ireti dX7_talk_37 rfl ?_
      first | exact ⟨rfl, rfl⟩ | exact ⟨by simp_all, rfl⟩ | grind [XE]
  · exfalso; first | contradiction | omega | grind | simp_all
set_option maxRecDepth 20000 in
theorem k_X7_talk_null {r : Nat} {i n : Int32} (h : 0 < M.1 8 2) (hr : r < 8) (hn : 1 ≤ n ∧ n ≤ 20) (h2 : M.1 2 r = -1) : XC g l mX7_talk (d + 6) [xr 0, xi (nI r), xi i, xi n] M (XE (some (xi (-1000011))) (xup M 0 7 1)) := by
  show XW g l mX7_talk _ 0 [some (xr 0), some (xi (nI r)), some (xi i), some (xi n)] [] M _
  refine xw_aload_n dX7_talk_0 rfl ?_
  refine xw_getR dX7_talk_1 fl_X7_26 rfl rfl ?_
  refine xw_cV0B dX7_talk_4 okX1_isThere ml_X7_148 rfl rfl rfl rfl (s_X1_isThere xf_8) (fun p4 => ?_) (fun p4 => ?_)
  · refine xw_if_ne (tgt := 13) dX7_talk_7 (by decide) (fun _ => ?_) (fun q9 => absurd q9 (by decide))
    refine xw_aload_n dX7_talk_13 rfl ?_
    refine xw_getR dX7_talk_14 fl_X7_10 rfl rfl ?_
    refine xw_iload_n dX7_talk_17 rfl ?_
    refine xw_cV1B dX7_talk_18 okX6_isNumber ml_X7_59 rfl rfl rfl rfl (s_X6_isNumber _) (fun p18 => ?_) (fun p18 => ?_)
    · refine xw_if_eq (tgt := 35) dX7_talk_21 (by decide) (fun q9 => absurd q9 (by decide)) (fun _ => ?_)
      refine xw_iload_n dX7_talk_24 rfl ?_
      refine xw_iconst (v := 1) dX7_talk_25 (by decide) ?_
      refine xw_icmp_lt (tgt := 35) dX7_talk_26 (by decide) (fun c26 => ?_) (fun c26 => ?_)
      · exfalso; first | contradiction | (have e0 := nI_lt8 hr; grind)
      · refine xw_iload_n dX7_talk_29 rfl ?_
        refine xw_bipush (v := 20) dX7_talk_30 (by decide) ?_
        refine xw_icmp_le (tgt := 38) dX7_talk_32 (by decide) (fun c32 => ?_) (fun c32 => ?_)
        · refine xw_aload_n dX7_talk_38 rfl ?_
          refine xw_getR dX7_talk_39 fl_X7_10 rfl rfl ?_
          refine xw_iload_n dX7_talk_42 rfl ?_
          refine xw_cV1B dX7_talk_43 okX6_isMissing ml_X7_78 rfl rfl rfl rfl (s_X6_isMissing hr) (fun p43 => ?_) (fun p43 => ?_)
          · refine xw_if_eq (tgt := 55) dX7_talk_46 (by decide) (fun q9 => absurd q9 (by decide)) (fun _ => ?_)
            refine xw_aload_n dX7_talk_49 rfl ?_
            refine xw_iconst (v := 1) dX7_talk_50 (by decide) ?_
            refine xw_cV1E dX7_talk_51 okX7_found ml_X7_67 rfl rfl rfl rfl (s_X7_found _) ?_
            refine xw_ireti dX7_talk_54 rfl ?_
            first | exact ⟨rfl, rfl⟩ | exact ⟨by simp_all, rfl⟩ | grind [XE]
          · exfalso; first | contradiction | (have e0 := nI_lt8 hr; grind)
        · exfalso; first | contradiction | (have e0 := nI_lt8 hr; grind)
    · exfalso; first | contradiction | (have e0 := nI_lt8 hr; grind)
  · exfalso; first | contradiction | (have e0 := nI_lt8 hr; grind)
set_option maxRecDepth 20000 in
theorem k_X7_talk_place {r : Nat} {i n : Int32} (h : 0 < M.1 8 2) (hr : r < 8) (hn : 1 ≤ n ∧ n ≤ 20) {s : Nat} (h2 : ¬ M.1 2 r = -1) (hs : M.1 3 r = nI s) (hs2 : s ≤ 40) (hp : ¬ (0 ≤ i ∧ 0 ≤ n ∧ i.toInt + n.toInt ≤ (s : Int))) : XC g l mX7_talk (d + 6) [xr 0, xi (nI r), xi i, xi n] M (XE (some (xi (-1000012))) (xup M 0 7 2)) := by
  show XW g l mX7_talk _ 0 [some (xr 0), some (xi (nI r)), some (xi i), some (xi n)] [] M _
  refine xw_aload_n dX7_talk_0 rfl ?_
  refine xw_getR dX7_talk_1 fl_X7_26 rfl rfl ?_
  refine xw_cV0B dX7_talk_4 okX1_isThere ml_X7_148 rfl rfl rfl rfl (s_X1_isThere xf_8) (fun p4 => ?_) (fun p4 => ?_)
  · refine xw_if_ne (tgt := 13) dX7_talk_7 (by decide) (fun _ => ?_) (fun q9 => absurd q9 (by decide))
    refine xw_aload_n dX7_talk_13 rfl ?_
    refine xw_getR dX7_talk_14 fl_X7_10 rfl rfl ?_
    refine xw_iload_n dX7_talk_17 rfl ?_
    refine xw_cV1B dX7_talk_18 okX6_isNumber ml_X7_59 rfl rfl rfl rfl (s_X6_isNumber _) (fun p18 => ?_) (fun p18 => ?_)
    · refine xw_if_eq (tgt := 35) dX7_talk_21 (by decide) (fun q9 => absurd q9 (by decide)) (fun _ => ?_)
      refine xw_iload_n dX7_talk_24 rfl ?_
      refine xw_iconst (v := 1) dX7_talk_25 (by decide) ?_
      refine xw_icmp_lt (tgt := 35) dX7_talk_26 (by decide) (fun c26 => ?_) (fun c26 => ?_)
      · exfalso; first | contradiction | (have e0 := nI_lt8 hr; grind)
      · refine xw_iload_n dX7_talk_29 rfl ?_
        refine xw_bipush (v := 20) dX7_talk_30 (by decide) ?_
        refine xw_icmp_le (tgt := 38) dX7_talk_32 (by decide) (fun c32 => ?_) (fun c32 => ?_)
        · refine xw_aload_n dX7_talk_38 rfl ?_
          refine xw_getR dX7_talk_39 fl_X7_10 rfl rfl ?_
          refine xw_iload_n dX7_talk_42 rfl ?_
          refine xw_cV1B dX7_talk_43 okX6_isMissing ml_X7_78 rfl rfl rfl rfl (s_X6_isMissing hr) (fun p43 => ?_) (fun p43 => ?_)
          · exfalso; first | contradiction | (have e0 := nI_lt8 hr; grind)
          · refine xw_if_eq (tgt := 55) dX7_talk_46 (by decide) (fun _ => ?_) (fun q9 => absurd q9 (by decide))
            refine xw_aload_n dX7_talk_55 rfl ?_
            refine xw_getR dX7_talk_56 fl_X7_10 rfl rfl ?_
            refine xw_iload_n dX7_talk_59 rfl ?_
            refine xw_iload_n dX7_talk_60 rfl ?_
            refine xw_iload_n dX7_talk_61 rfl ?_
            refine xw_cV3B dX7_talk_62 okX6_hasPlaces ml_X7_81 rfl rfl rfl rfl (s_X6_hasPlaces _ _ hr hs hs2) (fun p62 => ?_) (fun p62 => ?_)
            · exfalso; first | contradiction | (have e0 := nI_lt8 hr; grind)
            · refine xw_if_ne (tgt := 74) dX7_talk_65 (by decide) (fun q9 => absurd q9 (by decide)) (fun _ => ?_)
              refine xw_aload_n dX7_talk_68 rfl ?_
              refine xw_iconst (v := 2) dX7_talk_69 (by decide) ?_
              refine xw_cV1E dX7_talk_70 okX7_found ml_X7_67 rfl rfl rfl rfl (s_X7_found _) ?_
              refine xw_ireti dX7_talk_73 rfl ?_
              first | exact ⟨rfl, rfl⟩ | exact ⟨by simp_all, rfl⟩ | grind [XE]
        · exfalso; first | contradiction | (have e0 := nI_lt8 hr; grind)
    · exfalso; first | contradiction | (have e0 := nI_lt8 hr; grind)
  · exfalso; first | contradiction | (have e0 := nI_lt8 hr; grind)
set_option maxRecDepth 20000 in
theorem k_X7_talk_item {D : FD} {r i n s : Nat} (h : 0 < M.1 8 2) (hr : r < 8) (hn : 1 ≤ n ∧ n ≤ 20) (h2 : ¬ M.1 2 r = -1) (hs : M.1 3 r = nI s) (hs2 : s ≤ 40) (hp : i + n ≤ s) (hC : FCS M 8 D) (hb : ¬ ∀ j, j < n → okIt D (M.1 4 (r * 40 + (i + j)))) : XC g l mX7_talk (d + 6) [xr 0, xi (nI r), xi (nI i), xi (nI n)] M (XE (some (xi (-1000001))) (M)) := by
  show XW g l mX7_talk _ 0 [some (xr 0), some (xi (nI r)), some (xi (nI i)), some (xi (nI n))] [] M _
  have hp2 := pl_nat (i := i) (n := n) (s := s) (by omega) (by omega) hp
  have e3 : (1 : Int32) ≤ nI n ∧ nI n ≤ 20 := ⟨nI_le (a := 1) (by omega) (by omega), nI_le (b := 20) (by omega) (by decide)⟩
  refine xw_aload_n dX7_talk_0 rfl ?_
  refine xw_getR dX7_talk_1 fl_X7_26 rfl rfl ?_
  refine xw_cV0B dX7_talk_4 okX1_isThere ml_X7_148 rfl rfl rfl rfl (s_X1_isThere xf_8) (fun p4 => ?_) (fun p4 => ?_)
  · refine xw_if_ne (tgt := 13) dX7_talk_7 (by decide) (fun _ => ?_) (fun q9 => absurd q9 (by decide))
    refine xw_aload_n dX7_talk_13 rfl ?_
    refine xw_getR dX7_talk_14 fl_X7_10 rfl rfl ?_
    refine xw_iload_n dX7_talk_17 rfl ?_
    refine xw_cV1B dX7_talk_18 okX6_isNumber ml_X7_59 rfl rfl rfl rfl (s_X6_isNumber _) (fun p18 => ?_) (fun p18 => ?_)
    · refine xw_if_eq (tgt := 35) dX7_talk_21 (by decide) (fun q9 => absurd q9 (by decide)) (fun _ => ?_)
      refine xw_iload_n dX7_talk_24 rfl ?_
      refine xw_iconst (v := 1) dX7_talk_25 (by decide) ?_
      refine xw_icmp_ltN (b := 1) (tgt := 35) dX7_talk_26 (by decide) (by omega) (fun c26 => ?_) (fun c26 => ?_)
      · exfalso; first | contradiction | omega | (have e0 := nI_lt8 hr; grind)
      · refine xw_iload_n dX7_talk_29 rfl ?_
        refine xw_bipush (v := 20) dX7_talk_30 (by decide) ?_
        refine xw_icmp_leN (b := 20) (tgt := 38) dX7_talk_32 (by decide) (by omega) (fun c32 => ?_) (fun c32 => ?_)
        · refine xw_aload_n dX7_talk_38 rfl ?_
          refine xw_getR dX7_talk_39 fl_X7_10 rfl rfl ?_
          refine xw_iload_n dX7_talk_42 rfl ?_
          refine xw_cV1B dX7_talk_43 okX6_isMissing ml_X7_78 rfl rfl rfl rfl (s_X6_isMissing hr) (fun p43 => ?_) (fun p43 => ?_)
          · exfalso; first | contradiction | omega | (have e0 := nI_lt8 hr; grind)
          · refine xw_if_eq (tgt := 55) dX7_talk_46 (by decide) (fun _ => ?_) (fun q9 => absurd q9 (by decide))
            refine xw_aload_n dX7_talk_55 rfl ?_
            refine xw_getR dX7_talk_56 fl_X7_10 rfl rfl ?_
            refine xw_iload_n dX7_talk_59 rfl ?_
            refine xw_iload_n dX7_talk_60 rfl ?_
            refine xw_iload_n dX7_talk_61 rfl ?_
            refine xw_cV3B dX7_talk_62 okX6_hasPlaces ml_X7_81 rfl rfl rfl rfl (s_X6_hasPlaces _ _ hr hs hs2) (fun p62 => ?_) (fun p62 => ?_)
            · refine xw_if_ne (tgt := 74) dX7_talk_65 (by decide) (fun _ => ?_) (fun q9 => absurd q9 (by decide))
              refine xw_aload_n dX7_talk_74 rfl ?_
              refine xw_iload_n dX7_talk_75 rfl ?_
              refine xw_iload_n dX7_talk_76 rfl ?_
              refine xw_iload_n dX7_talk_77 rfl ?_
              refine xw_cV3B dX7_talk_78 okX7_areSayings ml_X7_151 rfl rfl rfl rfl (s_X7_areSayings hC hr (by omega)) (fun p78 => ?_) (fun p78 => ?_)
              · exfalso; first | contradiction | omega | (have e0 := nI_lt8 hr; grind)
              · refine xw_if_eq (tgt := 98) dX7_talk_81 (by decide) (fun _ => ?_) (fun q9 => absurd q9 (by decide))
                refine xw_ldc dX7_talk_98 kc_X7_66 ?_
                refine xw_ireti dX7_talk_100 rfl ?_
                first | exact ⟨rfl, rfl⟩ | exact ⟨by simp_all, rfl⟩ | grind [XE]
            · exfalso; first | contradiction | omega | (have e0 := nI_lt8 hr; grind)
        · exfalso; first | contradiction | omega | (have e0 := nI_lt8 hr; grind)
    · exfalso; first | contradiction | omega | (have e0 := nI_lt8 hr; grind)
  · exfalso; first | contradiction | omega | (have e0 := nI_lt8 hr; grind)
set_option maxRecDepth 20000 in
theorem c_talk {A : FA} {it : Nat → Nat} {D : FD} {r i n s : Nat} (h : 0 < M.1 8 2) (hr : r < 8) (hn : 1 ≤ n ∧ n ≤ 20) (h2 : ¬ M.1 2 r = -1) (hs : M.1 3 r = nI s) (hs2 : s ≤ 40) (hp : i + n ≤ s) (hC : FCS M 8 D) (hR : CRep M D A) (hA : WFA D A) (hit : ∀ j, j < n → M.1 4 (r * 40 + (i + j)) = nI (it j)) (hit2 : ∀ j, j < n → it j < 16 * dn D) : XC g l mX7_talk (d + 6) [xr 0, xi (nI r), xi (nI i), xi (nI n)] M (fun r M' => r = some (xi (nI (tkF D it A n).2)) ∧ ∃ M1, CRep M1 D (tkF D it A n).1 ∧ FrC M M1 ∧ M' = xup M1 0 7 0) := by
  have hb : ∀ j, j < n → okIt D (M.1 4 (r * 40 + (i + j))) := fun j hj => by rw [hit j hj]; exact okIt_of hC.1 (hit2 j hj)
  show XW g l mX7_talk _ 0 [some (xr 0), some (xi (nI r)), some (xi (nI i)), some (xi (nI n))] [] M _
  have hp2 := pl_nat (i := i) (n := n) (s := s) (by omega) (by omega) hp
  have e3 : (1 : Int32) ≤ nI n ∧ nI n ≤ 20 := ⟨nI_le (a := 1) (by omega) (by omega), nI_le (b := 20) (by omega) (by decide)⟩
  refine xw_aload_n dX7_talk_0 rfl ?_
  refine xw_getR dX7_talk_1 fl_X7_26 rfl rfl ?_
  refine xw_cV0B dX7_talk_4 okX1_isThere ml_X7_148 rfl rfl rfl rfl (s_X1_isThere xf_8) (fun p4 => ?_) (fun p4 => ?_)
  · refine xw_if_ne (tgt := 13) dX7_talk_7 (by decide) (fun _ => ?_) (fun q9 => absurd q9 (by decide))
    refine xw_aload_n dX7_talk_13 rfl ?_
    refine xw_getR dX7_talk_14 fl_X7_10 rfl rfl ?_
    refine xw_iload_n dX7_talk_17 rfl ?_
    refine xw_cV1B dX7_talk_18 okX6_isNumber ml_X7_59 rfl rfl rfl rfl (s_X6_isNumber _) (fun p18 => ?_) (fun p18 => ?_)
    · refine xw_if_eq (tgt := 35) dX7_talk_21 (by decide) (fun q9 => absurd q9 (by decide)) (fun _ => ?_)
      refine xw_iload_n dX7_talk_24 rfl ?_
      refine xw_iconst (v := 1) dX7_talk_25 (by decide) ?_
      refine xw_icmp_ltN (b := 1) (tgt := 35) dX7_talk_26 (by decide) (by omega) (fun c26 => ?_) (fun c26 => ?_)
      · exfalso; first | contradiction | omega | (have e0 := nI_lt8 hr; grind)
      · refine xw_iload_n dX7_talk_29 rfl ?_
        refine xw_bipush (v := 20) dX7_talk_30 (by decide) ?_
        refine xw_icmp_leN (b := 20) (tgt := 38) dX7_talk_32 (by decide) (by omega) (fun c32 => ?_) (fun c32 => ?_)
        · refine xw_aload_n dX7_talk_38 rfl ?_
          refine xw_getR dX7_talk_39 fl_X7_10 rfl rfl ?_
          refine xw_iload_n dX7_talk_42 rfl ?_
          refine xw_cV1B dX7_talk_43 okX6_isMissing ml_X7_78 rfl rfl rfl rfl (s_X6_isMissing hr) (fun p43 => ?_) (fun p43 => ?_)
          · exfalso; first | contradiction | omega | (have e0 := nI_lt8 hr; grind)
          · refine xw_if_eq (tgt := 55) dX7_talk_46 (by decide) (fun _ => ?_) (fun q9 => absurd q9 (by decide))
            refine xw_aload_n dX7_talk_55 rfl ?_
            refine xw_getR dX7_talk_56 fl_X7_10 rfl rfl ?_
            refine xw_iload_n dX7_talk_59 rfl ?_
            refine xw_iload_n dX7_talk_60 rfl ?_
            refine xw_iload_n dX7_talk_61 rfl ?_
            refine xw_cV3B dX7_talk_62 okX6_hasPlaces ml_X7_81 rfl rfl rfl rfl (s_X6_hasPlaces _ _ hr hs hs2) (fun p62 => ?_) (fun p62 => ?_)
            · refine xw_if_ne (tgt := 74) dX7_talk_65 (by decide) (fun _ => ?_) (fun q9 => absurd q9 (by decide))
              refine xw_aload_n dX7_talk_74 rfl ?_
              refine xw_iload_n dX7_talk_75 rfl ?_
              refine xw_iload_n dX7_talk_76 rfl ?_
              refine xw_iload_n dX7_talk_77 rfl ?_
              refine xw_cV3B dX7_talk_78 okX7_areSayings ml_X7_151 rfl rfl rfl rfl (s_X7_areSayings hC hr (by omega)) (fun p78 => ?_) (fun p78 => ?_)
              · refine xw_if_eq (tgt := 98) dX7_talk_81 (by decide) (fun q9 => absurd q9 (by decide)) (fun _ => ?_)
                refine xw_aload_n dX7_talk_84 rfl ?_
                refine xw_aload_n dX7_talk_85 rfl ?_
                refine xw_iload_n dX7_talk_86 rfl ?_
                refine xw_iload_n dX7_talk_87 rfl ?_
                refine xw_iload_n dX7_talk_88 rfl ?_
                refine xw_cV3Q dX7_talk_89 okX7_sayAll ml_X7_154 rfl rfl rfl rfl (c_sayAll hA hr (by omega) hit hit2 hR) ?_
                rintro _ M' ⟨rfl, hR2, hF2⟩
                refine xw_cV1E dX7_talk_92 okX7_answered ml_X7_75 rfl rfl rfl rfl (s_X7_answered _) ?_
                refine xw_goto (tgt := 100) dX7_talk_95 (by decide) ?_
                refine xw_ireti dX7_talk_100 rfl ?_
                exact ⟨rfl, _, hR2, hF2, rfl⟩
              · exfalso; first | contradiction | omega | (have e0 := nI_lt8 hr; grind)
            · exfalso; first | contradiction | omega | (have e0 := nI_lt8 hr; grind)
        · exfalso; first | contradiction | omega | (have e0 := nI_lt8 hr; grind)
    · exfalso; first | contradiction | omega | (have e0 := nI_lt8 hr; grind)
  · exfalso; first | contradiction | omega | (have e0 := nI_lt8 hr; grind)
end TALK
