section TALKM
variable {g : XG} {l : Launch} {d : Nat} {M : XM}
set_option maxRecDepth 20000 in
theorem k_X8_talk_state {a i n : Int32} (h : M.1 54 0 = 0) : XC g l mX8_talk (d + 4) [xr 49, xi a, xi i, xi n] M (XE (some (xi (-1000002))) (M)) := by
  show XW g l mX8_talk _ 0 [some (xr 49), some (xi a), some (xi i), some (xi n), none, none, none] [] M _
  refine xw_aload_n dX8_talk_0 rfl ?_
  refine xw_getR dX8_talk_1 fl_X8_22 rfl rfl ?_
  refine xw_iconst (v := 0) dX8_talk_4 (by decide) ?_
  refine xw_ialN 0 dX8_talk_5 rfl (rfl) (rfl) rfl ?_ ?_
  · omega
  refine xw_if_ne (tgt := 12) dX8_talk_6 (by decide) (fun c6 => ?_) (fun c6 => ?_)
  · exfalso; first | contradiction | omega | grind | simp_all
  · refine xw_ldc dX8_talk_9 kc_X8_205 ?_
    refine xw_ireti dX8_talk_11 rfl ?_
    first | exact ⟨rfl, rfl⟩ | exact ⟨by simp_all, rfl⟩ | grind [XE]
set_option maxRecDepth 20000 in
theorem k_X8_talk_bad {a i n : Int32} (h : ¬ M.1 54 0 = 0) (h2 : ¬ ((0 ≤ a ∧ a < 8) ∧ 1 ≤ n ∧ n ≤ 20)) : XC g l mX8_talk (d + 4) [xr 49, xi a, xi i, xi n] M (XE (some (xi (-1000001))) (M)) := by
  show XW g l mX8_talk _ 0 [some (xr 49), some (xi a), some (xi i), some (xi n), none, none, none] [] M _
  refine xw_aload_n dX8_talk_0 rfl ?_
  refine xw_getR dX8_talk_1 fl_X8_22 rfl rfl ?_
  refine xw_iconst (v := 0) dX8_talk_4 (by decide) ?_
  refine xw_ialN 0 dX8_talk_5 rfl (rfl) (rfl) rfl ?_ ?_
  · omega
  refine xw_if_ne (tgt := 12) dX8_talk_6 (by decide) (fun c6 => ?_) (fun c6 => ?_)
  · refine xw_iload_n dX8_talk_12 rfl ?_
    refine xw_cS1B dX8_talk_13 okX8_isRow ml_X8_60 rfl rfl (s_X8_isRow _) (fun p13 => ?_) (fun p13 => ?_)
    · refine xw_if_eq (tgt := 29) dX8_talk_16 (by decide) (fun q9 => absurd q9 (by decide)) (fun _ => ?_)
      refine xw_iload_n dX8_talk_19 rfl ?_
      refine xw_iconst (v := 1) dX8_talk_20 (by decide) ?_
      refine xw_bipush (v := 20) dX8_talk_21 (by decide) ?_
      refine xw_cS3B dX8_talk_23 okX8_in ml_X8_56 rfl rfl (s_X8_in _ _ _) (fun p23 => ?_) (fun p23 => ?_)
      · exfalso; first | contradiction | omega | grind | simp_all
      · refine xw_if_ne (tgt := 32) dX8_talk_26 (by decide) (fun q9 => absurd q9 (by decide)) (fun _ => ?_)
        refine xw_ldc dX8_talk_29 kc_X8_64 ?_
        refine xw_ireti dX8_talk_31 rfl ?_
        first | exact ⟨rfl, rfl⟩ | exact ⟨by simp_all, rfl⟩ | grind [XE]
    · refine xw_if_eq (tgt := 29) dX8_talk_16 (by decide) (fun _ => ?_) (fun q9 => absurd q9 (by decide))
      refine xw_ldc dX8_talk_29 kc_X8_64 ?_
      refine xw_ireti dX8_talk_31 rfl ?_
      first | exact ⟨rfl, rfl⟩ | exact ⟨by simp_all, rfl⟩ | grind [XE]
  · exfalso; first | contradiction | omega | grind | simp_all
set_option maxRecDepth 20000 in
theorem k_X8_talk_null {r : Nat} {i n : Int32} (h : ¬ M.1 54 0 = 0) (hr : r < 8) (hn : 1 ≤ n ∧ n ≤ 20) (h2 : M.1 50 r = -1000000) : XC g l mX8_talk (d + 4) [xr 49, xi (nI r), xi i, xi n] M (XE (some (xi (-1000011))) (xup M 49 3 1)) := by
  show XW g l mX8_talk _ 0 [some (xr 49), some (xi (nI r)), some (xi i), some (xi n), none, none, none] [] M _
  refine xw_aload_n dX8_talk_0 rfl ?_
  refine xw_getR dX8_talk_1 fl_X8_22 rfl rfl ?_
  refine xw_iconst (v := 0) dX8_talk_4 (by decide) ?_
  refine xw_ialN 0 dX8_talk_5 rfl (rfl) (rfl) rfl ?_ ?_
  · omega
  refine xw_if_ne (tgt := 12) dX8_talk_6 (by decide) (fun c6 => ?_) (fun c6 => ?_)
  · refine xw_iload_n dX8_talk_12 rfl ?_
    refine xw_cS1B dX8_talk_13 okX8_isRow ml_X8_60 rfl rfl (s_X8_isRow _) (fun p13 => ?_) (fun p13 => ?_)
    · refine xw_if_eq (tgt := 29) dX8_talk_16 (by decide) (fun q9 => absurd q9 (by decide)) (fun _ => ?_)
      refine xw_iload_n dX8_talk_19 rfl ?_
      refine xw_iconst (v := 1) dX8_talk_20 (by decide) ?_
      refine xw_bipush (v := 20) dX8_talk_21 (by decide) ?_
      refine xw_cS3B dX8_talk_23 okX8_in ml_X8_56 rfl rfl (s_X8_in _ _ _) (fun p23 => ?_) (fun p23 => ?_)
      · refine xw_if_ne (tgt := 32) dX8_talk_26 (by decide) (fun _ => ?_) (fun q9 => absurd q9 (by decide))
        refine xw_aload_n dX8_talk_32 rfl ?_
        refine xw_iload_n dX8_talk_33 rfl ?_
        refine xw_cV1B dX8_talk_34 okX8_isMissing ml_X8_72 rfl rfl rfl rfl (s_X8_isMissing hr) (fun p34 => ?_) (fun p34 => ?_)
        · refine xw_if_eq (tgt := 46) dX8_talk_37 (by decide) (fun q9 => absurd q9 (by decide)) (fun _ => ?_)
          refine xw_aload_n dX8_talk_40 rfl ?_
          refine xw_iconst (v := 1) dX8_talk_41 (by decide) ?_
          refine xw_cV1E dX8_talk_42 okX8_finds ml_X8_65 rfl rfl rfl rfl (s_X8_finds _) ?_
          refine xw_ireti dX8_talk_45 rfl ?_
          first | exact ⟨rfl, rfl⟩ | exact ⟨by simp_all, rfl⟩ | grind [XE]
        · exfalso; first | contradiction | (have e0 := nI_lt8 hr; grind)
      · exfalso; first | contradiction | (have e0 := nI_lt8 hr; grind)
    · exfalso; first | contradiction | (have e0 := nI_lt8 hr; grind)
  · exfalso; first | contradiction | (have e0 := nI_lt8 hr; grind)
set_option maxRecDepth 20000 in
theorem k_X8_talk_place {r : Nat} {i n : Int32} (h : ¬ M.1 54 0 = 0) (hr : r < 8) (hn : 1 ≤ n ∧ n ≤ 20) {s : Nat} (h2 : ¬ M.1 50 r = -1000000) (hs : M.1 51 r = nI s) (hs2 : s ≤ 40) (hp : ¬ (0 ≤ i ∧ 0 ≤ n ∧ i.toInt + n.toInt ≤ (s : Int))) : XC g l mX8_talk (d + 4) [xr 49, xi (nI r), xi i, xi n] M (XE (some (xi (-1000012))) (xup M 49 3 2)) := by
  show XW g l mX8_talk _ 0 [some (xr 49), some (xi (nI r)), some (xi i), some (xi n), none, none, none] [] M _
  refine xw_aload_n dX8_talk_0 rfl ?_
  refine xw_getR dX8_talk_1 fl_X8_22 rfl rfl ?_
  refine xw_iconst (v := 0) dX8_talk_4 (by decide) ?_
  refine xw_ialN 0 dX8_talk_5 rfl (rfl) (rfl) rfl ?_ ?_
  · omega
  refine xw_if_ne (tgt := 12) dX8_talk_6 (by decide) (fun c6 => ?_) (fun c6 => ?_)
  · refine xw_iload_n dX8_talk_12 rfl ?_
    refine xw_cS1B dX8_talk_13 okX8_isRow ml_X8_60 rfl rfl (s_X8_isRow _) (fun p13 => ?_) (fun p13 => ?_)
    · refine xw_if_eq (tgt := 29) dX8_talk_16 (by decide) (fun q9 => absurd q9 (by decide)) (fun _ => ?_)
      refine xw_iload_n dX8_talk_19 rfl ?_
      refine xw_iconst (v := 1) dX8_talk_20 (by decide) ?_
      refine xw_bipush (v := 20) dX8_talk_21 (by decide) ?_
      refine xw_cS3B dX8_talk_23 okX8_in ml_X8_56 rfl rfl (s_X8_in _ _ _) (fun p23 => ?_) (fun p23 => ?_)
      · refine xw_if_ne (tgt := 32) dX8_talk_26 (by decide) (fun _ => ?_) (fun q9 => absurd q9 (by decide))
        refine xw_aload_n dX8_talk_32 rfl ?_
        refine xw_iload_n dX8_talk_33 rfl ?_
        refine xw_cV1B dX8_talk_34 okX8_isMissing ml_X8_72 rfl rfl rfl rfl (s_X8_isMissing hr) (fun p34 => ?_) (fun p34 => ?_)
        · exfalso; first | contradiction | (have e0 := nI_lt8 hr; grind) | (have e0 : ¬ n < 0 := (by grind); have e1 := pl_two i n hs2 c47 e0; grind)
        · refine xw_if_eq (tgt := 46) dX8_talk_37 (by decide) (fun _ => ?_) (fun q9 => absurd q9 (by decide))
          refine xw_iload_n dX8_talk_46 rfl ?_
          refine xw_if_lt (tgt := 62) dX8_talk_47 (by decide) (fun c47 => ?_) (fun c47 => ?_)
          · refine xw_aload_n dX8_talk_62 rfl ?_
            refine xw_iconst (v := 2) dX8_talk_63 (by decide) ?_
            refine xw_cV1E dX8_talk_64 okX8_finds ml_X8_65 rfl rfl rfl rfl (s_X8_finds _) ?_
            refine xw_ireti dX8_talk_67 rfl ?_
            first | exact ⟨rfl, rfl⟩ | exact ⟨by simp_all, rfl⟩ | grind [XE]
          · refine xw_iload_n dX8_talk_50 rfl ?_
            refine xw_aload_n dX8_talk_51 rfl ?_
            refine xw_getR dX8_talk_52 fl_X8_13 rfl rfl ?_
            refine xw_iload_n dX8_talk_55 rfl ?_
            refine xw_ialN _ dX8_talk_56 rfl (rfl) (hs) rfl ?_ ?_
            · omega
            refine xw_iload_n dX8_talk_57 rfl ?_
            refine xw_isub dX8_talk_58 ?_
            refine xw_icmp_le (tgt := 68) dX8_talk_59 (by decide) (fun c59 => ?_) (fun c59 => ?_)
            · exfalso; first | contradiction | (have e0 := nI_lt8 hr; grind) | (have e0 : ¬ n < 0 := (by grind); have e1 := pl_two i n hs2 c47 e0; grind)
            · refine xw_aload_n dX8_talk_62 rfl ?_
              refine xw_iconst (v := 2) dX8_talk_63 (by decide) ?_
              refine xw_cV1E dX8_talk_64 okX8_finds ml_X8_65 rfl rfl rfl rfl (s_X8_finds _) ?_
              refine xw_ireti dX8_talk_67 rfl ?_
              first | exact ⟨rfl, rfl⟩ | exact ⟨by simp_all, rfl⟩ | grind [XE]
      · exfalso; first | contradiction | (have e0 := nI_lt8 hr; grind) | (have e0 : ¬ n < 0 := (by grind); have e1 := pl_two i n hs2 c47 e0; grind)
    · exfalso; first | contradiction | (have e0 := nI_lt8 hr; grind) | (have e0 : ¬ n < 0 := (by grind); have e1 := pl_two i n hs2 c47 e0; grind)
  · exfalso; first | contradiction | (have e0 := nI_lt8 hr; grind) | (have e0 : ¬ n < 0 := (by grind); have e1 := pl_two i n hs2 c47 e0; grind)
theorem okIt_in {D : FD} {v : Int32} (hn : dn D ≤ 6) : (0 ≤ v ∧ v ≤ nI (16 * dn D) - 1) ↔ okIt D v := pl_sub1 v (by omega)
set_option maxRecDepth 20000 in
theorem lp_X8_talk1_no {D : FD} {r i n : Nat} (hC : FMS M 54 D) (hr : r < 8) (hi : i + n ≤ 40) (hb : ¬ ∀ j, j < n → okIt D (M.1 52 (40 * r + (i + j)))) : ∀ (p q : Nat), q + p = n → (∀ j, j < q → okIt D (M.1 52 (40 * r + (i + j)))) → XW g l mX8_talk (d + 4) 71 [some (xr 49), some (xi (nI r)), some (xi (nI i)), some (xi (nI n)), some (xi (nI (i + q))), none, none] [] M (XE (some (xi (-1000001))) M) := by
  have hn6 := hC.1
  have hN := hC.2.2.2.1
  intro p
  induction p with
  | zero =>
    intro q hq h0
    have hq : q = n := by omega
    subst hq
    exact absurd h0 hb
  | succ p ih =>
    intro q hq h0
    refine xw_iload dX8_talk_71 rfl ?_
    refine xw_iload_n dX8_talk_73 rfl ?_
    refine xw_iload_n dX8_talk_74 rfl ?_
    refine xw_iaddN dX8_talk_75 ?_
    refine xw_icmp_geN (tgt := 118) dX8_talk_76 (by decide) (by omega) (fun c76 => ?_) (fun c76 => ?_)
    · exfalso; omega
    · refine xw_aload_n dX8_talk_79 rfl ?_
      refine xw_getR dX8_talk_80 fl_X8_16 rfl rfl ?_
      refine xw_bipush (v := 40) dX8_talk_83 (by decide) ?_
      refine xw_iload_n dX8_talk_85 rfl ?_
      refine xw_imulN (a := 40) dX8_talk_86 ?_
      refine xw_iload dX8_talk_87 rfl ?_
      refine xw_iaddN dX8_talk_89 ?_
      refine xw_ialN _ dX8_talk_90 rfl (rfl) (rfl) rfl ?_ ?_
      · omega
      refine xw_iconst (v := 0) dX8_talk_91 (by decide) ?_
      refine xw_bipush (v := 16) dX8_talk_92 (by decide) ?_
      refine xw_aload_n dX8_talk_94 rfl ?_
      refine xw_getR dX8_talk_95 fl_X8_22 rfl rfl ?_
      refine xw_iconst (v := 3) dX8_talk_98 (by decide) ?_
      refine xw_ialN 3 dX8_talk_99 rfl (rfl) (hN) rfl ?_ ?_
      · omega
      refine xw_imulN (a := 16) dX8_talk_100 ?_
      refine xw_iconst (v := 1) dX8_talk_101 (by decide) ?_
      refine xw_isub dX8_talk_102 ?_
      refine xw_cS3B dX8_talk_103 okX8_in ml_X8_56 rfl rfl (s_X8_in _ _ _) (fun p103 => ?_) (fun p103 => ?_)
      · refine xw_if_ne (tgt := 112) dX8_talk_106 (by decide) (fun _ => ?_) (fun q9 => absurd q9 (by decide))
        refine xw_iincN (v := 1) dX8_talk_112 (by decide) rfl rfl rfl ?_
        refine xw_goto (tgt := 71) dX8_talk_115 (by decide) ?_
        refine ih (q + 1) (by omega) (fun j hj => ?_)
        rcases Nat.lt_or_ge j q with y | y
        · exact h0 j y
        · rw [show j = q by omega]; exact (okIt_in hn6).mp p103
      · refine xw_if_ne (tgt := 112) dX8_talk_106 (by decide) (fun q9 => absurd q9 (by decide)) (fun _ => ?_)
        refine xw_ldc dX8_talk_109 kc_X8_64 ?_
        refine xw_ireti dX8_talk_111 rfl ?_
        first | exact ⟨rfl, rfl⟩ | exact ⟨by simp_all, rfl⟩ | grind [XE]
set_option maxRecDepth 20000 in
theorem k_X8_talk_item {D : FD} {r i n s : Nat} (h : ¬ M.1 54 0 = 0) (hr : r < 8) (hn : 1 ≤ n ∧ n ≤ 20) (h2 : ¬ M.1 50 r = -1000000) (hs : M.1 51 r = nI s) (hs2 : s ≤ 40) (hp : i + n ≤ s) (hC : FMS M 54 D) (hb : ¬ ∀ j, j < n → okIt D (M.1 52 (40 * r + (i + j)))) : XC g l mX8_talk (d + 4) [xr 49, xi (nI r), xi (nI i), xi (nI n)] M (XE (some (xi (-1000001))) (M)) := by
  show XW g l mX8_talk _ 0 [some (xr 49), some (xi (nI r)), some (xi (nI i)), some (xi (nI n)), none, none, none] [] M _
  have e3 : (1 : Int32) ≤ nI n ∧ nI n ≤ 20 := ⟨nI_le (a := 1) (by omega) (by omega), nI_le (b := 20) (by omega) (by decide)⟩
  refine xw_aload_n dX8_talk_0 rfl ?_
  refine xw_getR dX8_talk_1 fl_X8_22 rfl rfl ?_
  refine xw_iconst (v := 0) dX8_talk_4 (by decide) ?_
  refine xw_ialN 0 dX8_talk_5 rfl (rfl) (rfl) rfl ?_ ?_
  · omega
  refine xw_if_ne (tgt := 12) dX8_talk_6 (by decide) (fun c6 => ?_) (fun c6 => ?_)
  · refine xw_iload_n dX8_talk_12 rfl ?_
    refine xw_cS1B dX8_talk_13 okX8_isRow ml_X8_60 rfl rfl (s_X8_isRow _) (fun p13 => ?_) (fun p13 => ?_)
    · refine xw_if_eq (tgt := 29) dX8_talk_16 (by decide) (fun q9 => absurd q9 (by decide)) (fun _ => ?_)
      refine xw_iload_n dX8_talk_19 rfl ?_
      refine xw_iconst (v := 1) dX8_talk_20 (by decide) ?_
      refine xw_bipush (v := 20) dX8_talk_21 (by decide) ?_
      refine xw_cS3B dX8_talk_23 okX8_in ml_X8_56 rfl rfl (s_X8_in _ _ _) (fun p23 => ?_) (fun p23 => ?_)
      · refine xw_if_ne (tgt := 32) dX8_talk_26 (by decide) (fun _ => ?_) (fun q9 => absurd q9 (by decide))
        refine xw_aload_n dX8_talk_32 rfl ?_
        refine xw_iload_n dX8_talk_33 rfl ?_
        refine xw_cV1B dX8_talk_34 okX8_isMissing ml_X8_72 rfl rfl rfl rfl (s_X8_isMissing hr) (fun p34 => ?_) (fun p34 => ?_)
        · exfalso; first | contradiction | omega | (have e0 := nI_lt8 hr; grind)
        · refine xw_if_eq (tgt := 46) dX8_talk_37 (by decide) (fun _ => ?_) (fun q9 => absurd q9 (by decide))
          refine xw_iload_n dX8_talk_46 rfl ?_
          refine xw_if_ltN (tgt := 62) dX8_talk_47 (by decide) (by omega) ?_
          refine xw_iload_n dX8_talk_50 rfl ?_
          refine xw_aload_n dX8_talk_51 rfl ?_
          refine xw_getR dX8_talk_52 fl_X8_13 rfl rfl ?_
          refine xw_iload_n dX8_talk_55 rfl ?_
          refine xw_ialN _ dX8_talk_56 rfl (rfl) (hs) rfl ?_ ?_
          · omega
          refine xw_iload_n dX8_talk_57 rfl ?_
          refine xw_isubN dX8_talk_58 ?_ ?_
          · omega
          refine xw_icmp_leN (tgt := 68) dX8_talk_59 (by decide) (by omega) (fun c59 => ?_) (fun c59 => ?_)
          · refine xw_iload_n dX8_talk_68 rfl ?_
            refine xw_istore dX8_talk_69 rfl rfl ?_
            exact lp_X8_talk1_no hC hr (by omega) hb n 0 (by omega) (fun _ z => absurd z (by omega))
          · exfalso; first | contradiction | omega | (have e0 := nI_lt8 hr; grind)
      · exfalso; first | contradiction | omega | (have e0 := nI_lt8 hr; grind)
    · exfalso; first | contradiction | omega | (have e0 := nI_lt8 hr; grind)
  · exfalso; first | contradiction | omega | (have e0 := nI_lt8 hr; grind)
set_option maxRecDepth 20000 in
theorem lp_X8_talk2 {D : FD} {A : FA} {r i n : Nat} {it : Nat → Nat} (hA : WFA D A) (hr : r < 8) (hi : i + n ≤ 40) (hit : ∀ j, j < n → M.1 52 (40 * r + (i + j)) = nI (it j)) (hit2 : ∀ j, j < n → it j < 16 * dn D) (hR0 : MRep M D A) : ∀ (p q : Nat) (M1 : XM) (v6 : Option XV), q + p = n → MRep M1 D (tkF D it A q).1 → FrM M M1 → XW g l mX8_talk (d + 4) 124 [some (xr 49), some (xi (nI r)), some (xi (nI i)), some (xi (nI n)), some (xi (nI (tkF D it A q).2)), some (xi (nI (i + q))), v6] [] M1 (fun r M' => r = some (xi (nI (tkF D it A n).2)) ∧ ∃ M1, MRep M1 D (tkF D it A n).1 ∧ FrM M M1 ∧ M' = xup M1 49 3 0) := by
  have hhs := hR0.houses
  intro p
  induction p with
  | zero =>
    intro q M1 v6 hq hR hF
    have hq : q = n := by omega
    subst hq
    have hw2 := (tkF_WF hA hhs.1 hhs.2 q hit2).2
    refine xw_iload dX8_talk_124 rfl ?_
    refine xw_iload_n dX8_talk_126 rfl ?_
    refine xw_iload_n dX8_talk_127 rfl ?_
    refine xw_iaddN dX8_talk_128 ?_
    refine xw_icmp_geN (tgt := 198) dX8_talk_129 (by decide) (by omega) (fun c129 => ?_) (fun c129 => ?_)
    · refine xw_aload_n dX8_talk_198 rfl ?_
      refine xw_iload dX8_talk_199 rfl ?_
      refine xw_cV1E dX8_talk_201 okX8_did ml_X8_69 rfl rfl rfl rfl (s_X8_did _) ?_
      refine xw_ireti dX8_talk_204 rfl ?_
      exact ⟨rfl, _, hR, hF, rfl⟩
    · exfalso; omega
  | succ p ih =>
    intro q M1 v6 hq hR hF
    obtain ⟨hw1, hw2⟩ := tkF_WF hA hhs.1 hhs.2 q (fun j hj => hit2 j (by omega))
    have hI : M1.1 52 (40 * r + (i + q)) = nI (it q) := by rw [hF.1 52 _ (by omega) (by omega) (by omega)]; exact hit q (by omega)
    have hI2 := hit2 q (by omega)
    obtain ⟨hC, hX, hL, hHM⟩ := id hR
    have hn6 := hC.1
    have ihs := fun M2 u6 => ih (q + 1) M2 u6 (by omega)
    have e9 : tkF D it A (q + 1) = if decP (drowned D (tkF D it A q).1.1 (it q / 16)) then tkF D it A q else (stepSay D (tkF D it A q).1 (it q / 16) (it q % 16), (tkF D it A q).2 + (if sayV D (tkF D it A q).1 (it q / 16) (it q % 16) = 0 then 0 else 1)) := rfl
    rw [e9] at ihs
    have hsv : sayV D (tkF D it A q).1 (it q / 16) (it q % 16) < 64 := by
      unfold sayV
      split
      · exact slV_lt _ _ _ hn6
      · decide
    refine xw_iload dX8_talk_124 rfl ?_
    refine xw_iload_n dX8_talk_126 rfl ?_
    refine xw_iload_n dX8_talk_127 rfl ?_
    refine xw_iaddN dX8_talk_128 ?_
    refine xw_icmp_geN (tgt := 198) dX8_talk_129 (by decide) (by omega) (fun c129 => ?_) (fun c129 => ?_)
    · exfalso; omega
    · refine xw_aload_n dX8_talk_132 rfl ?_
      refine xw_getR dX8_talk_133 fl_X8_16 rfl rfl ?_
      refine xw_bipush (v := 40) dX8_talk_136 (by decide) ?_
      refine xw_iload_n dX8_talk_138 rfl ?_
      refine xw_imulN (a := 40) dX8_talk_139 ?_
      refine xw_iload dX8_talk_140 rfl ?_
      refine xw_iaddN dX8_talk_142 ?_
      refine xw_ialN _ dX8_talk_143 rfl (rfl) (hI) rfl ?_ ?_
      · omega
      refine xw_bipush (v := 16) dX8_talk_144 (by decide) ?_
      refine xw_idivN (b := 16) dX8_talk_146 (by omega) ?_
      refine xw_istore dX8_talk_147 rfl rfl ?_
      refine xw_aload_n dX8_talk_149 rfl ?_
      refine xw_iload dX8_talk_150 rfl ?_
      refine xw_cV1B dX8_talk_152 okX8_isDrowned ml_X8_202 rfl rfl rfl rfl (s_X8_isDrowned hC hX (by omega)) (fun p152 => ?_) (fun p152 => ?_)
      · rw [decP_t p152, if_pos rfl] at ihs
        refine xw_if_ne (tgt := 192) dX8_talk_155 (by decide) (fun _ => ?_) (fun q9 => absurd q9 (by decide))
        refine xw_iincN (v := 1) dX8_talk_192 (by decide) rfl rfl rfl ?_
        refine xw_goto (tgt := 124) dX8_talk_195 (by decide) ?_
        first | exact ihs _ _ hR hF | exact ihs _ _ hR2 (hF.tr hF2)
      · rw [decP_f p152, if_neg (by decide)] at ihs
        refine xw_if_ne (tgt := 192) dX8_talk_155 (by decide) (fun q9 => absurd q9 (by decide)) (fun _ => ?_)
        refine xw_iload dX8_talk_158 rfl ?_
        refine xw_aload_n dX8_talk_160 rfl ?_
        refine xw_iload dX8_talk_161 rfl ?_
        refine xw_aload_n dX8_talk_163 rfl ?_
        refine xw_getR dX8_talk_164 fl_X8_16 rfl rfl ?_
        refine xw_bipush (v := 40) dX8_talk_167 (by decide) ?_
        refine xw_iload_n dX8_talk_169 rfl ?_
        refine xw_imulN (a := 40) dX8_talk_170 ?_
        refine xw_iload dX8_talk_171 rfl ?_
        refine xw_iaddN dX8_talk_173 ?_
        refine xw_ialN _ dX8_talk_174 rfl (rfl) (hI) rfl ?_ ?_
        · omega
        refine xw_bipush (v := 16) dX8_talk_175 (by decide) ?_
        refine xw_iremN (b := 16) dX8_talk_177 (by omega) ?_
        refine xw_cV2Q dX8_talk_178 okX8_saying ml_X8_206 rfl rfl rfl rfl (m_saying hR hw1.1 hw1.2.1 (by omega) (by omega)) ?_
        rintro _ M' ⟨rfl, hR2, hF2⟩
        refine xw_if_eqN (tgt := 188) dX8_talk_181 (by decide) (by omega) (fun c181 => ?_) (fun c181 => ?_)
        · rw [if_pos (by assumption)] at ihs
          refine xw_iconst (v := 0) dX8_talk_188 (by decide) ?_
          refine xw_iaddN (b := 0) dX8_talk_189 ?_
          refine xw_istore dX8_talk_190 rfl rfl ?_
          refine xw_iincN (v := 1) dX8_talk_192 (by decide) rfl rfl rfl ?_
          refine xw_goto (tgt := 124) dX8_talk_195 (by decide) ?_
          first | exact ihs _ _ hR hF | exact ihs _ _ hR2 (hF.tr hF2)
        · rw [if_neg (by assumption)] at ihs
          refine xw_iconst (v := 1) dX8_talk_184 (by decide) ?_
          refine xw_goto (tgt := 189) dX8_talk_185 (by decide) ?_
          refine xw_iaddN (b := 1) dX8_talk_189 ?_
          refine xw_istore dX8_talk_190 rfl rfl ?_
          refine xw_iincN (v := 1) dX8_talk_192 (by decide) rfl rfl rfl ?_
          refine xw_goto (tgt := 124) dX8_talk_195 (by decide) ?_
          first | exact ihs _ _ hR hF | exact ihs _ _ hR2 (hF.tr hF2)
set_option maxRecDepth 20000 in
theorem lp_X8_talk1 {D : FD} {A : FA} {r i n : Nat} {it : Nat → Nat} (hA : WFA D A) (hr : r < 8) (hi : i + n ≤ 40) (hit : ∀ j, j < n → M.1 52 (40 * r + (i + j)) = nI (it j)) (hit2 : ∀ j, j < n → it j < 16 * dn D) (hR0 : MRep M D A) : ∀ (p q : Nat), q + p = n → XW g l mX8_talk (d + 4) 71 [some (xr 49), some (xi (nI r)), some (xi (nI i)), some (xi (nI n)), some (xi (nI (i + q))), none, none] [] M (fun r M' => r = some (xi (nI (tkF D it A n).2)) ∧ ∃ M1, MRep M1 D (tkF D it A n).1 ∧ FrM M M1 ∧ M' = xup M1 49 3 0) := by
  have hC := hR0.1
  have hn6 := hC.1
  have hN := hC.2.2.2.1
  intro p
  induction p with
  | zero =>
    intro q hq
    have hq : q = n := by omega
    subst hq
    refine xw_iload dX8_talk_71 rfl ?_
    refine xw_iload_n dX8_talk_73 rfl ?_
    refine xw_iload_n dX8_talk_74 rfl ?_
    refine xw_iaddN dX8_talk_75 ?_
    refine xw_icmp_geN (tgt := 118) dX8_talk_76 (by decide) (by omega) (fun c76 => ?_) (fun c76 => ?_)
    · refine xw_iconst (v := 0) dX8_talk_118 (by decide) ?_
      refine xw_istore dX8_talk_119 rfl rfl ?_
      refine xw_iload_n dX8_talk_121 rfl ?_
      refine xw_istore dX8_talk_122 rfl rfl ?_
      exact lp_X8_talk2 hA hr hi hit hit2 hR0 q 0 M none (by omega) hR0 (FrM.rf M)
    · exfalso; omega
  | succ p ih =>
    intro q hq
    have e5 : (0 : Int32) ≤ nI (it q) ∧ nI (it q) ≤ nI (16 * dn D) - 1 := (okIt_in hn6).mpr (okIt_of hn6 (hit2 q (by omega)))
    refine xw_iload dX8_talk_71 rfl ?_
    refine xw_iload_n dX8_talk_73 rfl ?_
    refine xw_iload_n dX8_talk_74 rfl ?_
    refine xw_iaddN dX8_talk_75 ?_
    refine xw_icmp_geN (tgt := 118) dX8_talk_76 (by decide) (by omega) (fun c76 => ?_) (fun c76 => ?_)
    · exfalso; first | contradiction | omega
    · refine xw_aload_n dX8_talk_79 rfl ?_
      refine xw_getR dX8_talk_80 fl_X8_16 rfl rfl ?_
      refine xw_bipush (v := 40) dX8_talk_83 (by decide) ?_
      refine xw_iload_n dX8_talk_85 rfl ?_
      refine xw_imulN (a := 40) dX8_talk_86 ?_
      refine xw_iload dX8_talk_87 rfl ?_
      refine xw_iaddN dX8_talk_89 ?_
      refine xw_ialN _ dX8_talk_90 rfl (rfl) (hit q (by omega)) rfl ?_ ?_
      · omega
      refine xw_iconst (v := 0) dX8_talk_91 (by decide) ?_
      refine xw_bipush (v := 16) dX8_talk_92 (by decide) ?_
      refine xw_aload_n dX8_talk_94 rfl ?_
      refine xw_getR dX8_talk_95 fl_X8_22 rfl rfl ?_
      refine xw_iconst (v := 3) dX8_talk_98 (by decide) ?_
      refine xw_ialN 3 dX8_talk_99 rfl (rfl) (hN) rfl ?_ ?_
      · omega
      refine xw_imulN (a := 16) dX8_talk_100 ?_
      refine xw_iconst (v := 1) dX8_talk_101 (by decide) ?_
      refine xw_isub dX8_talk_102 ?_
      refine xw_cS3B dX8_talk_103 okX8_in ml_X8_56 rfl rfl (s_X8_in _ _ _) (fun p103 => ?_) (fun p103 => ?_)
      · refine xw_if_ne (tgt := 112) dX8_talk_106 (by decide) (fun _ => ?_) (fun q9 => absurd q9 (by decide))
        refine xw_iincN (v := 1) dX8_talk_112 (by decide) rfl rfl rfl ?_
        refine xw_goto (tgt := 71) dX8_talk_115 (by decide) ?_
        exact ih (q + 1) (by omega)
      · exfalso; first | contradiction | omega
set_option maxRecDepth 20000 in
theorem m_talk {A : FA} {it : Nat → Nat} {D : FD} {r i n s : Nat} (h : ¬ M.1 54 0 = 0) (hr : r < 8) (hn : 1 ≤ n ∧ n ≤ 20) (h2 : ¬ M.1 50 r = -1000000) (hs : M.1 51 r = nI s) (hs2 : s ≤ 40) (hp : i + n ≤ s) (hC : FMS M 54 D) (hR : MRep M D A) (hA : WFA D A) (hit : ∀ j, j < n → M.1 52 (40 * r + (i + j)) = nI (it j)) (hit2 : ∀ j, j < n → it j < 16 * dn D) : XC g l mX8_talk (d + 4) [xr 49, xi (nI r), xi (nI i), xi (nI n)] M (fun r M' => r = some (xi (nI (tkF D it A n).2)) ∧ ∃ M1, MRep M1 D (tkF D it A n).1 ∧ FrM M M1 ∧ M' = xup M1 49 3 0) := by
  show XW g l mX8_talk _ 0 [some (xr 49), some (xi (nI r)), some (xi (nI i)), some (xi (nI n)), none, none, none] [] M _
  have e3 : (1 : Int32) ≤ nI n ∧ nI n ≤ 20 := ⟨nI_le (a := 1) (by omega) (by omega), nI_le (b := 20) (by omega) (by decide)⟩
  refine xw_aload_n dX8_talk_0 rfl ?_
  refine xw_getR dX8_talk_1 fl_X8_22 rfl rfl ?_
  refine xw_iconst (v := 0) dX8_talk_4 (by decide) ?_
  refine xw_ialN 0 dX8_talk_5 rfl (rfl) (rfl) rfl ?_ ?_
  · omega
  refine xw_if_ne (tgt := 12) dX8_talk_6 (by decide) (fun c6 => ?_) (fun c6 => ?_)
  · refine xw_iload_n dX8_talk_12 rfl ?_
    refine xw_cS1B dX8_talk_13 okX8_isRow ml_X8_60 rfl rfl (s_X8_isRow _) (fun p13 => ?_) (fun p13 => ?_)
    · refine xw_if_eq (tgt := 29) dX8_talk_16 (by decide) (fun q9 => absurd q9 (by decide)) (fun _ => ?_)
      refine xw_iload_n dX8_talk_19 rfl ?_
      refine xw_iconst (v := 1) dX8_talk_20 (by decide) ?_
      refine xw_bipush (v := 20) dX8_talk_21 (by decide) ?_
      refine xw_cS3B dX8_talk_23 okX8_in ml_X8_56 rfl rfl (s_X8_in _ _ _) (fun p23 => ?_) (fun p23 => ?_)
      · refine xw_if_ne (tgt := 32) dX8_talk_26 (by decide) (fun _ => ?_) (fun q9 => absurd q9 (by decide))
        refine xw_aload_n dX8_talk_32 rfl ?_
        refine xw_iload_n dX8_talk_33 rfl ?_
        refine xw_cV1B dX8_talk_34 okX8_isMissing ml_X8_72 rfl rfl rfl rfl (s_X8_isMissing hr) (fun p34 => ?_) (fun p34 => ?_)
        · exfalso; first | contradiction | omega | (have e0 := nI_lt8 hr; grind)
        · refine xw_if_eq (tgt := 46) dX8_talk_37 (by decide) (fun _ => ?_) (fun q9 => absurd q9 (by decide))
          refine xw_iload_n dX8_talk_46 rfl ?_
          refine xw_if_ltN (tgt := 62) dX8_talk_47 (by decide) (by omega) ?_
          refine xw_iload_n dX8_talk_50 rfl ?_
          refine xw_aload_n dX8_talk_51 rfl ?_
          refine xw_getR dX8_talk_52 fl_X8_13 rfl rfl ?_
          refine xw_iload_n dX8_talk_55 rfl ?_
          refine xw_ialN _ dX8_talk_56 rfl (rfl) (hs) rfl ?_ ?_
          · omega
          refine xw_iload_n dX8_talk_57 rfl ?_
          refine xw_isubN dX8_talk_58 ?_ ?_
          · omega
          refine xw_icmp_leN (tgt := 68) dX8_talk_59 (by decide) (by omega) (fun c59 => ?_) (fun c59 => ?_)
          · refine xw_iload_n dX8_talk_68 rfl ?_
            refine xw_istore dX8_talk_69 rfl rfl ?_
            exact lp_X8_talk1 hA hr (by omega) hit hit2 hR n 0 (by omega)
          · exfalso; first | contradiction | omega | (have e0 := nI_lt8 hr; grind)
      · exfalso; first | contradiction | omega | (have e0 := nI_lt8 hr; grind)
    · exfalso; first | contradiction | omega | (have e0 := nI_lt8 hr; grind)
  · exfalso; first | contradiction | omega | (have e0 := nI_lt8 hr; grind)
set_option maxRecDepth 20000 in
theorem k_X7_kind_bad {a : Int32} (h : ¬ (0 ≤ a ∧ a < M.1 8 2)) : XC g l mX7_kind (d + 1) [xr 0, xi a] M (XE (some (xi (-1000001))) M) := by
  show XW g l mX7_kind _ 0 [some (xr 0), some (xi a)] [] M _
  refine xw_aload_n dX7_kind_0 rfl ?_
  refine xw_getR dX7_kind_1 fl_X7_26 rfl rfl ?_
  refine xw_iload_n dX7_kind_4 rfl ?_
  refine xw_cV1B dX7_kind_5 okX1_isHouse ml_X7_133 rfl rfl rfl rfl (s_X1_isHouse xf_8 _) (fun p5 => ?_) (fun p5 => ?_)
  · exfalso; first | contradiction | omega | grind | simp_all
  · refine xw_if_eq (tgt := 23) dX7_kind_8 (by decide) (fun _ => ?_) (fun q9 => absurd q9 (by decide))
    refine xw_ldc dX7_kind_23 kc_X7_66 ?_
    refine xw_ireti dX7_kind_25 rfl ?_
    first | exact ⟨rfl, rfl⟩ | exact ⟨by simp_all, rfl⟩ | grind [XE]
set_option maxRecDepth 20000 in
theorem k_X8_kind_bad {n : Nat} {a : Int32} (hN : M.1 54 3 = nI n) (hn6 : n ≤ 6) (h : ¬ (0 ≤ a ∧ a < nI n)) : XC g l mX8_kind (d + 2) [xr 49, xi a] M (XE (some (xi (-1000001))) M) := by
  show XW g l mX8_kind _ 0 [some (xr 49), some (xi a)] [] M _
  refine xw_aload_n dX8_kind_0 rfl ?_
  refine xw_iload_n dX8_kind_1 rfl ?_
  refine xw_cV1B dX8_kind_2 okX8_isThere ml_X8_199 rfl rfl rfl rfl (s_X8_isThere hN hn6 _) (fun p2 => ?_) (fun p2 => ?_)
  · exfalso; first | contradiction | omega | grind | simp_all
  · refine xw_if_eq (tgt := 19) dX8_kind_5 (by decide) (fun _ => ?_) (fun q9 => absurd q9 (by decide))
    refine xw_ldc dX8_kind_19 kc_X8_64 ?_
    refine xw_ireti dX8_kind_21 rfl ?_
    first | exact ⟨rfl, rfl⟩ | exact ⟨by simp_all, rfl⟩ | grind [XE]
set_option maxRecDepth 20000 in
theorem k_X7_kind_ok {D : FD} {h : Nat} (hC : FCS M 8 D) (hh : h < dn D)  : XC g l mX7_kind (d + 1) [xr 0, xi (nI h)] M (XE (some (xi (nI (dK D h)))) M) := by
  have hn6 := hC.1
  have hN := hC.2.2.2.1
  have hK := hC.2.2.2.2.2.2.2.2.1
  have hG := hC.2.2.2.2.2.2.2.2.2.2.2.2
  have e0 : 0 ≤ nI h ∧ nI h < M.1 8 2 := by rw [hN]; exact nI_in0 (by omega) hh
  show XW g l mX7_kind _ 0 [some (xr 0), some (xi (nI h))] [] M _
  refine xw_aload_n dX7_kind_0 rfl ?_
  refine xw_getR dX7_kind_1 fl_X7_26 rfl rfl ?_
  refine xw_iload_n dX7_kind_4 rfl ?_
  refine xw_cV1B dX7_kind_5 okX1_isHouse ml_X7_133 rfl rfl rfl rfl (s_X1_isHouse xf_8 _) (fun p5 => ?_) (fun p5 => ?_)
  · refine xw_if_eq (tgt := 23) dX7_kind_8 (by decide) (fun q9 => absurd q9 (by decide)) (fun _ => ?_)
    refine xw_aload_n dX7_kind_11 rfl ?_
    refine xw_getR dX7_kind_12 fl_X7_26 rfl rfl ?_
    refine xw_getR dX7_kind_15 fl_X7_224 rfl rfl ?_
    refine xw_iload_n dX7_kind_18 rfl ?_
    refine xw_ialN _ dX7_kind_19 rfl (rfl) (hK _ hh) rfl ?_ ?_
    · omega
    refine xw_goto (tgt := 25) dX7_kind_20 (by decide) ?_
    refine xw_ireti dX7_kind_25 rfl ?_
    first | exact ⟨rfl, rfl⟩ | exact ⟨by simp_all, rfl⟩ | grind [XE]
  · exact absurd e0 p5
set_option maxRecDepth 20000 in
theorem k_X8_kind_ok {D : FD} {h : Nat} (hC : FMS M 54 D) (hh : h < dn D)  : XC g l mX8_kind (d + 2) [xr 49, xi (nI h)] M (XE (some (xi (nI (dK D h)))) M) := by
  have hn6 := hC.1
  have hN := hC.2.2.2.1
  have hK := hC.2.2.2.2.2.1
  have hG := hC.2.2.2.2.2.2.2.2.2
  have e0 : 0 ≤ nI h ∧ nI h < nI (dn D) := nI_in0 (by omega) hh
  show XW g l mX8_kind _ 0 [some (xr 49), some (xi (nI h))] [] M _
  refine xw_aload_n dX8_kind_0 rfl ?_
  refine xw_iload_n dX8_kind_1 rfl ?_
  refine xw_cV1B dX8_kind_2 okX8_isThere ml_X8_199 rfl rfl rfl rfl (s_X8_isThere hN hn6 _) (fun p2 => ?_) (fun p2 => ?_)
  · refine xw_if_eq (tgt := 19) dX8_kind_5 (by decide) (fun q9 => absurd q9 (by decide)) (fun _ => ?_)
    refine xw_aload_n dX8_kind_8 rfl ?_
    refine xw_getR dX8_kind_9 fl_X8_22 rfl rfl ?_
    refine xw_iconst (v := 4) dX8_kind_12 (by decide) ?_
    refine xw_iload_n dX8_kind_13 rfl ?_
    refine xw_iaddN (a := 4) dX8_kind_14 ?_
    refine xw_ialN _ dX8_kind_15 rfl (rfl) (hK _ hh) rfl ?_ ?_
    · omega
    refine xw_goto (tgt := 21) dX8_kind_16 (by decide) ?_
    refine xw_ireti dX8_kind_21 rfl ?_
    first | exact ⟨rfl, rfl⟩ | exact ⟨by simp_all, rfl⟩ | grind [XE]
  · exact absurd e0 p2
/-- the kind above, and whether one kind is another -/
def abv (k : Nat) : Nat := if k = 5 then 4 else if k = 4 ∨ k = 3 then 2 else 0
def isK (own k : Nat) : Prop := k = own ∨ k = abv own ∨ k = abv (abv own) ∨ k = 0
set_option maxRecDepth 20000 in
theorem s_X4_isNumber (v : Int32) : XC g l mX4_isNumber d [xi v] M (XB (0 ≤ v ∧ v < 6) M M) := by
  show XW g l mX4_isNumber _ 0 [some (xi v)] [] M _
  refine xw_iload_n dX4_isNumber_0 rfl ?_
  refine xw_if_lt (tgt := 14) dX4_isNumber_1 (by decide) (fun c1 => ?_) (fun c1 => ?_)
  · refine xw_iconst (v := 0) dX4_isNumber_14 (by decide) ?_
    refine xw_iretz dX4_isNumber_15 rfl (Or.inl rfl) (Or.inr ⟨?_, rfl, rfl⟩)
    first | assumption | grind
  · refine xw_iload_n dX4_isNumber_4 rfl ?_
    refine xw_bipush (v := 6) dX4_isNumber_5 (by decide) ?_
    refine xw_icmp_ge (tgt := 14) dX4_isNumber_7 (by decide) (fun c7 => ?_) (fun c7 => ?_)
    · refine xw_iconst (v := 0) dX4_isNumber_14 (by decide) ?_
      refine xw_iretz dX4_isNumber_15 rfl (Or.inl rfl) (Or.inr ⟨?_, rfl, rfl⟩)
      first | assumption | grind
    · refine xw_iconst (v := 1) dX4_isNumber_10 (by decide) ?_
      refine xw_goto (tgt := 15) dX4_isNumber_11 (by decide) ?_
      refine xw_iretz dX4_isNumber_15 rfl (Or.inr rfl) (Or.inl ⟨?_, rfl, rfl⟩)
      first | assumption | grind
set_option maxRecDepth 20000 in
theorem s_X4_parentOf {k : Nat} (hk : k < 6) : XC g l mX4_parentOf d [xi (nI k)] M (XE (some (xi (nI (abv k)))) M) := by
  show XW g l mX4_parentOf _ 0 [some (xi (nI k))] [] M _
  refine xw_getsT (j := 0) dX4_parentOf_0 (by decide) fs_X4_9 ?_
  refine xw_iload_n dX4_parentOf_3 rfl ?_
  refine xw_ialTN (j := 0) _ dX4_parentOf_4 rfl (by decide) (rfl) (rfl) ?_ ?_
  · omega
  refine xw_ireti dX4_parentOf_5 rfl ?_
  exact ⟨by rcases k6 hk with rfl | rfl | rfl | rfl | rfl | rfl <;> rfl, rfl⟩
set_option maxRecDepth 20000 in
theorem s_X8_above {k : Nat} (hk : k < 6) : XC g l mX8_above d [xi (nI k)] M (XE (some (xi (nI (abv k)))) M) := by
  show XW g l mX8_above _ 0 [some (xi (nI k))] [] M _
  refine xw_iload_n dX8_above_0 rfl ?_
  refine xw_iconst (v := 5) dX8_above_1 (by decide) ?_
  refine xw_icmp_neN (b := 5) (tgt := 9) dX8_above_2 (by decide) (by omega) (fun c2 => ?_) (fun c2 => ?_)
  · refine xw_iload_n dX8_above_9 rfl ?_
    refine xw_iconst (v := 4) dX8_above_10 (by decide) ?_
    refine xw_icmp_eqN (b := 4) (tgt := 19) dX8_above_11 (by decide) (by omega) (fun c11 => ?_) (fun c11 => ?_)
    · refine xw_iconst (v := 2) dX8_above_19 (by decide) ?_
      refine xw_goto (tgt := 24) dX8_above_20 (by decide) ?_
      refine xw_ireti dX8_above_24 rfl ?_
      exact ⟨by rcases k6 hk with rfl | rfl | rfl | rfl | rfl | rfl <;> first | rfl | (exfalso; omega), rfl⟩
    · refine xw_iload_n dX8_above_14 rfl ?_
      refine xw_iconst (v := 3) dX8_above_15 (by decide) ?_
      refine xw_icmp_neN (b := 3) (tgt := 23) dX8_above_16 (by decide) (by omega) (fun c16 => ?_) (fun c16 => ?_)
      · refine xw_iconst (v := 0) dX8_above_23 (by decide) ?_
        refine xw_ireti dX8_above_24 rfl ?_
        exact ⟨by rcases k6 hk with rfl | rfl | rfl | rfl | rfl | rfl <;> first | rfl | (exfalso; omega), rfl⟩
      · refine xw_iconst (v := 2) dX8_above_19 (by decide) ?_
        refine xw_goto (tgt := 24) dX8_above_20 (by decide) ?_
        refine xw_ireti dX8_above_24 rfl ?_
        exact ⟨by rcases k6 hk with rfl | rfl | rfl | rfl | rfl | rfl <;> first | rfl | (exfalso; omega), rfl⟩
  · refine xw_iconst (v := 4) dX8_above_5 (by decide) ?_
    refine xw_goto (tgt := 24) dX8_above_6 (by decide) ?_
    refine xw_ireti dX8_above_24 rfl ?_
    exact ⟨by rcases k6 hk with rfl | rfl | rfl | rfl | rfl | rfl <;> first | rfl | (exfalso; omega), rfl⟩
theorem abv_lt (k : Nat) : abv k < 6 := by unfold abv; split <;> (try split) <;> omega
theorem isK_step {own k : Nat} (ho : own < 6) (h : k ≠ own) : isK own k ↔ isK (abv own) k := by
  unfold isK
  rcases k6 ho with rfl | rfl | rfl | rfl | rfl | rfl <;> simp [abv] at h ⊢ <;> omega
def dep (k : Nat) : Nat := if k = 0 then 0 else if k ≤ 2 then 1 else if k ≤ 4 then 2 else 3
theorem dep_abv {k : Nat} (h : k < 6) : dep (abv k) ≤ dep k - 1 := by rcases k6 h with rfl | rfl | rfl | rfl | rfl | rfl <;> decide
theorem dep_0 {k : Nat} (h : k < 6) (hd : dep k ≤ 0) : k = 0 := by rcases k6 h with rfl | rfl | rfl | rfl | rfl | rfl <;> first | rfl | exact absurd hd (by decide)
theorem isK_0 {k : Nat} : isK 0 k ↔ k = 0 := by unfold isK; simp [abv]
set_option maxRecDepth 20000 in
theorem lp_X4_isOne {own k : Nat} (hk : k < 6) : ∀ (p q c : Nat), q + p = 6 → c < 6 → dep c ≤ p → XW g l mX4_isOne (d + 1) 4 [some (xi (nI own)), some (xi (nI k)), some (xi (nI c)), some (xi (nI q))] [] M (XB (isK c k) M M) := by
  intro p
  induction p with
  | zero =>
    intro q c hq hc h0
    have h9 : c = 0 := dep_0 hc h0
    subst h9
    have e9 := isK_0 (k := k)
    refine xw_iload_n dX4_isOne_4 rfl ?_
    refine xw_bipush (v := 6) dX4_isOne_5 (by decide) ?_
    refine xw_icmp_geN (b := 6) (tgt := 26) dX4_isOne_7 (by decide) (by omega) (fun c7 => ?_) (fun c7 => ?_)
    · refine xw_iload_n dX4_isOne_26 rfl ?_
      refine xw_iload_n dX4_isOne_27 rfl ?_
      refine xw_icmp_neN (tgt := 35) dX4_isOne_28 (by decide) (by omega) (fun c28 => ?_) (fun c28 => ?_)
      · refine xw_iconst (v := 0) dX4_isOne_35 (by decide) ?_
        refine xw_iretz dX4_isOne_36 rfl (Or.inl rfl) (Or.inr ⟨?_, rfl, rfl⟩)
        rw [e9]
        omega
      · refine xw_iconst (v := 1) dX4_isOne_31 (by decide) ?_
        refine xw_goto (tgt := 36) dX4_isOne_32 (by decide) ?_
        refine xw_iretz dX4_isOne_36 rfl (Or.inr rfl) (Or.inl ⟨?_, rfl, rfl⟩)
        rw [e9]
        omega
    · exfalso; omega
  | succ p ih =>
    intro q c hq hc h0
    have e8 : dep (abv c) ≤ p := by have := dep_abv hc; omega
    refine xw_iload_n dX4_isOne_4 rfl ?_
    refine xw_bipush (v := 6) dX4_isOne_5 (by decide) ?_
    refine xw_icmp_geN (b := 6) (tgt := 26) dX4_isOne_7 (by decide) (by omega) (fun c7 => ?_) (fun c7 => ?_)
    · exfalso; omega
    · refine xw_iload_n dX4_isOne_10 rfl ?_
      refine xw_iload_n dX4_isOne_11 rfl ?_
      refine xw_icmp_eqN (tgt := 26) dX4_isOne_12 (by decide) (by omega) (fun c12 => ?_) (fun c12 => ?_)
      · refine xw_iload_n dX4_isOne_26 rfl ?_
        refine xw_iload_n dX4_isOne_27 rfl ?_
        refine xw_icmp_neN (tgt := 35) dX4_isOne_28 (by decide) (by omega) (fun c28 => ?_) (fun c28 => ?_)
        · refine xw_iconst (v := 0) dX4_isOne_35 (by decide) ?_
          refine xw_iretz dX4_isOne_36 rfl (Or.inl rfl) (Or.inr ⟨?_, rfl, rfl⟩)
          unfold isK
          omega
        · refine xw_iconst (v := 1) dX4_isOne_31 (by decide) ?_
          refine xw_goto (tgt := 36) dX4_isOne_32 (by decide) ?_
          refine xw_iretz dX4_isOne_36 rfl (Or.inr rfl) (Or.inl ⟨?_, rfl, rfl⟩)
          unfold isK
          omega
      · refine xw_iload_n dX4_isOne_15 rfl ?_
        refine xw_cS1E dX4_isOne_16 okX4_parentOf ml_X4_13 rfl rfl (s_X4_parentOf hc) ?_
        refine xw_istore_n dX4_isOne_19 rfl rfl ?_
        refine xw_iincN (v := 1) dX4_isOne_20 (by decide) rfl rfl rfl ?_
        refine xw_goto (tgt := 4) dX4_isOne_23 (by decide) ?_
        have e7 := isK_step (own := c) (k := k) hc (fun z => c12 z.symm)
        exact (ih (q + 1) (abv c) (by omega) (abv_lt c) e8).mono (fun r M2 z => by
          rcases z with ⟨z1, z2⟩ | ⟨z1, z2⟩
          · exact Or.inl ⟨e7.mpr z1, z2⟩
          · exact Or.inr ⟨fun w => z1 (e7.mp w), z2⟩)
set_option maxRecDepth 20000 in
theorem s_X4_isOne {own k : Nat} (ho : own < 6) (hk : k < 6) : XC g l mX4_isOne (d + 1) [xi (nI own), xi (nI k)] M (XB (isK own k) M M) := by
  have e0 : dep own ≤ 6 := by rcases k6 ho with rfl | rfl | rfl | rfl | rfl | rfl <;> decide
  show XW g l mX4_isOne _ 0 [some (xi (nI own)), some (xi (nI k)), none, none] [] M _
  refine xw_iload_n dX4_isOne_0 rfl ?_
  refine xw_istore_n dX4_isOne_1 rfl rfl ?_
  refine xw_iconst (v := 0) dX4_isOne_2 (by decide) ?_
  refine xw_istore_n dX4_isOne_3 rfl rfl ?_
  exact lp_X4_isOne hk 6 0 own (by omega) ho e0
set_option maxRecDepth 20000 in
theorem lp_X8_isKind {own k : Nat} (hk : k < 6) : ∀ (p c : Nat), c < 6 → dep c ≤ p → XW g l mX8_isKind (d + 1) 2 [some (xi (nI own)), some (xi (nI k)), some (xi (nI c))] [] M (XB (isK c k) M M) := by
  intro p
  induction p with
  | zero =>
    intro c hc h0
    have h9 : c = 0 := dep_0 hc h0
    subst h9
    have e9 := isK_0 (k := k)
    refine xw_iload_n dX8_isKind_2 rfl ?_
    refine xw_iload_n dX8_isKind_3 rfl ?_
    refine xw_icmp_eqN (tgt := 19) dX8_isKind_4 (by decide) (by omega) (fun c4 => ?_) (fun c4 => ?_)
    · refine xw_iload_n dX8_isKind_19 rfl ?_
      refine xw_iload_n dX8_isKind_20 rfl ?_
      refine xw_icmp_neN (tgt := 28) dX8_isKind_21 (by decide) (by omega) (fun c21 => ?_) (fun c21 => ?_)
      · refine xw_iconst (v := 0) dX8_isKind_28 (by decide) ?_
        refine xw_iretz dX8_isKind_29 rfl (Or.inl rfl) (Or.inr ⟨?_, rfl, rfl⟩)
        rw [e9]
        omega
      · refine xw_iconst (v := 1) dX8_isKind_24 (by decide) ?_
        refine xw_goto (tgt := 29) dX8_isKind_25 (by decide) ?_
        refine xw_iretz dX8_isKind_29 rfl (Or.inr rfl) (Or.inl ⟨?_, rfl, rfl⟩)
        rw [e9]
        omega
    · refine xw_iload_n dX8_isKind_7 rfl ?_
      refine xw_if_eqN (tgt := 19) dX8_isKind_8 (by decide) (by omega) (fun c8 => ?_) (fun c8 => ?_)
      · refine xw_iload_n dX8_isKind_19 rfl ?_
        refine xw_iload_n dX8_isKind_20 rfl ?_
        refine xw_icmp_neN (tgt := 28) dX8_isKind_21 (by decide) (by omega) (fun c21 => ?_) (fun c21 => ?_)
        · refine xw_iconst (v := 0) dX8_isKind_28 (by decide) ?_
          refine xw_iretz dX8_isKind_29 rfl (Or.inl rfl) (Or.inr ⟨?_, rfl, rfl⟩)
          rw [e9]
          omega
        · refine xw_iconst (v := 1) dX8_isKind_24 (by decide) ?_
          refine xw_goto (tgt := 29) dX8_isKind_25 (by decide) ?_
          refine xw_iretz dX8_isKind_29 rfl (Or.inr rfl) (Or.inl ⟨?_, rfl, rfl⟩)
          rw [e9]
          omega
      · exfalso; omega
  | succ p ih =>
    intro c hc h0
    have e8 : dep (abv c) ≤ p := by have := dep_abv hc; omega
    refine xw_iload_n dX8_isKind_2 rfl ?_
    refine xw_iload_n dX8_isKind_3 rfl ?_
    refine xw_icmp_eqN (tgt := 19) dX8_isKind_4 (by decide) (by omega) (fun c4 => ?_) (fun c4 => ?_)
    · refine xw_iload_n dX8_isKind_19 rfl ?_
      refine xw_iload_n dX8_isKind_20 rfl ?_
      refine xw_icmp_neN (tgt := 28) dX8_isKind_21 (by decide) (by omega) (fun c21 => ?_) (fun c21 => ?_)
      · refine xw_iconst (v := 0) dX8_isKind_28 (by decide) ?_
        refine xw_iretz dX8_isKind_29 rfl (Or.inl rfl) (Or.inr ⟨?_, rfl, rfl⟩)
        first | (unfold isK; omega) | (rw [show c = 0 by omega, isK_0]; omega)
      · refine xw_iconst (v := 1) dX8_isKind_24 (by decide) ?_
        refine xw_goto (tgt := 29) dX8_isKind_25 (by decide) ?_
        refine xw_iretz dX8_isKind_29 rfl (Or.inr rfl) (Or.inl ⟨?_, rfl, rfl⟩)
        first | (unfold isK; omega) | (rw [show c = 0 by omega, isK_0]; omega)
    · refine xw_iload_n dX8_isKind_7 rfl ?_
      refine xw_if_eqN (tgt := 19) dX8_isKind_8 (by decide) (by omega) (fun c8 => ?_) (fun c8 => ?_)
      · refine xw_iload_n dX8_isKind_19 rfl ?_
        refine xw_iload_n dX8_isKind_20 rfl ?_
        refine xw_icmp_neN (tgt := 28) dX8_isKind_21 (by decide) (by omega) (fun c21 => ?_) (fun c21 => ?_)
        · refine xw_iconst (v := 0) dX8_isKind_28 (by decide) ?_
          refine xw_iretz dX8_isKind_29 rfl (Or.inl rfl) (Or.inr ⟨?_, rfl, rfl⟩)
          first | (unfold isK; omega) | (rw [show c = 0 by omega, isK_0]; omega)
        · refine xw_iconst (v := 1) dX8_isKind_24 (by decide) ?_
          refine xw_goto (tgt := 29) dX8_isKind_25 (by decide) ?_
          refine xw_iretz dX8_isKind_29 rfl (Or.inr rfl) (Or.inl ⟨?_, rfl, rfl⟩)
          first | (unfold isK; omega) | (rw [show c = 0 by omega, isK_0]; omega)
      · refine xw_iload_n dX8_isKind_11 rfl ?_
        refine xw_cS1E dX8_isKind_12 okX8_above ml_X8_246 rfl rfl (s_X8_above hc) ?_
        refine xw_istore_n dX8_isKind_15 rfl rfl ?_
        refine xw_goto (tgt := 2) dX8_isKind_16 (by decide) ?_
        have e7 := isK_step (own := c) (k := k) hc (fun z => c4 z.symm)
        exact (ih (abv c) (abv_lt c) e8).mono (fun r M2 z => by
          rcases z with ⟨z1, z2⟩ | ⟨z1, z2⟩
          · exact Or.inl ⟨e7.mpr z1, z2⟩
          · exact Or.inr ⟨fun w => z1 (e7.mp w), z2⟩)
set_option maxRecDepth 20000 in
theorem s_X8_isKind {own k : Nat} (ho : own < 6) (hk : k < 6) : XC g l mX8_isKind (d + 1) [xi (nI own), xi (nI k)] M (XB (isK own k) M M) := by
  show XW g l mX8_isKind _ 0 [some (xi (nI own)), some (xi (nI k)), none] [] M _
  refine xw_iload_n dX8_isKind_0 rfl ?_
  refine xw_istore_n dX8_isKind_1 rfl rfl ?_
  exact lp_X8_isKind hk (dep own) own ho (Nat.le_refl _)
set_option maxRecDepth 20000 in
theorem k_X7_as_bad {a k : Int32} (h : ¬ ((0 ≤ a ∧ a < M.1 8 2) ∧ 0 ≤ k ∧ k < 6)) : XC g l mX7_as (d + 2) [xr 0, xi a, xi k] M (XE (some (xi (-1000001))) M) := by
  show XW g l mX7_as _ 0 [some (xr 0), some (xi a), some (xi k)] [] M _
  refine xw_aload_n dX7_as_0 rfl ?_
  refine xw_getR dX7_as_1 fl_X7_26 rfl rfl ?_
  refine xw_iload_n dX7_as_4 rfl ?_
  refine xw_cV1B dX7_as_5 okX1_isHouse ml_X7_133 rfl rfl rfl rfl (s_X1_isHouse xf_8 _) (fun p5 => ?_) (fun p5 => ?_)
  · refine xw_if_eq (tgt := 18) dX7_as_8 (by decide) (fun q9 => absurd q9 (by decide)) (fun _ => ?_)
    refine xw_iload_n dX7_as_11 rfl ?_
    refine xw_cS1B dX7_as_12 okX4_isNumber ml_X7_227 rfl rfl (s_X4_isNumber _) (fun p12 => ?_) (fun p12 => ?_)
    · exfalso; first | contradiction | omega | grind | simp_all
    · refine xw_if_ne (tgt := 21) dX7_as_15 (by decide) (fun q9 => absurd q9 (by decide)) (fun _ => ?_)
      refine xw_ldc dX7_as_18 kc_X7_66 ?_
      refine xw_ireti dX7_as_20 rfl ?_
      first | exact ⟨rfl, rfl⟩ | exact ⟨by simp_all, rfl⟩ | grind [XE]
  · refine xw_if_eq (tgt := 18) dX7_as_8 (by decide) (fun _ => ?_) (fun q9 => absurd q9 (by decide))
    refine xw_ldc dX7_as_18 kc_X7_66 ?_
    refine xw_ireti dX7_as_20 rfl ?_
    first | exact ⟨rfl, rfl⟩ | exact ⟨by simp_all, rfl⟩ | grind [XE]
set_option maxRecDepth 20000 in
theorem k_X8_as_bad {n : Nat} {a k : Int32} (hN : M.1 54 3 = nI n) (hn6 : n ≤ 6) (h : ¬ ((0 ≤ a ∧ a < nI n) ∧ 0 ≤ k ∧ k < 6)) : XC g l mX8_as (d + 2) [xr 49, xi a, xi k] M (XE (some (xi (-1000001))) M) := by
  show XW g l mX8_as _ 0 [some (xr 49), some (xi a), some (xi k)] [] M _
  refine xw_aload_n dX8_as_0 rfl ?_
  refine xw_iload_n dX8_as_1 rfl ?_
  refine xw_cV1B dX8_as_2 okX8_isThere ml_X8_199 rfl rfl rfl rfl (s_X8_isThere hN hn6 _) (fun p2 => ?_) (fun p2 => ?_)
  · refine xw_if_eq (tgt := 17) dX8_as_5 (by decide) (fun q9 => absurd q9 (by decide)) (fun _ => ?_)
    refine xw_iload_n dX8_as_8 rfl ?_
    refine xw_iconst (v := 0) dX8_as_9 (by decide) ?_
    refine xw_iconst (v := 5) dX8_as_10 (by decide) ?_
    refine xw_cS3B dX8_as_11 okX8_in ml_X8_56 rfl rfl (s_X8_in _ _ _) (fun p11 => ?_) (fun p11 => ?_)
    · exfalso; first | contradiction | omega | grind | simp_all
    · refine xw_if_ne (tgt := 20) dX8_as_14 (by decide) (fun q9 => absurd q9 (by decide)) (fun _ => ?_)
      refine xw_ldc dX8_as_17 kc_X8_64 ?_
      refine xw_ireti dX8_as_19 rfl ?_
      first | exact ⟨rfl, rfl⟩ | exact ⟨by simp_all, rfl⟩ | grind [XE]
  · refine xw_if_eq (tgt := 17) dX8_as_5 (by decide) (fun _ => ?_) (fun q9 => absurd q9 (by decide))
    refine xw_ldc dX8_as_17 kc_X8_64 ?_
    refine xw_ireti dX8_as_19 rfl ?_
    first | exact ⟨rfl, rfl⟩ | exact ⟨by simp_all, rfl⟩ | grind [XE]
set_option maxRecDepth 20000 in
theorem k_X7_as_yes {k : Nat} {D : FD} {h : Nat} (hC : FCS M 8 D) (hh : h < dn D) (hk : k < 6) (hy : isK (dK D h) k) : XC g l mX7_as (d + 2) [xr 0, xi (nI h), xi (nI k)] M (XE (some (xi (nI h))) (xup M 0 7 0)) := by
  have hn6 := hC.1
  have hN := hC.2.2.2.1
  have hK := hC.2.2.2.2.2.2.2.2.1
  have hG := hC.2.2.2.2.2.2.2.2.2.2.2.2
  have e0 : 0 ≤ nI h ∧ nI h < M.1 8 2 := by rw [hN]; exact nI_in0 (by omega) hh
  have e6 : (0 : Int32) ≤ nI k ∧ nI k < 6 ∧ nI k ≤ 5 := ⟨nI_pos' (by omega), nI_lt (b := 6) hk (by decide), nI_le (b := 5) (by omega) (by decide)⟩
  have hK5 := (hG h hh).1
  show XW g l mX7_as _ 0 [some (xr 0), some (xi (nI h)), some (xi (nI k))] [] M _
  refine xw_aload_n dX7_as_0 rfl ?_
  refine xw_getR dX7_as_1 fl_X7_26 rfl rfl ?_
  refine xw_iload_n dX7_as_4 rfl ?_
  refine xw_cV1B dX7_as_5 okX1_isHouse ml_X7_133 rfl rfl rfl rfl (s_X1_isHouse xf_8 _) (fun p5 => ?_) (fun p5 => ?_)
  · refine xw_if_eq (tgt := 18) dX7_as_8 (by decide) (fun q9 => absurd q9 (by decide)) (fun _ => ?_)
    refine xw_iload_n dX7_as_11 rfl ?_
    refine xw_cS1B dX7_as_12 okX4_isNumber ml_X7_227 rfl rfl (s_X4_isNumber _) (fun p12 => ?_) (fun p12 => ?_)
    · refine xw_if_ne (tgt := 21) dX7_as_15 (by decide) (fun _ => ?_) (fun q9 => absurd q9 (by decide))
      refine xw_aload_n dX7_as_21 rfl ?_
      refine xw_getR dX7_as_22 fl_X7_26 rfl rfl ?_
      refine xw_getR dX7_as_25 fl_X7_224 rfl rfl ?_
      refine xw_iload_n dX7_as_28 rfl ?_
      refine xw_ialN _ dX7_as_29 rfl (rfl) (hK _ hh) rfl ?_ ?_
      · omega
      refine xw_iload_n dX7_as_30 rfl ?_
      refine xw_cS2B dX7_as_31 okX4_isOne ml_X7_230 rfl rfl (s_X4_isOne (by omega) hk) (fun p31 => ?_) (fun p31 => ?_)
      · refine xw_if_eq (tgt := 45) dX7_as_34 (by decide) (fun q9 => absurd q9 (by decide)) (fun _ => ?_)
        refine xw_aload_n dX7_as_37 rfl ?_
        refine xw_iload_n dX7_as_38 rfl ?_
        refine xw_cV1E dX7_as_39 okX7_answered ml_X7_75 rfl rfl rfl rfl (s_X7_answered _) ?_
        refine xw_goto (tgt := 50) dX7_as_42 (by decide) ?_
        refine xw_ireti dX7_as_50 rfl ?_
        first | exact ⟨rfl, rfl⟩ | exact ⟨by simp_all, rfl⟩ | grind [XE]
      · exfalso; first | contradiction | grind
    · exfalso; first | contradiction | grind
  · exfalso; first | contradiction | grind
set_option maxRecDepth 20000 in
theorem k_X8_as_yes {k : Nat} {D : FD} {h : Nat} (hC : FMS M 54 D) (hh : h < dn D) (hk : k < 6) (hy : isK (dK D h) k) : XC g l mX8_as (d + 2) [xr 49, xi (nI h), xi (nI k)] M (XE (some (xi (nI h))) (xup M 49 3 0)) := by
  have hn6 := hC.1
  have hN := hC.2.2.2.1
  have hK := hC.2.2.2.2.2.1
  have hG := hC.2.2.2.2.2.2.2.2.2
  have e0 : 0 ≤ nI h ∧ nI h < nI (dn D) := nI_in0 (by omega) hh
  have e6 : (0 : Int32) ≤ nI k ∧ nI k < 6 ∧ nI k ≤ 5 := ⟨nI_pos' (by omega), nI_lt (b := 6) hk (by decide), nI_le (b := 5) (by omega) (by decide)⟩
  have hK5 := (hG h hh).1
  show XW g l mX8_as _ 0 [some (xr 49), some (xi (nI h)), some (xi (nI k))] [] M _
  refine xw_aload_n dX8_as_0 rfl ?_
  refine xw_iload_n dX8_as_1 rfl ?_
  refine xw_cV1B dX8_as_2 okX8_isThere ml_X8_199 rfl rfl rfl rfl (s_X8_isThere hN hn6 _) (fun p2 => ?_) (fun p2 => ?_)
  · refine xw_if_eq (tgt := 17) dX8_as_5 (by decide) (fun q9 => absurd q9 (by decide)) (fun _ => ?_)
    refine xw_iload_n dX8_as_8 rfl ?_
    refine xw_iconst (v := 0) dX8_as_9 (by decide) ?_
    refine xw_iconst (v := 5) dX8_as_10 (by decide) ?_
    refine xw_cS3B dX8_as_11 okX8_in ml_X8_56 rfl rfl (s_X8_in _ _ _) (fun p11 => ?_) (fun p11 => ?_)
    · refine xw_if_ne (tgt := 20) dX8_as_14 (by decide) (fun _ => ?_) (fun q9 => absurd q9 (by decide))
      refine xw_aload_n dX8_as_20 rfl ?_
      refine xw_getR dX8_as_21 fl_X8_22 rfl rfl ?_
      refine xw_iconst (v := 4) dX8_as_24 (by decide) ?_
      refine xw_iload_n dX8_as_25 rfl ?_
      refine xw_iaddN (a := 4) dX8_as_26 ?_
      refine xw_ialN _ dX8_as_27 rfl (rfl) (hK _ hh) rfl ?_ ?_
      · omega
      refine xw_iload_n dX8_as_28 rfl ?_
      refine xw_cS2B dX8_as_29 okX8_isKind ml_X8_249 rfl rfl (s_X8_isKind (by omega) hk) (fun p29 => ?_) (fun p29 => ?_)
      · refine xw_if_eq (tgt := 43) dX8_as_32 (by decide) (fun q9 => absurd q9 (by decide)) (fun _ => ?_)
        refine xw_aload_n dX8_as_35 rfl ?_
        refine xw_iload_n dX8_as_36 rfl ?_
        refine xw_cV1E dX8_as_37 okX8_did ml_X8_69 rfl rfl rfl rfl (s_X8_did _) ?_
        refine xw_goto (tgt := 48) dX8_as_40 (by decide) ?_
        refine xw_ireti dX8_as_48 rfl ?_
        first | exact ⟨rfl, rfl⟩ | exact ⟨by simp_all, rfl⟩ | grind [XE]
      · exfalso; first | contradiction | grind
    · exfalso; first | contradiction | grind
  · exfalso; first | contradiction | grind
set_option maxRecDepth 20000 in
theorem k_X7_as_no {k : Nat} {D : FD} {h : Nat} (hC : FCS M 8 D) (hh : h < dn D) (hk : k < 6) (hy : ¬ isK (dK D h) k) : XC g l mX7_as (d + 2) [xr 0, xi (nI h), xi (nI k)] M (XE (some (xi (-1000013))) (xup M 0 7 3)) := by
  have hn6 := hC.1
  have hN := hC.2.2.2.1
  have hK := hC.2.2.2.2.2.2.2.2.1
  have hG := hC.2.2.2.2.2.2.2.2.2.2.2.2
  have e0 : 0 ≤ nI h ∧ nI h < M.1 8 2 := by rw [hN]; exact nI_in0 (by omega) hh
  have e6 : (0 : Int32) ≤ nI k ∧ nI k < 6 ∧ nI k ≤ 5 := ⟨nI_pos' (by omega), nI_lt (b := 6) hk (by decide), nI_le (b := 5) (by omega) (by decide)⟩
  have hK5 := (hG h hh).1
  show XW g l mX7_as _ 0 [some (xr 0), some (xi (nI h)), some (xi (nI k))] [] M _
  refine xw_aload_n dX7_as_0 rfl ?_
  refine xw_getR dX7_as_1 fl_X7_26 rfl rfl ?_
  refine xw_iload_n dX7_as_4 rfl ?_
  refine xw_cV1B dX7_as_5 okX1_isHouse ml_X7_133 rfl rfl rfl rfl (s_X1_isHouse xf_8 _) (fun p5 => ?_) (fun p5 => ?_)
  · refine xw_if_eq (tgt := 18) dX7_as_8 (by decide) (fun q9 => absurd q9 (by decide)) (fun _ => ?_)
    refine xw_iload_n dX7_as_11 rfl ?_
    refine xw_cS1B dX7_as_12 okX4_isNumber ml_X7_227 rfl rfl (s_X4_isNumber _) (fun p12 => ?_) (fun p12 => ?_)
    · refine xw_if_ne (tgt := 21) dX7_as_15 (by decide) (fun _ => ?_) (fun q9 => absurd q9 (by decide))
      refine xw_aload_n dX7_as_21 rfl ?_
      refine xw_getR dX7_as_22 fl_X7_26 rfl rfl ?_
      refine xw_getR dX7_as_25 fl_X7_224 rfl rfl ?_
      refine xw_iload_n dX7_as_28 rfl ?_
      refine xw_ialN _ dX7_as_29 rfl (rfl) (hK _ hh) rfl ?_ ?_
      · omega
      refine xw_iload_n dX7_as_30 rfl ?_
      refine xw_cS2B dX7_as_31 okX4_isOne ml_X7_230 rfl rfl (s_X4_isOne (by omega) hk) (fun p31 => ?_) (fun p31 => ?_)
      · exfalso; first | contradiction | grind
      · refine xw_if_eq (tgt := 45) dX7_as_34 (by decide) (fun _ => ?_) (fun q9 => absurd q9 (by decide))
        refine xw_aload_n dX7_as_45 rfl ?_
        refine xw_iconst (v := 3) dX7_as_46 (by decide) ?_
        refine xw_cV1E dX7_as_47 okX7_found ml_X7_67 rfl rfl rfl rfl (s_X7_found _) ?_
        refine xw_ireti dX7_as_50 rfl ?_
        first | exact ⟨rfl, rfl⟩ | exact ⟨by simp_all, rfl⟩ | grind [XE]
    · exfalso; first | contradiction | grind
  · exfalso; first | contradiction | grind
set_option maxRecDepth 20000 in
theorem k_X8_as_no {k : Nat} {D : FD} {h : Nat} (hC : FMS M 54 D) (hh : h < dn D) (hk : k < 6) (hy : ¬ isK (dK D h) k) : XC g l mX8_as (d + 2) [xr 49, xi (nI h), xi (nI k)] M (XE (some (xi (-1000013))) (xup M 49 3 3)) := by
  have hn6 := hC.1
  have hN := hC.2.2.2.1
  have hK := hC.2.2.2.2.2.1
  have hG := hC.2.2.2.2.2.2.2.2.2
  have e0 : 0 ≤ nI h ∧ nI h < nI (dn D) := nI_in0 (by omega) hh
  have e6 : (0 : Int32) ≤ nI k ∧ nI k < 6 ∧ nI k ≤ 5 := ⟨nI_pos' (by omega), nI_lt (b := 6) hk (by decide), nI_le (b := 5) (by omega) (by decide)⟩
  have hK5 := (hG h hh).1
  show XW g l mX8_as _ 0 [some (xr 49), some (xi (nI h)), some (xi (nI k))] [] M _
  refine xw_aload_n dX8_as_0 rfl ?_
  refine xw_iload_n dX8_as_1 rfl ?_
  refine xw_cV1B dX8_as_2 okX8_isThere ml_X8_199 rfl rfl rfl rfl (s_X8_isThere hN hn6 _) (fun p2 => ?_) (fun p2 => ?_)
  · refine xw_if_eq (tgt := 17) dX8_as_5 (by decide) (fun q9 => absurd q9 (by decide)) (fun _ => ?_)
    refine xw_iload_n dX8_as_8 rfl ?_
    refine xw_iconst (v := 0) dX8_as_9 (by decide) ?_
    refine xw_iconst (v := 5) dX8_as_10 (by decide) ?_
    refine xw_cS3B dX8_as_11 okX8_in ml_X8_56 rfl rfl (s_X8_in _ _ _) (fun p11 => ?_) (fun p11 => ?_)
    · refine xw_if_ne (tgt := 20) dX8_as_14 (by decide) (fun _ => ?_) (fun q9 => absurd q9 (by decide))
      refine xw_aload_n dX8_as_20 rfl ?_
      refine xw_getR dX8_as_21 fl_X8_22 rfl rfl ?_
      refine xw_iconst (v := 4) dX8_as_24 (by decide) ?_
      refine xw_iload_n dX8_as_25 rfl ?_
      refine xw_iaddN (a := 4) dX8_as_26 ?_
      refine xw_ialN _ dX8_as_27 rfl (rfl) (hK _ hh) rfl ?_ ?_
      · omega
      refine xw_iload_n dX8_as_28 rfl ?_
      refine xw_cS2B dX8_as_29 okX8_isKind ml_X8_249 rfl rfl (s_X8_isKind (by omega) hk) (fun p29 => ?_) (fun p29 => ?_)
      · exfalso; first | contradiction | grind
      · refine xw_if_eq (tgt := 43) dX8_as_32 (by decide) (fun _ => ?_) (fun q9 => absurd q9 (by decide))
        refine xw_aload_n dX8_as_43 rfl ?_
        refine xw_iconst (v := 3) dX8_as_44 (by decide) ?_
        refine xw_cV1E dX8_as_45 okX8_finds ml_X8_65 rfl rfl rfl rfl (s_X8_finds _) ?_
        refine xw_ireti dX8_as_48 rfl ?_
        first | exact ⟨rfl, rfl⟩ | exact ⟨by simp_all, rfl⟩ | grind [XE]
    · exfalso; first | contradiction | grind
  · exfalso; first | contradiction | grind
set_option maxRecDepth 20000 in
theorem k_X7_cell_state {c : Int32} (h : ¬ 0 < M.1 8 2) : XC g l mX7_cell (d + 3) [xr 0, xi c] M (XE (some (xi (-1000002))) M) := by
  show XW g l mX7_cell _ 0 [some (xr 0), some (xi c)] [] M _
  refine xw_aload_n dX7_cell_0 rfl ?_
  refine xw_getR dX7_cell_1 fl_X7_26 rfl rfl ?_
  refine xw_cV0B dX7_cell_4 okX1_isThere ml_X7_148 rfl rfl rfl rfl (s_X1_isThere xf_8) (fun p4 => ?_) (fun p4 => ?_)
  · exfalso; first | contradiction | omega | grind | simp_all
  · refine xw_if_ne (tgt := 13) dX7_cell_7 (by decide) (fun q9 => absurd q9 (by decide)) (fun _ => ?_)
    refine xw_ldc dX7_cell_10 kc_X7_143 ?_
    refine xw_ireti dX7_cell_12 rfl ?_
    first | exact ⟨rfl, rfl⟩ | exact ⟨by simp_all, rfl⟩ | grind [XE]
set_option maxRecDepth 20000 in
theorem k_X7_cell_bad {c : Int32} (h : 0 < M.1 8 2) (h2 : ¬ (0 ≤ c ∧ c < 128)) : XC g l mX7_cell (d + 3) [xr 0, xi c] M (XE (some (xi (-1000001))) M) := by
  show XW g l mX7_cell _ 0 [some (xr 0), some (xi c)] [] M _
  refine xw_aload_n dX7_cell_0 rfl ?_
  refine xw_getR dX7_cell_1 fl_X7_26 rfl rfl ?_
  refine xw_cV0B dX7_cell_4 okX1_isThere ml_X7_148 rfl rfl rfl rfl (s_X1_isThere xf_8) (fun p4 => ?_) (fun p4 => ?_)
  · refine xw_if_ne (tgt := 13) dX7_cell_7 (by decide) (fun _ => ?_) (fun q9 => absurd q9 (by decide))
    refine xw_iload_n dX7_cell_13 rfl ?_
    refine xw_if_lt (tgt := 24) dX7_cell_14 (by decide) (fun c14 => ?_) (fun c14 => ?_)
    · refine xw_ldc dX7_cell_24 kc_X7_66 ?_
      refine xw_ireti dX7_cell_26 rfl ?_
      first | exact ⟨rfl, rfl⟩ | exact ⟨by simp_all, rfl⟩ | grind [XE]
    · refine xw_iload_n dX7_cell_17 rfl ?_
      refine xw_sipush (v := 128) dX7_cell_18 (by decide) ?_
      refine xw_icmp_lt (tgt := 27) dX7_cell_21 (by decide) (fun c21 => ?_) (fun c21 => ?_)
      · exfalso; first | contradiction | omega | grind | simp_all
      · refine xw_ldc dX7_cell_24 kc_X7_66 ?_
        refine xw_ireti dX7_cell_26 rfl ?_
        first | exact ⟨rfl, rfl⟩ | exact ⟨by simp_all, rfl⟩ | grind [XE]
  · exfalso; first | contradiction | omega | grind | simp_all
set_option maxRecDepth 20000 in
theorem k_X7_cell_ok {D : FD} {P c : Nat} (h : 0 < M.1 8 2) (hC : FCS M 8 D) (hX : M.1 8 3 = nI P) (hP : P < 2 ^ 24) (hc : c < 128) : XC g l mX7_cell (d + 3) [xr 0, xi (nI c)] M (XE (some (xi (cellV D P (c % 16) (c / 16)))) M) := by
  show XW g l mX7_cell _ 0 [some (xr 0), some (xi (nI c))] [] M _
  refine xw_aload_n dX7_cell_0 rfl ?_
  refine xw_getR dX7_cell_1 fl_X7_26 rfl rfl ?_
  refine xw_cV0B dX7_cell_4 okX1_isThere ml_X7_148 rfl rfl rfl rfl (s_X1_isThere xf_8) (fun p4 => ?_) (fun p4 => ?_)
  · refine xw_if_ne (tgt := 13) dX7_cell_7 (by decide) (fun _ => ?_) (fun q9 => absurd q9 (by decide))
    refine xw_iload_n dX7_cell_13 rfl ?_
    refine xw_if_ltN (tgt := 24) dX7_cell_14 (by decide) (by omega) ?_
    refine xw_iload_n dX7_cell_17 rfl ?_
    refine xw_sipush (v := 128) dX7_cell_18 (by decide) ?_
    refine xw_icmp_ltN (b := 128) (tgt := 27) dX7_cell_21 (by decide) (by omega) (fun c21 => ?_) (fun c21 => ?_)
    · refine xw_aload_n dX7_cell_27 rfl ?_
      refine xw_getR dX7_cell_28 fl_X7_26 rfl rfl ?_
      refine xw_iload_n dX7_cell_31 rfl ?_
      refine xw_bipush (v := 16) dX7_cell_32 (by decide) ?_
      refine xw_iremN (b := 16) dX7_cell_34 (by omega) ?_
      refine xw_iload_n dX7_cell_35 rfl ?_
      refine xw_bipush (v := 16) dX7_cell_36 (by decide) ?_
      refine xw_idivN (b := 16) dX7_cell_38 (by omega) ?_
      refine xw_cV2E dX7_cell_39 okX1_contentOf ml_X7_188 rfl rfl rfl rfl (s_X1_contentOf xf_8 hC hX hP (by omega) (by omega)) ?_
      refine xw_ireti dX7_cell_42 rfl ?_
      first | exact ⟨rfl, rfl⟩ | exact ⟨by simp_all, rfl⟩ | grind [XE]
    · exfalso; first | contradiction | omega
  · exfalso; first | contradiction | omega
set_option maxRecDepth 20000 in
theorem k_X8_cell_state {c : Int32} (h : M.1 54 0 = 0) : XC g l mX8_cell (d + 2) [xr 49, xi c] M (XE (some (xi (-1000002))) M) := by
  show XW g l mX8_cell _ 0 [some (xr 49), some (xi c), none, none] [] M _
  refine xw_aload_n dX8_cell_0 rfl ?_
  refine xw_getR dX8_cell_1 fl_X8_22 rfl rfl ?_
  refine xw_iconst (v := 0) dX8_cell_4 (by decide) ?_
  refine xw_ialN 0 dX8_cell_5 rfl (rfl) (rfl) rfl ?_ ?_
  · omega
  refine xw_if_ne (tgt := 12) dX8_cell_6 (by decide) (fun c6 => ?_) (fun c6 => ?_)
  · exfalso; first | contradiction | omega | grind | simp_all
  · refine xw_ldc dX8_cell_9 kc_X8_205 ?_
    refine xw_ireti dX8_cell_11 rfl ?_
    first | exact ⟨rfl, rfl⟩ | exact ⟨by simp_all, rfl⟩ | grind [XE]
set_option maxRecDepth 20000 in
theorem k_X8_cell_bad {c : Int32} (h : ¬ M.1 54 0 = 0) (h2 : ¬ (0 ≤ c ∧ c < 128)) : XC g l mX8_cell (d + 2) [xr 49, xi c] M (XE (some (xi (-1000001))) M) := by
  show XW g l mX8_cell _ 0 [some (xr 49), some (xi c), none, none] [] M _
  refine xw_aload_n dX8_cell_0 rfl ?_
  refine xw_getR dX8_cell_1 fl_X8_22 rfl rfl ?_
  refine xw_iconst (v := 0) dX8_cell_4 (by decide) ?_
  refine xw_ialN 0 dX8_cell_5 rfl (rfl) (rfl) rfl ?_ ?_
  · omega
  refine xw_if_ne (tgt := 12) dX8_cell_6 (by decide) (fun c6 => ?_) (fun c6 => ?_)
  · refine xw_iload_n dX8_cell_12 rfl ?_
    refine xw_iconst (v := 0) dX8_cell_13 (by decide) ?_
    refine xw_bipush (v := 127) dX8_cell_14 (by decide) ?_
    refine xw_cS3B dX8_cell_16 okX8_in ml_X8_56 rfl rfl (s_X8_in _ _ _) (fun p16 => ?_) (fun p16 => ?_)
    · exfalso; first | contradiction | omega | grind | simp_all
    · refine xw_if_ne (tgt := 25) dX8_cell_19 (by decide) (fun q9 => absurd q9 (by decide)) (fun _ => ?_)
      refine xw_ldc dX8_cell_22 kc_X8_64 ?_
      refine xw_ireti dX8_cell_24 rfl ?_
      first | exact ⟨rfl, rfl⟩ | exact ⟨by simp_all, rfl⟩ | grind [XE]
  · exfalso; first | contradiction | omega | grind | simp_all
set_option maxRecDepth 20000 in
theorem k_X8_cell_ok {D : FD} {P c : Nat} (h : ¬ M.1 54 0 = 0) (hC : FMS M 54 D) (hX : XMP M 54 P) (hc : c < 128) : XC g l mX8_cell (d + 2) [xr 49, xi (nI c)] M (XE (some (xi (cellV D P (c % 16) (c / 16)))) M) := by
  have hn6 := hC.1
  have hB := hC.2.2.1.1
  have hB2 := hC.2.2.1.2
  have hcl := hC.2.2.2.2.1 (c % 16) (c / 16) (by omega) (by omega)
  rw [show 40 + c % 16 + 16 * (c / 16) = 40 + c by omega] at hcl
  have e1 : (0 : Int32) ≤ nI c ∧ nI c ≤ 127 := ⟨nI_pos' (by omega), nI_le (b := 127) (by omega) (by decide)⟩
  have e2 := hW2_none (D := D) (P := P) (x := nI (c % 16)) (y := c / 16) hn6
  have hm1 := Nat.mod_lt (dwl D (c / 16) / 2 ^ (c % 16)) (show 2 > 0 by decide)
  have hm2 := Nat.mod_lt (dpt D (c / 16) / 2 ^ (c % 16)) (show 2 > 0 by decide)
  show XW g l mX8_cell _ 0 [some (xr 49), some (xi (nI c)), none, none] [] M _
  refine xw_aload_n dX8_cell_0 rfl ?_
  refine xw_getR dX8_cell_1 fl_X8_22 rfl rfl ?_
  refine xw_iconst (v := 0) dX8_cell_4 (by decide) ?_
  refine xw_ialN 0 dX8_cell_5 rfl (rfl) (rfl) rfl ?_ ?_
  · omega
  refine xw_if_ne (tgt := 12) dX8_cell_6 (by decide) (fun c6 => ?_) (fun c6 => ?_)
  · refine xw_iload_n dX8_cell_12 rfl ?_
    refine xw_iconst (v := 0) dX8_cell_13 (by decide) ?_
    refine xw_bipush (v := 127) dX8_cell_14 (by decide) ?_
    refine xw_cS3B dX8_cell_16 okX8_in ml_X8_56 rfl rfl (s_X8_in _ _ _) (fun p16 => ?_) (fun p16 => ?_)
    · refine xw_if_ne (tgt := 25) dX8_cell_19 (by decide) (fun _ => ?_) (fun q9 => absurd q9 (by decide))
      refine xw_aload_n dX8_cell_25 rfl ?_
      refine xw_getR dX8_cell_26 fl_X8_22 rfl rfl ?_
      refine xw_iload_n dX8_cell_29 rfl ?_
      refine xw_bipush (v := 16) dX8_cell_30 (by decide) ?_
      refine xw_iremN (b := 16) dX8_cell_32 (by omega) ?_
      refine xw_iload_n dX8_cell_33 rfl ?_
      refine xw_bipush (v := 16) dX8_cell_34 (by decide) ?_
      refine xw_idivN (b := 16) dX8_cell_36 (by omega) ?_
      refine xw_cS3E dX8_cell_37 okX8_houseAt ml_X8_148 rfl rfl (s_X8_houseAt rfl hC hX (by omega)) ?_
      refine xw_istore_n dX8_cell_40 rfl rfl ?_
      refine xw_iload_n dX8_cell_41 rfl ?_
      refine xw_ldc dX8_cell_42 kc_X8_50 ?_
      refine xw_icmp_eq (tgt := 49) dX8_cell_44 (by decide) (fun c44 => ?_) (fun c44 => ?_)
      · refine xw_aload_n dX8_cell_49 rfl ?_
        refine xw_getR dX8_cell_50 fl_X8_22 rfl rfl ?_
        refine xw_bipush (v := 40) dX8_cell_53 (by decide) ?_
        refine xw_iload_n dX8_cell_55 rfl ?_
        refine xw_iaddN (a := 40) dX8_cell_56 ?_
        refine xw_ialN _ dX8_cell_57 rfl (rfl) (hcl) rfl ?_ ?_
        · omega
        refine xw_istore_n dX8_cell_58 rfl rfl ?_
        refine xw_iload_n dX8_cell_59 rfl ?_
        refine xw_iconst (v := 1) dX8_cell_60 (by decide) ?_
        refine xw_iandN (b := 1) dX8_cell_61 ?_
        rw [mod2and]
        refine xw_iconst (v := 1) dX8_cell_62 (by decide) ?_
        refine xw_icmp_neN (b := 1) (tgt := 70) dX8_cell_63 (by decide) (by omega) (fun c63 => ?_) (fun c63 => ?_)
        · refine xw_iload_n dX8_cell_70 rfl ?_
          refine xw_iconst (v := 2) dX8_cell_71 (by decide) ?_
          refine xw_icmp_neN (b := 2) (tgt := 80) dX8_cell_72 (by decide) (by omega) (fun c72 => ?_) (fun c72 => ?_)
          · refine xw_iload_n dX8_cell_80 rfl ?_
            refine xw_bipush (v := 16) dX8_cell_81 (by decide) ?_
            refine xw_iremN (b := 16) dX8_cell_83 (by omega) ?_
            refine xw_aload_n dX8_cell_84 rfl ?_
            refine xw_getR dX8_cell_85 fl_X8_22 rfl rfl ?_
            refine xw_iconst (v := 2) dX8_cell_88 (by decide) ?_
            refine xw_ialN 2 dX8_cell_89 rfl (rfl) (hB) rfl ?_ ?_
            · omega
            refine xw_icmp_ltN (tgt := 98) dX8_cell_90 (by decide) (by omega) (fun c90 => ?_) (fun c90 => ?_)
            · refine xw_bipush (v := (-4)) dX8_cell_98 (by decide) ?_
              refine xw_ireti dX8_cell_100 rfl ?_
              have e9 := e2.mp c44
              refine ⟨?_, rfl⟩
              unfold cellV
              rw [if_neg e9]
              by_cases z1 : wallAt D (c % 16) (c / 16)
              · first
                | (rw [if_pos (decP_t z1)]; done)
                | (exfalso; unfold wallAt at z1; omega)
              · rw [decP_f z1, if_neg (by decide)]
                have z1b : ¬ dwl D (c / 16) / 2 ^ (c % 16) % 2 = 1 := z1
                by_cases z2 : pathAt D (c % 16) (c / 16)
                · have z2b : dpt D (c / 16) / 2 ^ (c % 16) % 2 = 1 := z2
                  first
                  | (rw [if_pos (decP_t z2)]; done)
                  | (exfalso; omega)
                · rw [decP_f z2, if_neg (by decide)]
                  have z2b : ¬ dpt D (c / 16) / 2 ^ (c % 16) % 2 = 1 := z2
                  first
                  | (exfalso; omega)
                  | (rw [if_pos (by omega)]; done)
                  | (rw [if_neg (by omega)]; done)
            · refine xw_bipush (v := (-3)) dX8_cell_93 (by decide) ?_
              refine xw_goto (tgt := 100) dX8_cell_95 (by decide) ?_
              refine xw_ireti dX8_cell_100 rfl ?_
              have e9 := e2.mp c44
              refine ⟨?_, rfl⟩
              unfold cellV
              rw [if_neg e9]
              by_cases z1 : wallAt D (c % 16) (c / 16)
              · first
                | (rw [if_pos (decP_t z1)]; done)
                | (exfalso; unfold wallAt at z1; omega)
              · rw [decP_f z1, if_neg (by decide)]
                have z1b : ¬ dwl D (c / 16) / 2 ^ (c % 16) % 2 = 1 := z1
                by_cases z2 : pathAt D (c % 16) (c / 16)
                · have z2b : dpt D (c / 16) / 2 ^ (c % 16) % 2 = 1 := z2
                  first
                  | (rw [if_pos (decP_t z2)]; done)
                  | (exfalso; omega)
                · rw [decP_f z2, if_neg (by decide)]
                  have z2b : ¬ dpt D (c / 16) / 2 ^ (c % 16) % 2 = 1 := z2
                  first
                  | (exfalso; omega)
                  | (rw [if_pos (by omega)]; done)
                  | (rw [if_neg (by omega)]; done)
          · refine xw_bipush (v := (-2)) dX8_cell_75 (by decide) ?_
            refine xw_goto (tgt := 100) dX8_cell_77 (by decide) ?_
            refine xw_ireti dX8_cell_100 rfl ?_
            have e9 := e2.mp c44
            refine ⟨?_, rfl⟩
            unfold cellV
            rw [if_neg e9]
            by_cases z1 : wallAt D (c % 16) (c / 16)
            · first
              | (rw [if_pos (decP_t z1)]; done)
              | (exfalso; unfold wallAt at z1; omega)
            · rw [decP_f z1, if_neg (by decide)]
              have z1b : ¬ dwl D (c / 16) / 2 ^ (c % 16) % 2 = 1 := z1
              by_cases z2 : pathAt D (c % 16) (c / 16)
              · have z2b : dpt D (c / 16) / 2 ^ (c % 16) % 2 = 1 := z2
                first
                | (rw [if_pos (decP_t z2)]; done)
                | (exfalso; omega)
              · rw [decP_f z2, if_neg (by decide)]
                have z2b : ¬ dpt D (c / 16) / 2 ^ (c % 16) % 2 = 1 := z2
                first
                | (exfalso; omega)
                | (rw [if_pos (by omega)]; done)
                | (rw [if_neg (by omega)]; done)
        · refine xw_iconst (v := (-1)) dX8_cell_66 (by decide) ?_
          refine xw_goto (tgt := 100) dX8_cell_67 (by decide) ?_
          refine xw_ireti dX8_cell_100 rfl ?_
          have e9 := e2.mp c44
          refine ⟨?_, rfl⟩
          unfold cellV
          rw [if_neg e9]
          by_cases z1 : wallAt D (c % 16) (c / 16)
          · first
            | (rw [if_pos (decP_t z1)]; done)
            | (exfalso; unfold wallAt at z1; omega)
          · rw [decP_f z1, if_neg (by decide)]
            have z1b : ¬ dwl D (c / 16) / 2 ^ (c % 16) % 2 = 1 := z1
            by_cases z2 : pathAt D (c % 16) (c / 16)
            · have z2b : dpt D (c / 16) / 2 ^ (c % 16) % 2 = 1 := z2
              first
              | (rw [if_pos (decP_t z2)]; done)
              | (exfalso; omega)
            · rw [decP_f z2, if_neg (by decide)]
              have z2b : ¬ dpt D (c / 16) / 2 ^ (c % 16) % 2 = 1 := z2
              first
              | (exfalso; omega)
              | (rw [if_pos (by omega)]; done)
              | (rw [if_neg (by omega)]; done)
      · refine xw_iload_n dX8_cell_47 rfl ?_
        refine xw_ireti dX8_cell_48 rfl ?_
        have e9 : hAt D P (nI (c % 16)) (c / 16) < dn D := Classical.byContradiction fun z => c44 (e2.mpr z)
        exact ⟨by unfold hW2 cellV; rw [if_pos e9, if_pos e9], rfl⟩
    · exfalso; first | contradiction | omega
  · exfalso; first | contradiction | omega
end TALKM
