section LIESC
variable {g : XG} {l : Launch} {d : Nat} {M : XM}
theorem pl_0 {n s : Nat} (hn : n < 2 ^ 31) : ((0 : Int32) ≤ 0 ∧ (0 : Int32) ≤ nI n ∧ (0 : Int32).toInt + (nI n).toInt ≤ (s : Int)) ↔ n ≤ s := by
  have e : (0 : Int32).toInt = 0 := by decide
  rw [e, nI_toInt hn]
  constructor
  · rintro ⟨-, -, h⟩; omega
  · intro h; exact ⟨by decide, nI_pos' hn, by omega⟩
def okHs (D : FD) (v : Int32) : Prop := 0 ≤ v ∧ v < nI (dn D)
set_option maxRecDepth 20000 in
theorem rf_state {a n b z : Int32} (h : ¬ 0 < M.1 8 2) : XC g l mX7_refusalToForetell (d + 1) [xr 0, xi a, xi n, xi b, xi z] M (XE (some (xi (-1000002))) (M)) := by
  show XW g l mX7_refusalToForetell _ 0 [some (xr 0), some (xi a), some (xi n), some (xi b), some (xi z), none] [] M _
  refine xw_aload_n dX7_refusalToForetell_0 rfl ?_
  refine xw_getR dX7_refusalToForetell_1 fl_X7_26 rfl rfl ?_
  refine xw_cV0B dX7_refusalToForetell_4 okX1_isThere ml_X7_148 rfl rfl rfl rfl (s_X1_isThere xf_8) (fun p4 => ?_) (fun p4 => ?_)
  · exfalso; first | contradiction | omega | grind | simp_all
  · refine xw_if_ne (tgt := 13) dX7_refusalToForetell_7 (by decide) (fun q9 => absurd q9 (by decide)) (fun _ => ?_)
    refine xw_ldc dX7_refusalToForetell_10 kc_X7_143 ?_
    refine xw_ireti dX7_refusalToForetell_12 rfl ?_
    first | exact ⟨rfl, rfl⟩ | exact ⟨by simp_all, rfl⟩ | grind [XE]
set_option maxRecDepth 20000 in
theorem rf_bad {a n b z : Int32} (h : 0 < M.1 8 2) (h2 : ¬ ((0 ≤ a ∧ a < 8) ∧ (0 ≤ b ∧ b < 8) ∧ 1 ≤ n ∧ n ≤ 8 ∧ ¬ z = 0)) : XC g l mX7_refusalToForetell (d + 1) [xr 0, xi a, xi n, xi b, xi z] M (XE (some (xi (-1000001))) (M)) := by
  show XW g l mX7_refusalToForetell _ 0 [some (xr 0), some (xi a), some (xi n), some (xi b), some (xi z), none] [] M _
  refine xw_aload_n dX7_refusalToForetell_0 rfl ?_
  refine xw_getR dX7_refusalToForetell_1 fl_X7_26 rfl rfl ?_
  refine xw_cV0B dX7_refusalToForetell_4 okX1_isThere ml_X7_148 rfl rfl rfl rfl (s_X1_isThere xf_8) (fun p4 => ?_) (fun p4 => ?_)
  · refine xw_if_ne (tgt := 13) dX7_refusalToForetell_7 (by decide) (fun _ => ?_) (fun q9 => absurd q9 (by decide))
    refine xw_aload_n dX7_refusalToForetell_13 rfl ?_
    refine xw_getR dX7_refusalToForetell_14 fl_X7_10 rfl rfl ?_
    refine xw_iload_n dX7_refusalToForetell_17 rfl ?_
    refine xw_cV1B dX7_refusalToForetell_18 okX6_isNumber ml_X7_59 rfl rfl rfl rfl (s_X6_isNumber _) (fun p18 => ?_) (fun p18 => ?_)
    · refine xw_if_eq (tgt := 51) dX7_refusalToForetell_21 (by decide) (fun q9 => absurd q9 (by decide)) (fun _ => ?_)
      refine xw_aload_n dX7_refusalToForetell_24 rfl ?_
      refine xw_getR dX7_refusalToForetell_25 fl_X7_10 rfl rfl ?_
      refine xw_iload_n dX7_refusalToForetell_28 rfl ?_
      refine xw_cV1B dX7_refusalToForetell_29 okX6_isNumber ml_X7_59 rfl rfl rfl rfl (s_X6_isNumber _) (fun p29 => ?_) (fun p29 => ?_)
      · refine xw_if_eq (tgt := 51) dX7_refusalToForetell_32 (by decide) (fun q9 => absurd q9 (by decide)) (fun _ => ?_)
        refine xw_iload_n dX7_refusalToForetell_35 rfl ?_
        refine xw_iconst (v := 1) dX7_refusalToForetell_36 (by decide) ?_
        refine xw_icmp_lt (tgt := 51) dX7_refusalToForetell_37 (by decide) (fun c37 => ?_) (fun c37 => ?_)
        · refine xw_ldc dX7_refusalToForetell_51 kc_X7_66 ?_
          refine xw_ireti dX7_refusalToForetell_53 rfl ?_
          first | exact ⟨rfl, rfl⟩ | exact ⟨by simp_all, rfl⟩ | grind [XE]
        · refine xw_iload_n dX7_refusalToForetell_40 rfl ?_
          refine xw_bipush (v := 8) dX7_refusalToForetell_41 (by decide) ?_
          refine xw_icmp_gt (tgt := 51) dX7_refusalToForetell_43 (by decide) (fun c43 => ?_) (fun c43 => ?_)
          · refine xw_ldc dX7_refusalToForetell_51 kc_X7_66 ?_
            refine xw_ireti dX7_refusalToForetell_53 rfl ?_
            first | exact ⟨rfl, rfl⟩ | exact ⟨by simp_all, rfl⟩ | grind [XE]
          · refine xw_iload dX7_refusalToForetell_46 rfl ?_
            refine xw_if_ne (tgt := 54) dX7_refusalToForetell_48 (by decide) (fun c48 => ?_) (fun c48 => ?_)
            · exfalso; first | contradiction | omega | grind | simp_all
            · refine xw_ldc dX7_refusalToForetell_51 kc_X7_66 ?_
              refine xw_ireti dX7_refusalToForetell_53 rfl ?_
              first | exact ⟨rfl, rfl⟩ | exact ⟨by simp_all, rfl⟩ | grind [XE]
      · refine xw_if_eq (tgt := 51) dX7_refusalToForetell_32 (by decide) (fun _ => ?_) (fun q9 => absurd q9 (by decide))
        refine xw_ldc dX7_refusalToForetell_51 kc_X7_66 ?_
        refine xw_ireti dX7_refusalToForetell_53 rfl ?_
        first | exact ⟨rfl, rfl⟩ | exact ⟨by simp_all, rfl⟩ | grind [XE]
    · refine xw_if_eq (tgt := 51) dX7_refusalToForetell_21 (by decide) (fun _ => ?_) (fun q9 => absurd q9 (by decide))
      refine xw_ldc dX7_refusalToForetell_51 kc_X7_66 ?_
      refine xw_ireti dX7_refusalToForetell_53 rfl ?_
      first | exact ⟨rfl, rfl⟩ | exact ⟨by simp_all, rfl⟩ | grind [XE]
  · exfalso; first | contradiction | omega | grind | simp_all
set_option maxRecDepth 20000 in
theorem rf_null {a b : Nat} {n : Int32} (h : 0 < M.1 8 2) (ha : a < 8) (hb : b < 8) (hn : 1 ≤ n ∧ n ≤ 8) (h2 : M.1 2 a = -1 ∨ M.1 2 b = -1) : XC g l mX7_refusalToForetell (d + 1) [xr 0, xi (nI a), xi n, xi (nI b), xi 1] M (XE (some (xi (-1000011))) (xup M 0 7 1)) := by
  show XW g l mX7_refusalToForetell _ 0 [some (xr 0), some (xi (nI a)), some (xi n), some (xi (nI b)), some (xi 1), none] [] M _
  refine xw_aload_n dX7_refusalToForetell_0 rfl ?_
  refine xw_getR dX7_refusalToForetell_1 fl_X7_26 rfl rfl ?_
  refine xw_cV0B dX7_refusalToForetell_4 okX1_isThere ml_X7_148 rfl rfl rfl rfl (s_X1_isThere xf_8) (fun p4 => ?_) (fun p4 => ?_)
  · refine xw_if_ne (tgt := 13) dX7_refusalToForetell_7 (by decide) (fun _ => ?_) (fun q9 => absurd q9 (by decide))
    refine xw_aload_n dX7_refusalToForetell_13 rfl ?_
    refine xw_getR dX7_refusalToForetell_14 fl_X7_10 rfl rfl ?_
    refine xw_iload_n dX7_refusalToForetell_17 rfl ?_
    refine xw_cV1B dX7_refusalToForetell_18 okX6_isNumber ml_X7_59 rfl rfl rfl rfl (s_X6_isNumber _) (fun p18 => ?_) (fun p18 => ?_)
    · refine xw_if_eq (tgt := 51) dX7_refusalToForetell_21 (by decide) (fun q9 => absurd q9 (by decide)) (fun _ => ?_)
      refine xw_aload_n dX7_refusalToForetell_24 rfl ?_
      refine xw_getR dX7_refusalToForetell_25 fl_X7_10 rfl rfl ?_
      refine xw_iload_n dX7_refusalToForetell_28 rfl ?_
      refine xw_cV1B dX7_refusalToForetell_29 okX6_isNumber ml_X7_59 rfl rfl rfl rfl (s_X6_isNumber _) (fun p29 => ?_) (fun p29 => ?_)
      · refine xw_if_eq (tgt := 51) dX7_refusalToForetell_32 (by decide) (fun q9 => absurd q9 (by decide)) (fun _ => ?_)
        refine xw_iload_n dX7_refusalToForetell_35 rfl ?_
        refine xw_iconst (v := 1) dX7_refusalToForetell_36 (by decide) ?_
        refine xw_icmp_lt (tgt := 51) dX7_refusalToForetell_37 (by decide) (fun c37 => ?_) (fun c37 => ?_)
        · exfalso; first | contradiction | (have e0 := nI_lt8 ha; have e1 := nI_lt8 hb; grind)
        · refine xw_iload_n dX7_refusalToForetell_40 rfl ?_
          refine xw_bipush (v := 8) dX7_refusalToForetell_41 (by decide) ?_
          refine xw_icmp_gt (tgt := 51) dX7_refusalToForetell_43 (by decide) (fun c43 => ?_) (fun c43 => ?_)
          · exfalso; first | contradiction | (have e0 := nI_lt8 ha; have e1 := nI_lt8 hb; grind)
          · refine xw_iload dX7_refusalToForetell_46 rfl ?_
            refine xw_if_ne (tgt := 54) dX7_refusalToForetell_48 (by decide) (fun _ => ?_) (fun q9 => absurd q9 (by decide))
            refine xw_aload_n dX7_refusalToForetell_54 rfl ?_
            refine xw_getR dX7_refusalToForetell_55 fl_X7_10 rfl rfl ?_
            refine xw_iload_n dX7_refusalToForetell_58 rfl ?_
            refine xw_cV1B dX7_refusalToForetell_59 okX6_isMissing ml_X7_78 rfl rfl rfl rfl (s_X6_isMissing ha) (fun p59 => ?_) (fun p59 => ?_)
            · refine xw_if_ne (tgt := 76) dX7_refusalToForetell_62 (by decide) (fun _ => ?_) (fun q9 => absurd q9 (by decide))
              refine xw_aload_n dX7_refusalToForetell_76 rfl ?_
              refine xw_iconst (v := 1) dX7_refusalToForetell_77 (by decide) ?_
              refine xw_cV1E dX7_refusalToForetell_78 okX7_found ml_X7_67 rfl rfl rfl rfl (s_X7_found _) ?_
              refine xw_ireti dX7_refusalToForetell_81 rfl ?_
              first | exact ⟨rfl, rfl⟩ | exact ⟨by simp_all, rfl⟩ | grind [XE]
            · refine xw_if_ne (tgt := 76) dX7_refusalToForetell_62 (by decide) (fun q9 => absurd q9 (by decide)) (fun _ => ?_)
              refine xw_aload_n dX7_refusalToForetell_65 rfl ?_
              refine xw_getR dX7_refusalToForetell_66 fl_X7_10 rfl rfl ?_
              refine xw_iload_n dX7_refusalToForetell_69 rfl ?_
              refine xw_cV1B dX7_refusalToForetell_70 okX6_isMissing ml_X7_78 rfl rfl rfl rfl (s_X6_isMissing hb) (fun p70 => ?_) (fun p70 => ?_)
              · refine xw_if_eq (tgt := 82) dX7_refusalToForetell_73 (by decide) (fun q9 => absurd q9 (by decide)) (fun _ => ?_)
                refine xw_aload_n dX7_refusalToForetell_76 rfl ?_
                refine xw_iconst (v := 1) dX7_refusalToForetell_77 (by decide) ?_
                refine xw_cV1E dX7_refusalToForetell_78 okX7_found ml_X7_67 rfl rfl rfl rfl (s_X7_found _) ?_
                refine xw_ireti dX7_refusalToForetell_81 rfl ?_
                first | exact ⟨rfl, rfl⟩ | exact ⟨by simp_all, rfl⟩ | grind [XE]
              · exfalso; first | contradiction | (have e0 := nI_lt8 ha; have e1 := nI_lt8 hb; grind)
      · exfalso; first | contradiction | (have e0 := nI_lt8 ha; have e1 := nI_lt8 hb; grind)
    · exfalso; first | contradiction | (have e0 := nI_lt8 ha; have e1 := nI_lt8 hb; grind)
  · exfalso; first | contradiction | (have e0 := nI_lt8 ha; have e1 := nI_lt8 hb; grind)
set_option maxRecDepth 20000 in
theorem rf_place {D : FD} {a b n s t : Nat} (h : 0 < M.1 8 2) (ha : a < 8) (hb : b < 8) (hn : 1 ≤ n ∧ n ≤ 8) (h0 : ¬ M.1 2 a = -1) (h1 : ¬ M.1 2 b = -1) (hs : M.1 3 a = nI s) (ht : M.1 3 b = nI t) (hs2 : s ≤ 40) (ht2 : t ≤ 40) (hC : FCS M 8 D) (hp : ¬ (n ≤ s ∧ dn D ≤ t)) : XC g l mX7_refusalToForetell (d + 1) [xr 0, xi (nI a), xi (nI n), xi (nI b), xi 1] M (XE (some (xi (-1000012))) (xup M 0 7 2)) := by
  show XW g l mX7_refusalToForetell _ 0 [some (xr 0), some (xi (nI a)), some (xi (nI n)), some (xi (nI b)), some (xi 1), none] [] M _
  have q1 := pl_0 (n := n) (s := s) (by omega)
  have hn6 := hC.1
  have q2 := pl_0 (n := dn D) (s := t) (by omega)
  refine xw_aload_n dX7_refusalToForetell_0 rfl ?_
  refine xw_getR dX7_refusalToForetell_1 fl_X7_26 rfl rfl ?_
  refine xw_cV0B dX7_refusalToForetell_4 okX1_isThere ml_X7_148 rfl rfl rfl rfl (s_X1_isThere xf_8) (fun p4 => ?_) (fun p4 => ?_)
  · refine xw_if_ne (tgt := 13) dX7_refusalToForetell_7 (by decide) (fun _ => ?_) (fun q9 => absurd q9 (by decide))
    refine xw_aload_n dX7_refusalToForetell_13 rfl ?_
    refine xw_getR dX7_refusalToForetell_14 fl_X7_10 rfl rfl ?_
    refine xw_iload_n dX7_refusalToForetell_17 rfl ?_
    refine xw_cV1B dX7_refusalToForetell_18 okX6_isNumber ml_X7_59 rfl rfl rfl rfl (s_X6_isNumber _) (fun p18 => ?_) (fun p18 => ?_)
    · refine xw_if_eq (tgt := 51) dX7_refusalToForetell_21 (by decide) (fun q9 => absurd q9 (by decide)) (fun _ => ?_)
      refine xw_aload_n dX7_refusalToForetell_24 rfl ?_
      refine xw_getR dX7_refusalToForetell_25 fl_X7_10 rfl rfl ?_
      refine xw_iload_n dX7_refusalToForetell_28 rfl ?_
      refine xw_cV1B dX7_refusalToForetell_29 okX6_isNumber ml_X7_59 rfl rfl rfl rfl (s_X6_isNumber _) (fun p29 => ?_) (fun p29 => ?_)
      · refine xw_if_eq (tgt := 51) dX7_refusalToForetell_32 (by decide) (fun q9 => absurd q9 (by decide)) (fun _ => ?_)
        refine xw_iload_n dX7_refusalToForetell_35 rfl ?_
        refine xw_iconst (v := 1) dX7_refusalToForetell_36 (by decide) ?_
        refine xw_icmp_ltN (b := 1) (tgt := 51) dX7_refusalToForetell_37 (by decide) (by omega) (fun c37 => ?_) (fun c37 => ?_)
        · exfalso; first | contradiction | omega | (have e0 := nI_lt8 ha; have e1 := nI_lt8 hb; grind)
        · refine xw_iload_n dX7_refusalToForetell_40 rfl ?_
          refine xw_bipush (v := 8) dX7_refusalToForetell_41 (by decide) ?_
          refine xw_icmp_gtN (b := 8) (tgt := 51) dX7_refusalToForetell_43 (by decide) (by omega) (fun c43 => ?_) (fun c43 => ?_)
          · exfalso; first | contradiction | omega | (have e0 := nI_lt8 ha; have e1 := nI_lt8 hb; grind)
          · refine xw_iload dX7_refusalToForetell_46 rfl ?_
            refine xw_if_ne (tgt := 54) dX7_refusalToForetell_48 (by decide) (fun _ => ?_) (fun q9 => absurd q9 (by decide))
            refine xw_aload_n dX7_refusalToForetell_54 rfl ?_
            refine xw_getR dX7_refusalToForetell_55 fl_X7_10 rfl rfl ?_
            refine xw_iload_n dX7_refusalToForetell_58 rfl ?_
            refine xw_cV1B dX7_refusalToForetell_59 okX6_isMissing ml_X7_78 rfl rfl rfl rfl (s_X6_isMissing ha) (fun p59 => ?_) (fun p59 => ?_)
            · exfalso; first | contradiction | omega | (have e0 := nI_lt8 ha; have e1 := nI_lt8 hb; grind)
            · refine xw_if_ne (tgt := 76) dX7_refusalToForetell_62 (by decide) (fun q9 => absurd q9 (by decide)) (fun _ => ?_)
              refine xw_aload_n dX7_refusalToForetell_65 rfl ?_
              refine xw_getR dX7_refusalToForetell_66 fl_X7_10 rfl rfl ?_
              refine xw_iload_n dX7_refusalToForetell_69 rfl ?_
              refine xw_cV1B dX7_refusalToForetell_70 okX6_isMissing ml_X7_78 rfl rfl rfl rfl (s_X6_isMissing hb) (fun p70 => ?_) (fun p70 => ?_)
              · exfalso; first | contradiction | omega | (have e0 := nI_lt8 ha; have e1 := nI_lt8 hb; grind)
              · refine xw_if_eq (tgt := 82) dX7_refusalToForetell_73 (by decide) (fun _ => ?_) (fun q9 => absurd q9 (by decide))
                refine xw_aload_n dX7_refusalToForetell_82 rfl ?_
                refine xw_getR dX7_refusalToForetell_83 fl_X7_10 rfl rfl ?_
                refine xw_iload_n dX7_refusalToForetell_86 rfl ?_
                refine xw_iconst (v := 0) dX7_refusalToForetell_87 (by decide) ?_
                refine xw_iload_n dX7_refusalToForetell_88 rfl ?_
                refine xw_cV3B dX7_refusalToForetell_89 okX6_hasPlaces ml_X7_81 rfl rfl rfl rfl (s_X6_hasPlaces _ _ ha hs hs2) (fun p89 => ?_) (fun p89 => ?_)
                · refine xw_if_eq (tgt := 114) dX7_refusalToForetell_92 (by decide) (fun q9 => absurd q9 (by decide)) (fun _ => ?_)
                  refine xw_aload_n dX7_refusalToForetell_95 rfl ?_
                  refine xw_getR dX7_refusalToForetell_96 fl_X7_10 rfl rfl ?_
                  refine xw_iload_n dX7_refusalToForetell_99 rfl ?_
                  refine xw_iconst (v := 0) dX7_refusalToForetell_100 (by decide) ?_
                  refine xw_aload_n dX7_refusalToForetell_101 rfl ?_
                  refine xw_getR dX7_refusalToForetell_102 fl_X7_26 rfl rfl ?_
                  refine xw_getV dX7_refusalToForetell_105 fl_X7_127 rfl rfl (hC.2.2.2.1) ?_
                  refine xw_cV3B dX7_refusalToForetell_108 okX6_hasPlaces ml_X7_81 rfl rfl rfl rfl (s_X6_hasPlaces _ _ hb ht ht2) (fun p108 => ?_) (fun p108 => ?_)
                  · exfalso; first | contradiction | omega | (have e0 := nI_lt8 ha; have e1 := nI_lt8 hb; grind)
                  · refine xw_if_ne (tgt := 120) dX7_refusalToForetell_111 (by decide) (fun q9 => absurd q9 (by decide)) (fun _ => ?_)
                    refine xw_aload_n dX7_refusalToForetell_114 rfl ?_
                    refine xw_iconst (v := 2) dX7_refusalToForetell_115 (by decide) ?_
                    refine xw_cV1E dX7_refusalToForetell_116 okX7_found ml_X7_67 rfl rfl rfl rfl (s_X7_found _) ?_
                    refine xw_ireti dX7_refusalToForetell_119 rfl ?_
                    first | exact ⟨rfl, rfl⟩ | exact ⟨by simp_all, rfl⟩ | grind [XE]
                · refine xw_if_eq (tgt := 114) dX7_refusalToForetell_92 (by decide) (fun _ => ?_) (fun q9 => absurd q9 (by decide))
                  refine xw_aload_n dX7_refusalToForetell_114 rfl ?_
                  refine xw_iconst (v := 2) dX7_refusalToForetell_115 (by decide) ?_
                  refine xw_cV1E dX7_refusalToForetell_116 okX7_found ml_X7_67 rfl rfl rfl rfl (s_X7_found _) ?_
                  refine xw_ireti dX7_refusalToForetell_119 rfl ?_
                  first | exact ⟨rfl, rfl⟩ | exact ⟨by simp_all, rfl⟩ | grind [XE]
      · exfalso; first | contradiction | omega | (have e0 := nI_lt8 ha; have e1 := nI_lt8 hb; grind)
    · exfalso; first | contradiction | omega | (have e0 := nI_lt8 ha; have e1 := nI_lt8 hb; grind)
  · exfalso; first | contradiction | omega | (have e0 := nI_lt8 ha; have e1 := nI_lt8 hb; grind)
set_option maxRecDepth 20000 in
theorem lp_rf_no {D : FD} {a b n : Nat} (hC : FCS M 8 D) (ha : a < 8) (hn : n ≤ 40) (hb : ¬ ∀ j, j < n → okHs D (M.1 4 (a * 40 + j))) : ∀ (q k : Nat), k + q = n → (∀ j, j < k → okHs D (M.1 4 (a * 40 + j))) → XW g l mX7_refusalToForetell (d + 1) 123 [some (xr 0), some (xi (nI a)), some (xi (nI n)), some (xi (nI b)), some (xi 1), some (xi (nI k))] [] M (XE (some (xi (-1000001))) M) := by
  intro q
  induction q with
  | zero =>
    intro k hk h0
    have hk : k = n := by omega
    subst hk
    exact absurd h0 hb
  | succ q ih =>
    intro k hk h0
    refine xw_iload dX7_refusalToForetell_123 rfl ?_
    refine xw_iload_n dX7_refusalToForetell_125 rfl ?_
    refine xw_icmp_geN (tgt := 158) dX7_refusalToForetell_126 (by decide) (by omega) (fun c126 => ?_) (fun c126 => ?_)
    · exfalso; omega
    · refine xw_aload_n dX7_refusalToForetell_129 rfl ?_
      refine xw_getR dX7_refusalToForetell_130 fl_X7_26 rfl rfl ?_
      refine xw_aload_n dX7_refusalToForetell_133 rfl ?_
      refine xw_getR dX7_refusalToForetell_134 fl_X7_10 rfl rfl ?_
      refine xw_iload_n dX7_refusalToForetell_137 rfl ?_
      refine xw_iload dX7_refusalToForetell_138 rfl ?_
      refine xw_cV2E dX7_refusalToForetell_140 okX6_item ml_X7_265 rfl rfl rfl rfl (s_X6_item (by omega)) ?_
      refine xw_cV1B dX7_refusalToForetell_143 okX1_isHouse ml_X7_133 rfl rfl rfl rfl (s_X1_isHouse xf_8 _) (fun p143 => ?_) (fun p143 => ?_)
      · refine xw_if_ne (tgt := 152) dX7_refusalToForetell_146 (by decide) (fun _ => ?_) (fun q9 => absurd q9 (by decide))
        refine xw_iincN (v := 1) dX7_refusalToForetell_152 (by decide) rfl rfl rfl ?_
        refine xw_goto (tgt := 123) dX7_refusalToForetell_155 (by decide) ?_
        refine ih (k + 1) (by omega) (fun j hj => ?_)
        rcases Nat.lt_or_ge j k with z | z
        · exact h0 j z
        · rw [show j = k by omega]; rw [hC.2.2.2.1] at p143; exact p143
      · refine xw_if_ne (tgt := 152) dX7_refusalToForetell_146 (by decide) (fun q9 => absurd q9 (by decide)) (fun _ => ?_)
        refine xw_ldc dX7_refusalToForetell_149 kc_X7_66 ?_
        refine xw_ireti dX7_refusalToForetell_151 rfl ?_
        first | exact ⟨rfl, rfl⟩ | exact ⟨by simp_all, rfl⟩ | grind [XE]
set_option maxRecDepth 20000 in
theorem lp_rf_ok {D : FD} {a b n : Nat} (hC : FCS M 8 D) (ha : a < 8) (hn : n ≤ 40) (hb : ∀ j, j < n → okHs D (M.1 4 (a * 40 + j))) : ∀ (q k : Nat), k + q = n → XW g l mX7_refusalToForetell (d + 1) 123 [some (xr 0), some (xi (nI a)), some (xi (nI n)), some (xi (nI b)), some (xi 1), some (xi (nI k))] [] M (XE (some (xi 0)) (xup M 0 7 0)) := by
  intro q
  induction q with
  | zero =>
    intro k hk
    refine xw_iload dX7_refusalToForetell_123 rfl ?_
    refine xw_iload_n dX7_refusalToForetell_125 rfl ?_
    refine xw_icmp_geN (tgt := 158) dX7_refusalToForetell_126 (by decide) (by omega) (fun c126 => ?_) (fun c126 => ?_)
    · refine xw_aload_n dX7_refusalToForetell_158 rfl ?_
      refine xw_iconst (v := 0) dX7_refusalToForetell_159 (by decide) ?_
      refine xw_cV1E dX7_refusalToForetell_160 okX7_answered ml_X7_75 rfl rfl rfl rfl (s_X7_answered _) ?_
      refine xw_ireti dX7_refusalToForetell_163 rfl ?_
      first | exact ⟨rfl, rfl⟩ | exact ⟨by simp_all, rfl⟩ | grind [XE]
    · exfalso; omega
  | succ q ih =>
    intro k hk
    have hbk := hb k (by omega)
    refine xw_iload dX7_refusalToForetell_123 rfl ?_
    refine xw_iload_n dX7_refusalToForetell_125 rfl ?_
    refine xw_icmp_geN (tgt := 158) dX7_refusalToForetell_126 (by decide) (by omega) (fun c126 => ?_) (fun c126 => ?_)
    · exfalso; first | omega | (rw [hC.2.2.2.1] at p143; exact p143 hbk)
    · refine xw_aload_n dX7_refusalToForetell_129 rfl ?_
      refine xw_getR dX7_refusalToForetell_130 fl_X7_26 rfl rfl ?_
      refine xw_aload_n dX7_refusalToForetell_133 rfl ?_
      refine xw_getR dX7_refusalToForetell_134 fl_X7_10 rfl rfl ?_
      refine xw_iload_n dX7_refusalToForetell_137 rfl ?_
      refine xw_iload dX7_refusalToForetell_138 rfl ?_
      refine xw_cV2E dX7_refusalToForetell_140 okX6_item ml_X7_265 rfl rfl rfl rfl (s_X6_item (by omega)) ?_
      refine xw_cV1B dX7_refusalToForetell_143 okX1_isHouse ml_X7_133 rfl rfl rfl rfl (s_X1_isHouse xf_8 _) (fun p143 => ?_) (fun p143 => ?_)
      · refine xw_if_ne (tgt := 152) dX7_refusalToForetell_146 (by decide) (fun _ => ?_) (fun q9 => absurd q9 (by decide))
        refine xw_iincN (v := 1) dX7_refusalToForetell_152 (by decide) rfl rfl rfl ?_
        refine xw_goto (tgt := 123) dX7_refusalToForetell_155 (by decide) ?_
        exact ih (k + 1) (by omega)
      · exfalso; first | omega | (rw [hC.2.2.2.1] at p143; exact p143 hbk)
set_option maxRecDepth 20000 in
theorem rf_item {D : FD} {a b n s t : Nat} (h : 0 < M.1 8 2) (ha : a < 8) (hb : b < 8) (hn : 1 ≤ n ∧ n ≤ 8) (h0 : ¬ M.1 2 a = -1) (h1 : ¬ M.1 2 b = -1) (hs : M.1 3 a = nI s) (ht : M.1 3 b = nI t) (hs2 : s ≤ 40) (ht2 : t ≤ 40) (hC : FCS M 8 D) (hp : n ≤ s ∧ dn D ≤ t) (hx : ¬ ∀ j, j < n → okHs D (M.1 4 (a * 40 + j))) : XC g l mX7_refusalToForetell (d + 1) [xr 0, xi (nI a), xi (nI n), xi (nI b), xi 1] M (XE (some (xi (-1000001))) (M)) := by
  show XW g l mX7_refusalToForetell _ 0 [some (xr 0), some (xi (nI a)), some (xi (nI n)), some (xi (nI b)), some (xi 1), none] [] M _
  have q1 := pl_0 (n := n) (s := s) (by omega)
  have hn6 := hC.1
  have q2 := pl_0 (n := dn D) (s := t) (by omega)
  refine xw_aload_n dX7_refusalToForetell_0 rfl ?_
  refine xw_getR dX7_refusalToForetell_1 fl_X7_26 rfl rfl ?_
  refine xw_cV0B dX7_refusalToForetell_4 okX1_isThere ml_X7_148 rfl rfl rfl rfl (s_X1_isThere xf_8) (fun p4 => ?_) (fun p4 => ?_)
  · refine xw_if_ne (tgt := 13) dX7_refusalToForetell_7 (by decide) (fun _ => ?_) (fun q9 => absurd q9 (by decide))
    refine xw_aload_n dX7_refusalToForetell_13 rfl ?_
    refine xw_getR dX7_refusalToForetell_14 fl_X7_10 rfl rfl ?_
    refine xw_iload_n dX7_refusalToForetell_17 rfl ?_
    refine xw_cV1B dX7_refusalToForetell_18 okX6_isNumber ml_X7_59 rfl rfl rfl rfl (s_X6_isNumber _) (fun p18 => ?_) (fun p18 => ?_)
    · refine xw_if_eq (tgt := 51) dX7_refusalToForetell_21 (by decide) (fun q9 => absurd q9 (by decide)) (fun _ => ?_)
      refine xw_aload_n dX7_refusalToForetell_24 rfl ?_
      refine xw_getR dX7_refusalToForetell_25 fl_X7_10 rfl rfl ?_
      refine xw_iload_n dX7_refusalToForetell_28 rfl ?_
      refine xw_cV1B dX7_refusalToForetell_29 okX6_isNumber ml_X7_59 rfl rfl rfl rfl (s_X6_isNumber _) (fun p29 => ?_) (fun p29 => ?_)
      · refine xw_if_eq (tgt := 51) dX7_refusalToForetell_32 (by decide) (fun q9 => absurd q9 (by decide)) (fun _ => ?_)
        refine xw_iload_n dX7_refusalToForetell_35 rfl ?_
        refine xw_iconst (v := 1) dX7_refusalToForetell_36 (by decide) ?_
        refine xw_icmp_ltN (b := 1) (tgt := 51) dX7_refusalToForetell_37 (by decide) (by omega) (fun c37 => ?_) (fun c37 => ?_)
        · exfalso; first | contradiction | omega | (have e0 := nI_lt8 ha; have e1 := nI_lt8 hb; grind)
        · refine xw_iload_n dX7_refusalToForetell_40 rfl ?_
          refine xw_bipush (v := 8) dX7_refusalToForetell_41 (by decide) ?_
          refine xw_icmp_gtN (b := 8) (tgt := 51) dX7_refusalToForetell_43 (by decide) (by omega) (fun c43 => ?_) (fun c43 => ?_)
          · exfalso; first | contradiction | omega | (have e0 := nI_lt8 ha; have e1 := nI_lt8 hb; grind)
          · refine xw_iload dX7_refusalToForetell_46 rfl ?_
            refine xw_if_ne (tgt := 54) dX7_refusalToForetell_48 (by decide) (fun _ => ?_) (fun q9 => absurd q9 (by decide))
            refine xw_aload_n dX7_refusalToForetell_54 rfl ?_
            refine xw_getR dX7_refusalToForetell_55 fl_X7_10 rfl rfl ?_
            refine xw_iload_n dX7_refusalToForetell_58 rfl ?_
            refine xw_cV1B dX7_refusalToForetell_59 okX6_isMissing ml_X7_78 rfl rfl rfl rfl (s_X6_isMissing ha) (fun p59 => ?_) (fun p59 => ?_)
            · exfalso; first | contradiction | omega | (have e0 := nI_lt8 ha; have e1 := nI_lt8 hb; grind)
            · refine xw_if_ne (tgt := 76) dX7_refusalToForetell_62 (by decide) (fun q9 => absurd q9 (by decide)) (fun _ => ?_)
              refine xw_aload_n dX7_refusalToForetell_65 rfl ?_
              refine xw_getR dX7_refusalToForetell_66 fl_X7_10 rfl rfl ?_
              refine xw_iload_n dX7_refusalToForetell_69 rfl ?_
              refine xw_cV1B dX7_refusalToForetell_70 okX6_isMissing ml_X7_78 rfl rfl rfl rfl (s_X6_isMissing hb) (fun p70 => ?_) (fun p70 => ?_)
              · exfalso; first | contradiction | omega | (have e0 := nI_lt8 ha; have e1 := nI_lt8 hb; grind)
              · refine xw_if_eq (tgt := 82) dX7_refusalToForetell_73 (by decide) (fun _ => ?_) (fun q9 => absurd q9 (by decide))
                refine xw_aload_n dX7_refusalToForetell_82 rfl ?_
                refine xw_getR dX7_refusalToForetell_83 fl_X7_10 rfl rfl ?_
                refine xw_iload_n dX7_refusalToForetell_86 rfl ?_
                refine xw_iconst (v := 0) dX7_refusalToForetell_87 (by decide) ?_
                refine xw_iload_n dX7_refusalToForetell_88 rfl ?_
                refine xw_cV3B dX7_refusalToForetell_89 okX6_hasPlaces ml_X7_81 rfl rfl rfl rfl (s_X6_hasPlaces _ _ ha hs hs2) (fun p89 => ?_) (fun p89 => ?_)
                · refine xw_if_eq (tgt := 114) dX7_refusalToForetell_92 (by decide) (fun q9 => absurd q9 (by decide)) (fun _ => ?_)
                  refine xw_aload_n dX7_refusalToForetell_95 rfl ?_
                  refine xw_getR dX7_refusalToForetell_96 fl_X7_10 rfl rfl ?_
                  refine xw_iload_n dX7_refusalToForetell_99 rfl ?_
                  refine xw_iconst (v := 0) dX7_refusalToForetell_100 (by decide) ?_
                  refine xw_aload_n dX7_refusalToForetell_101 rfl ?_
                  refine xw_getR dX7_refusalToForetell_102 fl_X7_26 rfl rfl ?_
                  refine xw_getV dX7_refusalToForetell_105 fl_X7_127 rfl rfl (hC.2.2.2.1) ?_
                  refine xw_cV3B dX7_refusalToForetell_108 okX6_hasPlaces ml_X7_81 rfl rfl rfl rfl (s_X6_hasPlaces _ _ hb ht ht2) (fun p108 => ?_) (fun p108 => ?_)
                  · refine xw_if_ne (tgt := 120) dX7_refusalToForetell_111 (by decide) (fun _ => ?_) (fun q9 => absurd q9 (by decide))
                    refine xw_iconst (v := 0) dX7_refusalToForetell_120 (by decide) ?_
                    refine xw_istore dX7_refusalToForetell_121 rfl rfl ?_
                    exact lp_rf_no hC ha (by omega) hx n 0 (by omega) (fun _ z => absurd z (by omega))
                  · exfalso; first | contradiction | omega | (have e0 := nI_lt8 ha; have e1 := nI_lt8 hb; grind)
                · exfalso; first | contradiction | omega | (have e0 := nI_lt8 ha; have e1 := nI_lt8 hb; grind)
      · exfalso; first | contradiction | omega | (have e0 := nI_lt8 ha; have e1 := nI_lt8 hb; grind)
    · exfalso; first | contradiction | omega | (have e0 := nI_lt8 ha; have e1 := nI_lt8 hb; grind)
  · exfalso; first | contradiction | omega | (have e0 := nI_lt8 ha; have e1 := nI_lt8 hb; grind)
set_option maxRecDepth 20000 in
theorem rf_ok {D : FD} {a b n s t : Nat} (h : 0 < M.1 8 2) (ha : a < 8) (hb : b < 8) (hn : 1 ≤ n ∧ n ≤ 8) (h0 : ¬ M.1 2 a = -1) (h1 : ¬ M.1 2 b = -1) (hs : M.1 3 a = nI s) (ht : M.1 3 b = nI t) (hs2 : s ≤ 40) (ht2 : t ≤ 40) (hC : FCS M 8 D) (hp : n ≤ s ∧ dn D ≤ t) (hx : ∀ j, j < n → okHs D (M.1 4 (a * 40 + j))) : XC g l mX7_refusalToForetell (d + 1) [xr 0, xi (nI a), xi (nI n), xi (nI b), xi 1] M (XE (some (xi (0))) (xup M 0 7 0)) := by
  show XW g l mX7_refusalToForetell _ 0 [some (xr 0), some (xi (nI a)), some (xi (nI n)), some (xi (nI b)), some (xi 1), none] [] M _
  have q1 := pl_0 (n := n) (s := s) (by omega)
  have hn6 := hC.1
  have q2 := pl_0 (n := dn D) (s := t) (by omega)
  refine xw_aload_n dX7_refusalToForetell_0 rfl ?_
  refine xw_getR dX7_refusalToForetell_1 fl_X7_26 rfl rfl ?_
  refine xw_cV0B dX7_refusalToForetell_4 okX1_isThere ml_X7_148 rfl rfl rfl rfl (s_X1_isThere xf_8) (fun p4 => ?_) (fun p4 => ?_)
  · refine xw_if_ne (tgt := 13) dX7_refusalToForetell_7 (by decide) (fun _ => ?_) (fun q9 => absurd q9 (by decide))
    refine xw_aload_n dX7_refusalToForetell_13 rfl ?_
    refine xw_getR dX7_refusalToForetell_14 fl_X7_10 rfl rfl ?_
    refine xw_iload_n dX7_refusalToForetell_17 rfl ?_
    refine xw_cV1B dX7_refusalToForetell_18 okX6_isNumber ml_X7_59 rfl rfl rfl rfl (s_X6_isNumber _) (fun p18 => ?_) (fun p18 => ?_)
    · refine xw_if_eq (tgt := 51) dX7_refusalToForetell_21 (by decide) (fun q9 => absurd q9 (by decide)) (fun _ => ?_)
      refine xw_aload_n dX7_refusalToForetell_24 rfl ?_
      refine xw_getR dX7_refusalToForetell_25 fl_X7_10 rfl rfl ?_
      refine xw_iload_n dX7_refusalToForetell_28 rfl ?_
      refine xw_cV1B dX7_refusalToForetell_29 okX6_isNumber ml_X7_59 rfl rfl rfl rfl (s_X6_isNumber _) (fun p29 => ?_) (fun p29 => ?_)
      · refine xw_if_eq (tgt := 51) dX7_refusalToForetell_32 (by decide) (fun q9 => absurd q9 (by decide)) (fun _ => ?_)
        refine xw_iload_n dX7_refusalToForetell_35 rfl ?_
        refine xw_iconst (v := 1) dX7_refusalToForetell_36 (by decide) ?_
        refine xw_icmp_ltN (b := 1) (tgt := 51) dX7_refusalToForetell_37 (by decide) (by omega) (fun c37 => ?_) (fun c37 => ?_)
        · exfalso; first | contradiction | omega | (have e0 := nI_lt8 ha; have e1 := nI_lt8 hb; grind)
        · refine xw_iload_n dX7_refusalToForetell_40 rfl ?_
          refine xw_bipush (v := 8) dX7_refusalToForetell_41 (by decide) ?_
          refine xw_icmp_gtN (b := 8) (tgt := 51) dX7_refusalToForetell_43 (by decide) (by omega) (fun c43 => ?_) (fun c43 => ?_)
          · exfalso; first | contradiction | omega | (have e0 := nI_lt8 ha; have e1 := nI_lt8 hb; grind)
          · refine xw_iload dX7_refusalToForetell_46 rfl ?_
            refine xw_if_ne (tgt := 54) dX7_refusalToForetell_48 (by decide) (fun _ => ?_) (fun q9 => absurd q9 (by decide))
            refine xw_aload_n dX7_refusalToForetell_54 rfl ?_
            refine xw_getR dX7_refusalToForetell_55 fl_X7_10 rfl rfl ?_
            refine xw_iload_n dX7_refusalToForetell_58 rfl ?_
            refine xw_cV1B dX7_refusalToForetell_59 okX6_isMissing ml_X7_78 rfl rfl rfl rfl (s_X6_isMissing ha) (fun p59 => ?_) (fun p59 => ?_)
            · exfalso; first | contradiction | omega | (have e0 := nI_lt8 ha; have e1 := nI_lt8 hb; grind)
            · refine xw_if_ne (tgt := 76) dX7_refusalToForetell_62 (by decide) (fun q9 => absurd q9 (by decide)) (fun _ => ?_)
              refine xw_aload_n dX7_refusalToForetell_65 rfl ?_
              refine xw_getR dX7_refusalToForetell_66 fl_X7_10 rfl rfl ?_
              refine xw_iload_n dX7_refusalToForetell_69 rfl ?_
              refine xw_cV1B dX7_refusalToForetell_70 okX6_isMissing ml_X7_78 rfl rfl rfl rfl (s_X6_isMissing hb) (fun p70 => ?_) (fun p70 => ?_)
              · exfalso; first | contradiction | omega | (have e0 := nI_lt8 ha; have e1 := nI_lt8 hb; grind)
              · refine xw_if_eq (tgt := 82) dX7_refusalToForetell_73 (by decide) (fun _ => ?_) (fun q9 => absurd q9 (by decide))
                refine xw_aload_n dX7_refusalToForetell_82 rfl ?_
                refine xw_getR dX7_refusalToForetell_83 fl_X7_10 rfl rfl ?_
                refine xw_iload_n dX7_refusalToForetell_86 rfl ?_
                refine xw_iconst (v := 0) dX7_refusalToForetell_87 (by decide) ?_
                refine xw_iload_n dX7_refusalToForetell_88 rfl ?_
                refine xw_cV3B dX7_refusalToForetell_89 okX6_hasPlaces ml_X7_81 rfl rfl rfl rfl (s_X6_hasPlaces _ _ ha hs hs2) (fun p89 => ?_) (fun p89 => ?_)
                · refine xw_if_eq (tgt := 114) dX7_refusalToForetell_92 (by decide) (fun q9 => absurd q9 (by decide)) (fun _ => ?_)
                  refine xw_aload_n dX7_refusalToForetell_95 rfl ?_
                  refine xw_getR dX7_refusalToForetell_96 fl_X7_10 rfl rfl ?_
                  refine xw_iload_n dX7_refusalToForetell_99 rfl ?_
                  refine xw_iconst (v := 0) dX7_refusalToForetell_100 (by decide) ?_
                  refine xw_aload_n dX7_refusalToForetell_101 rfl ?_
                  refine xw_getR dX7_refusalToForetell_102 fl_X7_26 rfl rfl ?_
                  refine xw_getV dX7_refusalToForetell_105 fl_X7_127 rfl rfl (hC.2.2.2.1) ?_
                  refine xw_cV3B dX7_refusalToForetell_108 okX6_hasPlaces ml_X7_81 rfl rfl rfl rfl (s_X6_hasPlaces _ _ hb ht ht2) (fun p108 => ?_) (fun p108 => ?_)
                  · refine xw_if_ne (tgt := 120) dX7_refusalToForetell_111 (by decide) (fun _ => ?_) (fun q9 => absurd q9 (by decide))
                    refine xw_iconst (v := 0) dX7_refusalToForetell_120 (by decide) ?_
                    refine xw_istore dX7_refusalToForetell_121 rfl rfl ?_
                    exact lp_rf_ok hC ha (by omega) hx n 0 (by omega)
                  · exfalso; first | contradiction | omega | (have e0 := nI_lt8 ha; have e1 := nI_lt8 hb; grind)
                · exfalso; first | contradiction | omega | (have e0 := nI_lt8 ha; have e1 := nI_lt8 hb; grind)
      · exfalso; first | contradiction | omega | (have e0 := nI_lt8 ha; have e1 := nI_lt8 hb; grind)
    · exfalso; first | contradiction | omega | (have e0 := nI_lt8 ha; have e1 := nI_lt8 hb; grind)
  · exfalso; first | contradiction | omega | (have e0 := nI_lt8 ha; have e1 := nI_lt8 hb; grind)
set_option maxRecDepth 20000 in
theorem lp_X7_foretell {D : FD} {a b n PP : Nat} {it : Nat → Nat} {v : Nat → Int32} (hC : FCS M 8 D) (hX : M.1 8 3 = nI PP) (hP : PP < 2 ^ 24) (hg : GW D PP) (ha : a < 8) (hb : b < 8) (hn : n ≤ 8) (hit : ∀ j, j < n → M.1 4 (a * 40 + j) = nI (it j) ∧ it j < dn D) (hv : ∀ h, h < dn D → M.1 4 (b * 40 + h) = v h)  : ∀ (q k : Nat) (M1 : XM), k + q = n → FrF M M1 → (∀ s, s < 1 * 2 ^ k → M1.1 44 s = nI (stB D it PP k s)) → XW g l mX7_foretellLies (d + 5) 17 [some (xr 0), some (xi (nI a)), some (xi (nI n)), some (xi (nI b)), some (xi (nI k))] [] M1 (fun r M' => r = none ∧ Fits M' (fitS D it PP n v) (1 * 2 ^ n) ∧ FrF M M') := by
  have hhs : ∀ h, h < dn D → 1 ≤ dW D h := fun k hk => (hC.2.2.2.2.2.2.2.2.2.2.2.2 k hk).2.1
  have hn6 := hC.1
  intro q
  induction q with
  | zero =>
    intro k M1 hk hF h44
    have hk : k = n := by omega
    subst hk
    have hC1 := hC.fr hF
    have hv1 : ∀ h, h < dn D → M1.1 4 (b * 40 + h) = v h := fun h hh => (hF.1 4 _ (by omega) (by omega) (by omega) (by omega)).trans (hv h hh)
    have hfit : ∀ s, s < 1 * 2 ^ k → (M1.1 44 s = oneV D v ↔ fitS D it PP k v s) := fun s hs => by
      rw [h44 s hs]
      exact fit_iff hn6 (stB_ok hn6 hhs hP hg k s (fun j hj => (hit j hj).2)).2.2.2
    refine xw_iload dX7_foretellLies_17 rfl ?_
    refine xw_iload_n dX7_foretellLies_19 rfl ?_
    refine xw_icmp_geN (tgt := 52) dX7_foretellLies_20 (by decide) (by omega) (fun c20 => ?_) (fun c20 => ?_)
    · refine xw_aload_n dX7_foretellLies_52 rfl ?_
      refine xw_getR dX7_foretellLies_53 fl_X7_44 rfl rfl ?_
      refine xw_iload_n dX7_foretellLies_56 rfl ?_
      refine xw_aload_n dX7_foretellLies_57 rfl ?_
      refine xw_iload_n dX7_foretellLies_58 rfl ?_
      refine xw_cV1E dX7_foretellLies_59 okX7_standsAsOne ml_X7_276 rfl rfl rfl rfl (s_X7_standsAsOne hC1 hb hv1) ?_
      refine xw_cV2Q dX7_foretellLies_62 okX2_keepFitting ml_X7_279 rfl rfl rfl rfl (s_X2_keepFitting hn hfit) ?_
      rintro _ M' ⟨rfl, hF2, hF3⟩
      refine xw_ret dX7_foretellLies_65 rfl ?_
      exact ⟨rfl, hF2, hF.tr hF3⟩
    · exfalso; omega
  | succ q ih =>
    intro k M1 hk hF h44
    have hC1 := hC.fr hF
    have hik := hit k (by omega)
    have hI1 : M1.1 4 (a * 40 + k) = nI (it k) := (hF.1 4 _ (by omega) (by omega) (by omega) (by omega)).trans hik.1
    have hp := p8 (k := k) (by omega)
    have ih2 := ih (k + 1) (adM M1 D (fun s => stB D it PP k s) (it k) k (1 * 2 ^ k)) (by omega) (hF.tr (adM_fr _ _ _ _ _ _)) (fun s hs => by
      have hs : s < 1 * 2 ^ k + 1 * 2 ^ k := by rw [Nat.pow_succ] at hs; omega
      rw [adM_at]
      rcases Nat.lt_or_ge s (1 * 2 ^ k) with z | z
      · rw [if_neg (by omega), h44 s z, stB_low (by omega)]
      · rw [if_pos (by omega)]
        have e := stB_high (D := D) (it := it) (P := PP) (s := s - 1 * 2 ^ k) (k := k) (by omega)
        rw [show s - 1 * 2 ^ k + 2 ^ k = s by omega] at e
        rw [e])
    refine xw_iload dX7_foretellLies_17 rfl ?_
    refine xw_iload_n dX7_foretellLies_19 rfl ?_
    refine xw_icmp_geN (tgt := 52) dX7_foretellLies_20 (by decide) (by omega) (fun c20 => ?_) (fun c20 => ?_)
    · exfalso; omega
    · refine xw_aload_n dX7_foretellLies_23 rfl ?_
      refine xw_getR dX7_foretellLies_24 fl_X7_44 rfl rfl ?_
      refine xw_aload_n dX7_foretellLies_27 rfl ?_
      refine xw_getR dX7_foretellLies_28 fl_X7_26 rfl rfl ?_
      refine xw_aload_n dX7_foretellLies_31 rfl ?_
      refine xw_getR dX7_foretellLies_32 fl_X7_10 rfl rfl ?_
      refine xw_iload_n dX7_foretellLies_35 rfl ?_
      refine xw_iload dX7_foretellLies_36 rfl ?_
      refine xw_cV2E dX7_foretellLies_38 okX6_item ml_X7_265 rfl rfl rfl rfl ((s_X6_item (by omega)).eqv (by rw [hI1]) rfl) ?_
      refine xw_iload dX7_foretellLies_41 rfl ?_
      refine xw_cV3N dX7_foretellLies_43 okX2_addSaying ml_X7_272 rfl rfl rfl rfl (s_X2_addSaying (st := fun s => stB D it PP k s) hC1 hik.2 (by omega) (fun s hs => ⟨h44 s hs, (stB_ok hn6 hhs hP hg k s (fun j hj => (hit j (by omega)).2)).1⟩)) ?_
      refine xw_iincN (v := 1) dX7_foretellLies_46 (by decide) rfl rfl rfl ?_
      refine xw_goto (tgt := 17) dX7_foretellLies_49 (by decide) ?_
      exact ih2
set_option maxRecDepth 20000 in
theorem s_X7_foretellLies {D : FD} {a b n PP : Nat} {it : Nat → Nat} {v : Nat → Int32} (hC : FCS M 8 D) (hX : M.1 8 3 = nI PP) (hP : PP < 2 ^ 24) (hg : GW D PP) (ha : a < 8) (hb : b < 8) (hn : n ≤ 8) (hit : ∀ j, j < n → M.1 4 (a * 40 + j) = nI (it j) ∧ it j < dn D) (hv : ∀ h, h < dn D → M.1 4 (b * 40 + h) = v h)  : XC g l mX7_foretellLies (d + 5) [xr 0, xi (nI a), xi (nI n), xi (nI b)] M (fun r M' => r = none ∧ Fits M' (fitS D it PP n v) (1 * 2 ^ n) ∧ FrF M M') := by
  show XW g l mX7_foretellLies _ 0 [some (xr 0), some (xi (nI a)), some (xi (nI n)), some (xi (nI b)), none] [] M _
  refine xw_aload_n dX7_foretellLies_0 rfl ?_
  refine xw_getR dX7_foretellLies_1 fl_X7_44 rfl rfl ?_
  refine xw_aload_n dX7_foretellLies_4 rfl ?_
  refine xw_getR dX7_foretellLies_5 fl_X7_26 rfl rfl ?_
  refine xw_getV dX7_foretellLies_8 fl_X7_136 rfl rfl (hX) ?_
  refine xw_cV1N dX7_foretellLies_11 okX2_beginAt ml_X7_268 rfl rfl rfl rfl (s_X2_beginAt) ?_
  refine xw_iconst (v := 0) dX7_foretellLies_14 (by decide) ?_
  refine xw_istore dX7_foretellLies_15 rfl rfl ?_
  refine lp_X7_foretell hC hX hP hg ha hb hn hit hv n 0 _ (by omega) ⟨fun a b q1 q2 q3 q4 => xup_cell _ _ q1, rfl⟩ (fun s hs => ?_)
  have hs : s = 0 := by omega
  subst hs
  rw [xup_same]; rfl
set_option maxRecDepth 20000 in
theorem k_X7_lies_state {a n b i : Int32} (h : ¬ 0 < M.1 8 2) : XC g l mX7_lies (d + 6) [xr 0, xi a, xi n, xi b, xi i] M (XE (some (xi (-1000002))) (M)) := by
  show XW g l mX7_lies _ 0 [some (xr 0), some (xi a), some (xi n), some (xi b), some (xi i), none] [] M _
  refine xw_aload_n dX7_lies_0 rfl ?_
  refine xw_iload_n dX7_lies_1 rfl ?_
  refine xw_iload_n dX7_lies_2 rfl ?_
  refine xw_iload_n dX7_lies_3 rfl ?_
  refine xw_iload dX7_lies_4 rfl ?_
  refine xw_iconst (v := (-1)) dX7_lies_6 (by decide) ?_
  refine xw_icmp_lt (tgt := 14) dX7_lies_7 (by decide) (fun c7 => ?_) (fun c7 => ?_)
  · refine xw_iconst (v := 0) dX7_lies_14 (by decide) ?_
    refine xw_cV4E dX7_lies_15 okX7_refusalToForetell ml_X7_191 rfl rfl rfl rfl (rf_state h) ?_
    refine xw_istore dX7_lies_18 rfl rfl ?_
    refine xw_iload dX7_lies_20 rfl ?_
    refine xw_if_eq (tgt := 28) dX7_lies_22 (by decide) (fun c22 => ?_) (fun c22 => ?_)
    · exfalso; exact absurd (by assumption) (by decide)
    · refine xw_iload dX7_lies_25 rfl ?_
      refine xw_ireti dX7_lies_27 rfl ?_
      exact ⟨rfl, rfl⟩
  · refine xw_iconst (v := 1) dX7_lies_10 (by decide) ?_
    refine xw_goto (tgt := 15) dX7_lies_11 (by decide) ?_
    refine xw_cV4E dX7_lies_15 okX7_refusalToForetell ml_X7_191 rfl rfl rfl rfl (rf_state h) ?_
    refine xw_istore dX7_lies_18 rfl rfl ?_
    refine xw_iload dX7_lies_20 rfl ?_
    refine xw_if_eq (tgt := 28) dX7_lies_22 (by decide) (fun c22 => ?_) (fun c22 => ?_)
    · exfalso; exact absurd (by assumption) (by decide)
    · refine xw_iload dX7_lies_25 rfl ?_
      refine xw_ireti dX7_lies_27 rfl ?_
      exact ⟨rfl, rfl⟩
set_option maxRecDepth 20000 in
theorem k_X7_lies_bad {a n b i : Int32} (h : 0 < M.1 8 2) (h2 : ¬ ((0 ≤ a ∧ a < 8) ∧ (0 ≤ b ∧ b < 8) ∧ 1 ≤ n ∧ n ≤ 8 ∧ (-1 ≤ i))) : XC g l mX7_lies (d + 6) [xr 0, xi a, xi n, xi b, xi i] M (XE (some (xi (-1000001))) (M)) := by
  show XW g l mX7_lies _ 0 [some (xr 0), some (xi a), some (xi n), some (xi b), some (xi i), none] [] M _
  refine xw_aload_n dX7_lies_0 rfl ?_
  refine xw_iload_n dX7_lies_1 rfl ?_
  refine xw_iload_n dX7_lies_2 rfl ?_
  refine xw_iload_n dX7_lies_3 rfl ?_
  refine xw_iload dX7_lies_4 rfl ?_
  refine xw_iconst (v := (-1)) dX7_lies_6 (by decide) ?_
  refine xw_icmp_lt (tgt := 14) dX7_lies_7 (by decide) (fun c7 => ?_) (fun c7 => ?_)
  · refine xw_iconst (v := 0) dX7_lies_14 (by decide) ?_
    refine xw_cV4E dX7_lies_15 okX7_refusalToForetell ml_X7_191 rfl rfl rfl rfl (rf_bad h (by grind)) ?_
    refine xw_istore dX7_lies_18 rfl rfl ?_
    refine xw_iload dX7_lies_20 rfl ?_
    refine xw_if_eq (tgt := 28) dX7_lies_22 (by decide) (fun c22 => ?_) (fun c22 => ?_)
    · exfalso; exact absurd (by assumption) (by decide)
    · refine xw_iload dX7_lies_25 rfl ?_
      refine xw_ireti dX7_lies_27 rfl ?_
      exact ⟨rfl, rfl⟩
  · refine xw_iconst (v := 1) dX7_lies_10 (by decide) ?_
    refine xw_goto (tgt := 15) dX7_lies_11 (by decide) ?_
    refine xw_cV4E dX7_lies_15 okX7_refusalToForetell ml_X7_191 rfl rfl rfl rfl (rf_bad h (by grind)) ?_
    refine xw_istore dX7_lies_18 rfl rfl ?_
    refine xw_iload dX7_lies_20 rfl ?_
    refine xw_if_eq (tgt := 28) dX7_lies_22 (by decide) (fun c22 => ?_) (fun c22 => ?_)
    · exfalso; exact absurd (by assumption) (by decide)
    · refine xw_iload dX7_lies_25 rfl ?_
      refine xw_ireti dX7_lies_27 rfl ?_
      exact ⟨rfl, rfl⟩
set_option maxRecDepth 20000 in
theorem k_X7_lies_null {a b : Nat} {n i : Int32} (h : 0 < M.1 8 2) (ha : a < 8) (hb : b < 8) (hn : 1 ≤ n ∧ n ≤ 8) (hi : -1 ≤ i) (h2 : M.1 2 a = -1 ∨ M.1 2 b = -1) : XC g l mX7_lies (d + 6) [xr 0, xi (nI a), xi n, xi (nI b), xi i] M (XE (some (xi (-1000011))) (xup M 0 7 1)) := by
  show XW g l mX7_lies _ 0 [some (xr 0), some (xi (nI a)), some (xi n), some (xi (nI b)), some (xi i), none] [] M _
  refine xw_aload_n dX7_lies_0 rfl ?_
  refine xw_iload_n dX7_lies_1 rfl ?_
  refine xw_iload_n dX7_lies_2 rfl ?_
  refine xw_iload_n dX7_lies_3 rfl ?_
  refine xw_iload dX7_lies_4 rfl ?_
  refine xw_iconst (v := (-1)) dX7_lies_6 (by decide) ?_
  refine xw_icmp_lt (tgt := 14) dX7_lies_7 (by decide) (fun c7 => ?_) (fun c7 => ?_)
  · exfalso; first | exact absurd (by assumption) (show ¬ (_ : Int32) = 0 by decide) | grind
  · refine xw_iconst (v := 1) dX7_lies_10 (by decide) ?_
    refine xw_goto (tgt := 15) dX7_lies_11 (by decide) ?_
    refine xw_cV4E dX7_lies_15 okX7_refusalToForetell ml_X7_191 rfl rfl rfl rfl (rf_null h ha hb hn h2) ?_
    refine xw_istore dX7_lies_18 rfl rfl ?_
    refine xw_iload dX7_lies_20 rfl ?_
    refine xw_if_eq (tgt := 28) dX7_lies_22 (by decide) (fun c22 => ?_) (fun c22 => ?_)
    · exfalso; first | exact absurd (by assumption) (show ¬ (_ : Int32) = 0 by decide) | grind
    · refine xw_iload dX7_lies_25 rfl ?_
      refine xw_ireti dX7_lies_27 rfl ?_
      exact ⟨rfl, rfl⟩
set_option maxRecDepth 20000 in
theorem k_X7_lies_place {D : FD} {i : Int32} (hi : -1 ≤ i) {a b n s t : Nat} (h : 0 < M.1 8 2) (ha : a < 8) (hb : b < 8) (hn : 1 ≤ n ∧ n ≤ 8) (h0 : ¬ M.1 2 a = -1) (h1 : ¬ M.1 2 b = -1) (hs : M.1 3 a = nI s) (ht : M.1 3 b = nI t) (hs2 : s ≤ 40) (ht2 : t ≤ 40) (hC : FCS M 8 D) (hp : ¬ (n ≤ s ∧ dn D ≤ t)) : XC g l mX7_lies (d + 6) [xr 0, xi (nI a), xi (nI n), xi (nI b), xi i] M (XE (some (xi (-1000012))) (xup M 0 7 2)) := by
  show XW g l mX7_lies _ 0 [some (xr 0), some (xi (nI a)), some (xi (nI n)), some (xi (nI b)), some (xi i), none] [] M _
  refine xw_aload_n dX7_lies_0 rfl ?_
  refine xw_iload_n dX7_lies_1 rfl ?_
  refine xw_iload_n dX7_lies_2 rfl ?_
  refine xw_iload_n dX7_lies_3 rfl ?_
  refine xw_iload dX7_lies_4 rfl ?_
  refine xw_iconst (v := (-1)) dX7_lies_6 (by decide) ?_
  refine xw_icmp_lt (tgt := 14) dX7_lies_7 (by decide) (fun c7 => ?_) (fun c7 => ?_)
  · exfalso; first | exact absurd (by assumption) (show ¬ (_ : Int32) = 0 by decide) | grind
  · refine xw_iconst (v := 1) dX7_lies_10 (by decide) ?_
    refine xw_goto (tgt := 15) dX7_lies_11 (by decide) ?_
    refine xw_cV4E dX7_lies_15 okX7_refusalToForetell ml_X7_191 rfl rfl rfl rfl (rf_place h ha hb hn h0 h1 hs ht hs2 ht2 hC hp) ?_
    refine xw_istore dX7_lies_18 rfl rfl ?_
    refine xw_iload dX7_lies_20 rfl ?_
    refine xw_if_eq (tgt := 28) dX7_lies_22 (by decide) (fun c22 => ?_) (fun c22 => ?_)
    · exfalso; first | exact absurd (by assumption) (show ¬ (_ : Int32) = 0 by decide) | grind
    · refine xw_iload dX7_lies_25 rfl ?_
      refine xw_ireti dX7_lies_27 rfl ?_
      exact ⟨rfl, rfl⟩
set_option maxRecDepth 20000 in
theorem k_X7_lies_item {D : FD} {i : Int32} (hi : -1 ≤ i) {a b n s t : Nat} (h : 0 < M.1 8 2) (ha : a < 8) (hb : b < 8) (hn : 1 ≤ n ∧ n ≤ 8) (h0 : ¬ M.1 2 a = -1) (h1 : ¬ M.1 2 b = -1) (hs : M.1 3 a = nI s) (ht : M.1 3 b = nI t) (hs2 : s ≤ 40) (ht2 : t ≤ 40) (hC : FCS M 8 D) (hp : n ≤ s ∧ dn D ≤ t) (hx : ¬ ∀ j, j < n → okHs D (M.1 4 (a * 40 + j))) : XC g l mX7_lies (d + 6) [xr 0, xi (nI a), xi (nI n), xi (nI b), xi i] M (XE (some (xi (-1000001))) (M)) := by
  show XW g l mX7_lies _ 0 [some (xr 0), some (xi (nI a)), some (xi (nI n)), some (xi (nI b)), some (xi i), none] [] M _
  refine xw_aload_n dX7_lies_0 rfl ?_
  refine xw_iload_n dX7_lies_1 rfl ?_
  refine xw_iload_n dX7_lies_2 rfl ?_
  refine xw_iload_n dX7_lies_3 rfl ?_
  refine xw_iload dX7_lies_4 rfl ?_
  refine xw_iconst (v := (-1)) dX7_lies_6 (by decide) ?_
  refine xw_icmp_lt (tgt := 14) dX7_lies_7 (by decide) (fun c7 => ?_) (fun c7 => ?_)
  · exfalso; first | exact absurd (by assumption) (show ¬ (_ : Int32) = 0 by decide) | grind
  · refine xw_iconst (v := 1) dX7_lies_10 (by decide) ?_
    refine xw_goto (tgt := 15) dX7_lies_11 (by decide) ?_
    refine xw_cV4E dX7_lies_15 okX7_refusalToForetell ml_X7_191 rfl rfl rfl rfl (rf_item h ha hb hn h0 h1 hs ht hs2 ht2 hC hp hx) ?_
    refine xw_istore dX7_lies_18 rfl rfl ?_
    refine xw_iload dX7_lies_20 rfl ?_
    refine xw_if_eq (tgt := 28) dX7_lies_22 (by decide) (fun c22 => ?_) (fun c22 => ?_)
    · exfalso; first | exact absurd (by assumption) (show ¬ (_ : Int32) = 0 by decide) | grind
    · refine xw_iload dX7_lies_25 rfl ?_
      refine xw_ireti dX7_lies_27 rfl ?_
      exact ⟨rfl, rfl⟩
set_option maxRecDepth 20000 in
theorem k_X7_guess_state {a n b i : Int32} (h : ¬ 0 < M.1 8 2) : XC g l mX7_guess (d + 6) [xr 0, xi a, xi n, xi b, xi i] M (XE (some (xi (-1000002))) (M)) := by
  show XW g l mX7_guess _ 0 [some (xr 0), some (xi a), some (xi n), some (xi b), some (xi i), none] [] M _
  refine xw_aload_n dX7_guess_0 rfl ?_
  refine xw_iload_n dX7_guess_1 rfl ?_
  refine xw_iload_n dX7_guess_2 rfl ?_
  refine xw_iload_n dX7_guess_3 rfl ?_
  refine xw_iload dX7_guess_4 rfl ?_
  refine xw_if_lt (tgt := 19) dX7_guess_6 (by decide) (fun c6 => ?_) (fun c6 => ?_)
  · refine xw_iconst (v := 0) dX7_guess_19 (by decide) ?_
    refine xw_cV4E dX7_guess_20 okX7_refusalToForetell ml_X7_191 rfl rfl rfl rfl (rf_state h) ?_
    refine xw_istore dX7_guess_23 rfl rfl ?_
    refine xw_iload dX7_guess_25 rfl ?_
    refine xw_if_eq (tgt := 33) dX7_guess_27 (by decide) (fun c27 => ?_) (fun c27 => ?_)
    · exfalso; exact absurd (by assumption) (by decide)
    · refine xw_iload dX7_guess_30 rfl ?_
      refine xw_ireti dX7_guess_32 rfl ?_
      exact ⟨rfl, rfl⟩
  · refine xw_iload dX7_guess_9 rfl ?_
    refine xw_iconst (v := 2) dX7_guess_11 (by decide) ?_
    refine xw_icmp_gt (tgt := 19) dX7_guess_12 (by decide) (fun c12 => ?_) (fun c12 => ?_)
    · refine xw_iconst (v := 0) dX7_guess_19 (by decide) ?_
      refine xw_cV4E dX7_guess_20 okX7_refusalToForetell ml_X7_191 rfl rfl rfl rfl (rf_state h) ?_
      refine xw_istore dX7_guess_23 rfl rfl ?_
      refine xw_iload dX7_guess_25 rfl ?_
      refine xw_if_eq (tgt := 33) dX7_guess_27 (by decide) (fun c27 => ?_) (fun c27 => ?_)
      · exfalso; exact absurd (by assumption) (by decide)
      · refine xw_iload dX7_guess_30 rfl ?_
        refine xw_ireti dX7_guess_32 rfl ?_
        exact ⟨rfl, rfl⟩
    · refine xw_iconst (v := 1) dX7_guess_15 (by decide) ?_
      refine xw_goto (tgt := 20) dX7_guess_16 (by decide) ?_
      refine xw_cV4E dX7_guess_20 okX7_refusalToForetell ml_X7_191 rfl rfl rfl rfl (rf_state h) ?_
      refine xw_istore dX7_guess_23 rfl rfl ?_
      refine xw_iload dX7_guess_25 rfl ?_
      refine xw_if_eq (tgt := 33) dX7_guess_27 (by decide) (fun c27 => ?_) (fun c27 => ?_)
      · exfalso; exact absurd (by assumption) (by decide)
      · refine xw_iload dX7_guess_30 rfl ?_
        refine xw_ireti dX7_guess_32 rfl ?_
        exact ⟨rfl, rfl⟩
set_option maxRecDepth 20000 in
theorem k_X7_guess_bad {a n b i : Int32} (h : 0 < M.1 8 2) (h2 : ¬ ((0 ≤ a ∧ a < 8) ∧ (0 ≤ b ∧ b < 8) ∧ 1 ≤ n ∧ n ≤ 8 ∧ (0 ≤ i ∧ i ≤ 2))) : XC g l mX7_guess (d + 6) [xr 0, xi a, xi n, xi b, xi i] M (XE (some (xi (-1000001))) (M)) := by
  show XW g l mX7_guess _ 0 [some (xr 0), some (xi a), some (xi n), some (xi b), some (xi i), none] [] M _
  refine xw_aload_n dX7_guess_0 rfl ?_
  refine xw_iload_n dX7_guess_1 rfl ?_
  refine xw_iload_n dX7_guess_2 rfl ?_
  refine xw_iload_n dX7_guess_3 rfl ?_
  refine xw_iload dX7_guess_4 rfl ?_
  refine xw_if_lt (tgt := 19) dX7_guess_6 (by decide) (fun c6 => ?_) (fun c6 => ?_)
  · refine xw_iconst (v := 0) dX7_guess_19 (by decide) ?_
    refine xw_cV4E dX7_guess_20 okX7_refusalToForetell ml_X7_191 rfl rfl rfl rfl (rf_bad h (by grind)) ?_
    refine xw_istore dX7_guess_23 rfl rfl ?_
    refine xw_iload dX7_guess_25 rfl ?_
    refine xw_if_eq (tgt := 33) dX7_guess_27 (by decide) (fun c27 => ?_) (fun c27 => ?_)
    · exfalso; exact absurd (by assumption) (by decide)
    · refine xw_iload dX7_guess_30 rfl ?_
      refine xw_ireti dX7_guess_32 rfl ?_
      exact ⟨rfl, rfl⟩
  · refine xw_iload dX7_guess_9 rfl ?_
    refine xw_iconst (v := 2) dX7_guess_11 (by decide) ?_
    refine xw_icmp_gt (tgt := 19) dX7_guess_12 (by decide) (fun c12 => ?_) (fun c12 => ?_)
    · refine xw_iconst (v := 0) dX7_guess_19 (by decide) ?_
      refine xw_cV4E dX7_guess_20 okX7_refusalToForetell ml_X7_191 rfl rfl rfl rfl (rf_bad h (by grind)) ?_
      refine xw_istore dX7_guess_23 rfl rfl ?_
      refine xw_iload dX7_guess_25 rfl ?_
      refine xw_if_eq (tgt := 33) dX7_guess_27 (by decide) (fun c27 => ?_) (fun c27 => ?_)
      · exfalso; exact absurd (by assumption) (by decide)
      · refine xw_iload dX7_guess_30 rfl ?_
        refine xw_ireti dX7_guess_32 rfl ?_
        exact ⟨rfl, rfl⟩
    · refine xw_iconst (v := 1) dX7_guess_15 (by decide) ?_
      refine xw_goto (tgt := 20) dX7_guess_16 (by decide) ?_
      refine xw_cV4E dX7_guess_20 okX7_refusalToForetell ml_X7_191 rfl rfl rfl rfl (rf_bad h (by grind)) ?_
      refine xw_istore dX7_guess_23 rfl rfl ?_
      refine xw_iload dX7_guess_25 rfl ?_
      refine xw_if_eq (tgt := 33) dX7_guess_27 (by decide) (fun c27 => ?_) (fun c27 => ?_)
      · exfalso; exact absurd (by assumption) (by decide)
      · refine xw_iload dX7_guess_30 rfl ?_
        refine xw_ireti dX7_guess_32 rfl ?_
        exact ⟨rfl, rfl⟩
set_option maxRecDepth 20000 in
theorem k_X7_guess_null {a b : Nat} {n i : Int32} (h : 0 < M.1 8 2) (ha : a < 8) (hb : b < 8) (hn : 1 ≤ n ∧ n ≤ 8) (hi : 0 ≤ i ∧ i ≤ 2) (h2 : M.1 2 a = -1 ∨ M.1 2 b = -1) : XC g l mX7_guess (d + 6) [xr 0, xi (nI a), xi n, xi (nI b), xi i] M (XE (some (xi (-1000011))) (xup M 0 7 1)) := by
  show XW g l mX7_guess _ 0 [some (xr 0), some (xi (nI a)), some (xi n), some (xi (nI b)), some (xi i), none] [] M _
  refine xw_aload_n dX7_guess_0 rfl ?_
  refine xw_iload_n dX7_guess_1 rfl ?_
  refine xw_iload_n dX7_guess_2 rfl ?_
  refine xw_iload_n dX7_guess_3 rfl ?_
  refine xw_iload dX7_guess_4 rfl ?_
  refine xw_if_lt (tgt := 19) dX7_guess_6 (by decide) (fun c6 => ?_) (fun c6 => ?_)
  · exfalso; first | exact absurd (by assumption) (show ¬ (_ : Int32) = 0 by decide) | grind
  · refine xw_iload dX7_guess_9 rfl ?_
    refine xw_iconst (v := 2) dX7_guess_11 (by decide) ?_
    refine xw_icmp_gt (tgt := 19) dX7_guess_12 (by decide) (fun c12 => ?_) (fun c12 => ?_)
    · exfalso; first | exact absurd (by assumption) (show ¬ (_ : Int32) = 0 by decide) | grind
    · refine xw_iconst (v := 1) dX7_guess_15 (by decide) ?_
      refine xw_goto (tgt := 20) dX7_guess_16 (by decide) ?_
      refine xw_cV4E dX7_guess_20 okX7_refusalToForetell ml_X7_191 rfl rfl rfl rfl (rf_null h ha hb hn h2) ?_
      refine xw_istore dX7_guess_23 rfl rfl ?_
      refine xw_iload dX7_guess_25 rfl ?_
      refine xw_if_eq (tgt := 33) dX7_guess_27 (by decide) (fun c27 => ?_) (fun c27 => ?_)
      · exfalso; first | exact absurd (by assumption) (show ¬ (_ : Int32) = 0 by decide) | grind
      · refine xw_iload dX7_guess_30 rfl ?_
        refine xw_ireti dX7_guess_32 rfl ?_
        exact ⟨rfl, rfl⟩
set_option maxRecDepth 20000 in
theorem k_X7_guess_place {D : FD} {i : Int32} (hi : 0 ≤ i ∧ i ≤ 2) {a b n s t : Nat} (h : 0 < M.1 8 2) (ha : a < 8) (hb : b < 8) (hn : 1 ≤ n ∧ n ≤ 8) (h0 : ¬ M.1 2 a = -1) (h1 : ¬ M.1 2 b = -1) (hs : M.1 3 a = nI s) (ht : M.1 3 b = nI t) (hs2 : s ≤ 40) (ht2 : t ≤ 40) (hC : FCS M 8 D) (hp : ¬ (n ≤ s ∧ dn D ≤ t)) : XC g l mX7_guess (d + 6) [xr 0, xi (nI a), xi (nI n), xi (nI b), xi i] M (XE (some (xi (-1000012))) (xup M 0 7 2)) := by
  show XW g l mX7_guess _ 0 [some (xr 0), some (xi (nI a)), some (xi (nI n)), some (xi (nI b)), some (xi i), none] [] M _
  refine xw_aload_n dX7_guess_0 rfl ?_
  refine xw_iload_n dX7_guess_1 rfl ?_
  refine xw_iload_n dX7_guess_2 rfl ?_
  refine xw_iload_n dX7_guess_3 rfl ?_
  refine xw_iload dX7_guess_4 rfl ?_
  refine xw_if_lt (tgt := 19) dX7_guess_6 (by decide) (fun c6 => ?_) (fun c6 => ?_)
  · exfalso; first | exact absurd (by assumption) (show ¬ (_ : Int32) = 0 by decide) | grind
  · refine xw_iload dX7_guess_9 rfl ?_
    refine xw_iconst (v := 2) dX7_guess_11 (by decide) ?_
    refine xw_icmp_gt (tgt := 19) dX7_guess_12 (by decide) (fun c12 => ?_) (fun c12 => ?_)
    · exfalso; first | exact absurd (by assumption) (show ¬ (_ : Int32) = 0 by decide) | grind
    · refine xw_iconst (v := 1) dX7_guess_15 (by decide) ?_
      refine xw_goto (tgt := 20) dX7_guess_16 (by decide) ?_
      refine xw_cV4E dX7_guess_20 okX7_refusalToForetell ml_X7_191 rfl rfl rfl rfl (rf_place h ha hb hn h0 h1 hs ht hs2 ht2 hC hp) ?_
      refine xw_istore dX7_guess_23 rfl rfl ?_
      refine xw_iload dX7_guess_25 rfl ?_
      refine xw_if_eq (tgt := 33) dX7_guess_27 (by decide) (fun c27 => ?_) (fun c27 => ?_)
      · exfalso; first | exact absurd (by assumption) (show ¬ (_ : Int32) = 0 by decide) | grind
      · refine xw_iload dX7_guess_30 rfl ?_
        refine xw_ireti dX7_guess_32 rfl ?_
        exact ⟨rfl, rfl⟩
set_option maxRecDepth 20000 in
theorem k_X7_guess_item {D : FD} {i : Int32} (hi : 0 ≤ i ∧ i ≤ 2) {a b n s t : Nat} (h : 0 < M.1 8 2) (ha : a < 8) (hb : b < 8) (hn : 1 ≤ n ∧ n ≤ 8) (h0 : ¬ M.1 2 a = -1) (h1 : ¬ M.1 2 b = -1) (hs : M.1 3 a = nI s) (ht : M.1 3 b = nI t) (hs2 : s ≤ 40) (ht2 : t ≤ 40) (hC : FCS M 8 D) (hp : n ≤ s ∧ dn D ≤ t) (hx : ¬ ∀ j, j < n → okHs D (M.1 4 (a * 40 + j))) : XC g l mX7_guess (d + 6) [xr 0, xi (nI a), xi (nI n), xi (nI b), xi i] M (XE (some (xi (-1000001))) (M)) := by
  show XW g l mX7_guess _ 0 [some (xr 0), some (xi (nI a)), some (xi (nI n)), some (xi (nI b)), some (xi i), none] [] M _
  refine xw_aload_n dX7_guess_0 rfl ?_
  refine xw_iload_n dX7_guess_1 rfl ?_
  refine xw_iload_n dX7_guess_2 rfl ?_
  refine xw_iload_n dX7_guess_3 rfl ?_
  refine xw_iload dX7_guess_4 rfl ?_
  refine xw_if_lt (tgt := 19) dX7_guess_6 (by decide) (fun c6 => ?_) (fun c6 => ?_)
  · exfalso; first | exact absurd (by assumption) (show ¬ (_ : Int32) = 0 by decide) | grind
  · refine xw_iload dX7_guess_9 rfl ?_
    refine xw_iconst (v := 2) dX7_guess_11 (by decide) ?_
    refine xw_icmp_gt (tgt := 19) dX7_guess_12 (by decide) (fun c12 => ?_) (fun c12 => ?_)
    · exfalso; first | exact absurd (by assumption) (show ¬ (_ : Int32) = 0 by decide) | grind
    · refine xw_iconst (v := 1) dX7_guess_15 (by decide) ?_
      refine xw_goto (tgt := 20) dX7_guess_16 (by decide) ?_
      refine xw_cV4E dX7_guess_20 okX7_refusalToForetell ml_X7_191 rfl rfl rfl rfl (rf_item h ha hb hn h0 h1 hs ht hs2 ht2 hC hp hx) ?_
      refine xw_istore dX7_guess_23 rfl rfl ?_
      refine xw_iload dX7_guess_25 rfl ?_
      refine xw_if_eq (tgt := 33) dX7_guess_27 (by decide) (fun c27 => ?_) (fun c27 => ?_)
      · exfalso; first | exact absurd (by assumption) (show ¬ (_ : Int32) = 0 by decide) | grind
      · refine xw_iload dX7_guess_30 rfl ?_
        refine xw_ireti dX7_guess_32 rfl ?_
        exact ⟨rfl, rfl⟩
set_option maxRecDepth 20000 in
theorem c_lies {D : FD} {PP : Nat} {it : Nat → Nat} {v : Nat → Int32} {i : Int32} {a b n s t : Nat} (h : 0 < M.1 8 2) (ha : a < 8) (hb : b < 8) (hn : 1 ≤ n ∧ n ≤ 8) (h0 : ¬ M.1 2 a = -1) (h1 : ¬ M.1 2 b = -1) (hs : M.1 3 a = nI s) (ht : M.1 3 b = nI t) (hs2 : s ≤ 40) (ht2 : t ≤ 40) (hC : FCS M 8 D) (hp : n ≤ s ∧ dn D ≤ t) (hX : M.1 8 3 = nI PP) (hP : PP < 2 ^ 24) (hg : GW D PP) (hit : ∀ j, j < n → M.1 4 (a * 40 + j) = nI (it j) ∧ it j < dn D) (hv : ∀ h, h < dn D → M.1 4 (b * 40 + h) = v h) (hi : -1 ≤ i) : XC g l mX7_lies (d + 6) [xr 0, xi (nI a), xi (nI n), xi (nI b), xi i] M (fun r M' => (∃ w, r = some (xi w) ∧ isAns (fitS D it PP n v) (1 * 2 ^ n) i w) ∧ FrF (xup M 0 7 0) M') := by
  have hn6 := hC.1
  have hx : ∀ j, j < n → okHs D (M.1 4 (a * 40 + j)) := fun j hj => by rw [(hit j hj).1]; exact nI_in0 (by omega) (hit j hj).2
  have h9 := p9 (k := n) (by omega)
  have hC2 : FCS (xup M 0 7 0) 8 D := hC.keep (fun b _ => xup_cell _ _ (by decide)) (fun c b q1 q2 => xup_cell _ _ (by omega))
  have hft := s_X7_foretellLies (g := g) (l := l) (d := d) (M := xup M 0 7 0) hC2 ((xup_cell _ _ (by decide)).trans hX) hP hg ha hb (by omega) (fun j hj => ⟨(xup_cell _ _ (by decide)).trans (hit j hj).1, (hit j hj).2⟩) (fun h hh => (xup_cell _ _ (by decide)).trans (hv h hh))
  show XW g l mX7_lies _ 0 [some (xr 0), some (xi (nI a)), some (xi (nI n)), some (xi (nI b)), some (xi i), none] [] M _
  refine xw_aload_n dX7_lies_0 rfl ?_
  refine xw_iload_n dX7_lies_1 rfl ?_
  refine xw_iload_n dX7_lies_2 rfl ?_
  refine xw_iload_n dX7_lies_3 rfl ?_
  refine xw_iload dX7_lies_4 rfl ?_
  refine xw_iconst (v := (-1)) dX7_lies_6 (by decide) ?_
  refine xw_icmp_lt (tgt := 14) dX7_lies_7 (by decide) (fun c7 => ?_) (fun c7 => ?_)
  · exfalso; first | exact absurd rfl (by assumption) | grind
  · refine xw_iconst (v := 1) dX7_lies_10 (by decide) ?_
    refine xw_goto (tgt := 15) dX7_lies_11 (by decide) ?_
    refine xw_cV4E dX7_lies_15 okX7_refusalToForetell ml_X7_191 rfl rfl rfl rfl (rf_ok h ha hb hn h0 h1 hs ht hs2 ht2 hC hp hx) ?_
    refine xw_istore dX7_lies_18 rfl rfl ?_
    refine xw_iload dX7_lies_20 rfl ?_
    refine xw_if_eq (tgt := 28) dX7_lies_22 (by decide) (fun c22 => ?_) (fun c22 => ?_)
    · refine xw_aload_n dX7_lies_28 rfl ?_
      refine xw_iload_n dX7_lies_29 rfl ?_
      refine xw_iload_n dX7_lies_30 rfl ?_
      refine xw_iload_n dX7_lies_31 rfl ?_
      refine xw_cV3Q dX7_lies_32 okX7_foretellLies ml_X7_195 rfl rfl rfl rfl (hft) ?_
      rintro _ M' ⟨rfl, hF, hFr⟩
      refine xw_iload dX7_lies_35 rfl ?_
      refine xw_iconst (v := (-1)) dX7_lies_37 (by decide) ?_
      refine xw_icmp_ne (tgt := 51) dX7_lies_38 (by decide) (fun c38 => ?_) (fun c38 => ?_)
      · refine xw_aload_n dX7_lies_51 rfl ?_
        refine xw_getR dX7_lies_52 fl_X7_44 rfl rfl ?_
        refine xw_iload dX7_lies_55 rfl ?_
        refine xw_cV1Q dX7_lies_57 okX2_fittingSet ml_X7_201 rfl rfl rfl rfl (s_X2_fittingSet hF h9 c38) ?_
        rintro _ M2 ⟨⟨w, rfl, hw⟩, rfl⟩
        refine xw_ireti dX7_lies_60 rfl ?_
        first | exact ⟨⟨_, rfl, hw⟩, hFr⟩ | exact ⟨⟨_, rfl, Or.inl ⟨c38, hF.1⟩⟩, hFr⟩
      · refine xw_aload_n dX7_lies_41 rfl ?_
        refine xw_getR dX7_lies_42 fl_X7_44 rfl rfl ?_
        refine xw_cV0E dX7_lies_45 okX2_fitting ml_X7_198 rfl rfl rfl rfl (s_X2_fitting) ?_
        refine xw_goto (tgt := 60) dX7_lies_48 (by decide) ?_
        refine xw_ireti dX7_lies_60 rfl ?_
        first | exact ⟨⟨_, rfl, hw⟩, hFr⟩ | exact ⟨⟨_, rfl, Or.inl ⟨c38, hF.1⟩⟩, hFr⟩
    · exfalso; first | exact absurd rfl (by assumption) | grind
set_option maxRecDepth 20000 in
theorem c_guess_0 {D : FD} {PP : Nat} {it : Nat → Nat} {v : Nat → Int32} {a b n s t : Nat} (h : 0 < M.1 8 2) (ha : a < 8) (hb : b < 8) (hn : 1 ≤ n ∧ n ≤ 8) (h0 : ¬ M.1 2 a = -1) (h1 : ¬ M.1 2 b = -1) (hs : M.1 3 a = nI s) (ht : M.1 3 b = nI t) (hs2 : s ≤ 40) (ht2 : t ≤ 40) (hC : FCS M 8 D) (hp : n ≤ s ∧ dn D ≤ t) (hX : M.1 8 3 = nI PP) (hP : PP < 2 ^ 24) (hg : GW D PP) (hit : ∀ j, j < n → M.1 4 (a * 40 + j) = nI (it j) ∧ it j < dn D) (hv : ∀ h, h < dn D → M.1 4 (b * 40 + h) = v h)  : XC g l mX7_guess (d + 6) [xr 0, xi (nI a), xi (nI n), xi (nI b), xi (nI 0)] M (fun r M' => r = some (xi (encF (ffF (fitS D it PP n v) fewF 0 (1 * 2 ^ n)))) ∧ FrF (xup M 0 7 0) M') := by
  have hn6 := hC.1
  have hx : ∀ j, j < n → okHs D (M.1 4 (a * 40 + j)) := fun j hj => by rw [(hit j hj).1]; exact nI_in0 (by omega) (hit j hj).2
  have h9 := p9 (k := n) (by omega)
  have hC2 : FCS (xup M 0 7 0) 8 D := hC.keep (fun b _ => xup_cell _ _ (by decide)) (fun c b q1 q2 => xup_cell _ _ (by omega))
  have hft := s_X7_foretellLies (g := g) (l := l) (d := d) (M := xup M 0 7 0) hC2 ((xup_cell _ _ (by decide)).trans hX) hP hg ha hb (by omega) (fun j hj => ⟨(xup_cell _ _ (by decide)).trans (hit j hj).1, (hit j hj).2⟩) (fun h hh => (xup_cell _ _ (by decide)).trans (hv h hh))
  show XW g l mX7_guess _ 0 [some (xr 0), some (xi (nI a)), some (xi (nI n)), some (xi (nI b)), some (xi (nI 0)), none] [] M _
  refine xw_aload_n dX7_guess_0 rfl ?_
  refine xw_iload_n dX7_guess_1 rfl ?_
  refine xw_iload_n dX7_guess_2 rfl ?_
  refine xw_iload_n dX7_guess_3 rfl ?_
  refine xw_iload dX7_guess_4 rfl ?_
  refine xw_if_lt (tgt := 19) dX7_guess_6 (by decide) (fun q9 => absurd q9 (by decide)) (fun _ => ?_)
  refine xw_iload dX7_guess_9 rfl ?_
  refine xw_iconst (v := 2) dX7_guess_11 (by decide) ?_
  refine xw_icmp_gt (tgt := 19) dX7_guess_12 (by decide) (fun q9 => absurd q9 (by decide)) (fun _ => ?_)
  refine xw_iconst (v := 1) dX7_guess_15 (by decide) ?_
  refine xw_goto (tgt := 20) dX7_guess_16 (by decide) ?_
  refine xw_cV4E dX7_guess_20 okX7_refusalToForetell ml_X7_191 rfl rfl rfl rfl (rf_ok h ha hb hn h0 h1 hs ht hs2 ht2 hC hp hx) ?_
  refine xw_istore dX7_guess_23 rfl rfl ?_
  refine xw_iload dX7_guess_25 rfl ?_
  refine xw_if_eq (tgt := 33) dX7_guess_27 (by decide) (fun c27 => ?_) (fun c27 => ?_)
  · refine xw_aload_n dX7_guess_33 rfl ?_
    refine xw_iload_n dX7_guess_34 rfl ?_
    refine xw_iload_n dX7_guess_35 rfl ?_
    refine xw_iload_n dX7_guess_36 rfl ?_
    refine xw_cV3Q dX7_guess_37 okX7_foretellLies ml_X7_195 rfl rfl rfl rfl (hft) ?_
    rintro _ M' ⟨rfl, hF, hFr⟩
    refine xw_iload dX7_guess_40 rfl ?_
    refine xw_if_ne (tgt := 53) dX7_guess_42 (by decide) (fun q9 => absurd q9 (by decide)) (fun _ => ?_)
    refine xw_aload_n dX7_guess_45 rfl ?_
    refine xw_getR dX7_guess_46 fl_X7_44 rfl rfl ?_
    refine xw_cV0E dX7_guess_49 okX2_fewestLies ml_X7_204 rfl rfl rfl rfl (s_X2_fewestLies hF h9) ?_
    refine xw_ireti dX7_guess_52 rfl ?_
    exact ⟨rfl, hFr⟩
  · exfalso; first | exact absurd rfl (by assumption) | grind
set_option maxRecDepth 20000 in
theorem c_guess_1 {D : FD} {PP : Nat} {it : Nat → Nat} {v : Nat → Int32} {a b n s t : Nat} (h : 0 < M.1 8 2) (ha : a < 8) (hb : b < 8) (hn : 1 ≤ n ∧ n ≤ 8) (h0 : ¬ M.1 2 a = -1) (h1 : ¬ M.1 2 b = -1) (hs : M.1 3 a = nI s) (ht : M.1 3 b = nI t) (hs2 : s ≤ 40) (ht2 : t ≤ 40) (hC : FCS M 8 D) (hp : n ≤ s ∧ dn D ≤ t) (hX : M.1 8 3 = nI PP) (hP : PP < 2 ^ 24) (hg : GW D PP) (hit : ∀ j, j < n → M.1 4 (a * 40 + j) = nI (it j) ∧ it j < dn D) (hv : ∀ h, h < dn D → M.1 4 (b * 40 + h) = v h)  : XC g l mX7_guess (d + 6) [xr 0, xi (nI a), xi (nI n), xi (nI b), xi (nI 1)] M (fun r M' => r = some (xi (surV (fitS D it PP n v) (1 * 2 ^ n))) ∧ FrF (xup M 0 7 0) M') := by
  have hn6 := hC.1
  have hx : ∀ j, j < n → okHs D (M.1 4 (a * 40 + j)) := fun j hj => by rw [(hit j hj).1]; exact nI_in0 (by omega) (hit j hj).2
  have h9 := p9 (k := n) (by omega)
  have hC2 : FCS (xup M 0 7 0) 8 D := hC.keep (fun b _ => xup_cell _ _ (by decide)) (fun c b q1 q2 => xup_cell _ _ (by omega))
  have hft := s_X7_foretellLies (g := g) (l := l) (d := d) (M := xup M 0 7 0) hC2 ((xup_cell _ _ (by decide)).trans hX) hP hg ha hb (by omega) (fun j hj => ⟨(xup_cell _ _ (by decide)).trans (hit j hj).1, (hit j hj).2⟩) (fun h hh => (xup_cell _ _ (by decide)).trans (hv h hh))
  show XW g l mX7_guess _ 0 [some (xr 0), some (xi (nI a)), some (xi (nI n)), some (xi (nI b)), some (xi (nI 1)), none] [] M _
  refine xw_aload_n dX7_guess_0 rfl ?_
  refine xw_iload_n dX7_guess_1 rfl ?_
  refine xw_iload_n dX7_guess_2 rfl ?_
  refine xw_iload_n dX7_guess_3 rfl ?_
  refine xw_iload dX7_guess_4 rfl ?_
  refine xw_if_lt (tgt := 19) dX7_guess_6 (by decide) (fun q9 => absurd q9 (by decide)) (fun _ => ?_)
  refine xw_iload dX7_guess_9 rfl ?_
  refine xw_iconst (v := 2) dX7_guess_11 (by decide) ?_
  refine xw_icmp_gt (tgt := 19) dX7_guess_12 (by decide) (fun q9 => absurd q9 (by decide)) (fun _ => ?_)
  refine xw_iconst (v := 1) dX7_guess_15 (by decide) ?_
  refine xw_goto (tgt := 20) dX7_guess_16 (by decide) ?_
  refine xw_cV4E dX7_guess_20 okX7_refusalToForetell ml_X7_191 rfl rfl rfl rfl (rf_ok h ha hb hn h0 h1 hs ht hs2 ht2 hC hp hx) ?_
  refine xw_istore dX7_guess_23 rfl rfl ?_
  refine xw_iload dX7_guess_25 rfl ?_
  refine xw_if_eq (tgt := 33) dX7_guess_27 (by decide) (fun c27 => ?_) (fun c27 => ?_)
  · refine xw_aload_n dX7_guess_33 rfl ?_
    refine xw_iload_n dX7_guess_34 rfl ?_
    refine xw_iload_n dX7_guess_35 rfl ?_
    refine xw_iload_n dX7_guess_36 rfl ?_
    refine xw_cV3Q dX7_guess_37 okX7_foretellLies ml_X7_195 rfl rfl rfl rfl (hft) ?_
    rintro _ M' ⟨rfl, hF, hFr⟩
    refine xw_iload dX7_guess_40 rfl ?_
    refine xw_if_ne (tgt := 53) dX7_guess_42 (by decide) (fun _ => ?_) (fun q9 => absurd q9 (by decide))
    refine xw_iload dX7_guess_53 rfl ?_
    refine xw_iconst (v := 1) dX7_guess_55 (by decide) ?_
    refine xw_icmp_ne (tgt := 69) dX7_guess_56 (by decide) (fun q9 => absurd q9 (by decide)) (fun _ => ?_)
    refine xw_aload_n dX7_guess_59 rfl ?_
    refine xw_getR dX7_guess_60 fl_X7_44 rfl rfl ?_
    refine xw_cV0E dX7_guess_63 okX2_sureLies ml_X7_207 rfl rfl rfl rfl (s_X2_sureLies hF h9) ?_
    refine xw_goto (tgt := 77) dX7_guess_66 (by decide) ?_
    refine xw_ireti dX7_guess_77 rfl ?_
    exact ⟨rfl, hFr⟩
  · exfalso; first | exact absurd rfl (by assumption) | grind
set_option maxRecDepth 20000 in
theorem c_guess_2 {D : FD} {PP : Nat} {it : Nat → Nat} {v : Nat → Int32} {a b n s t : Nat} (h : 0 < M.1 8 2) (ha : a < 8) (hb : b < 8) (hn : 1 ≤ n ∧ n ≤ 8) (h0 : ¬ M.1 2 a = -1) (h1 : ¬ M.1 2 b = -1) (hs : M.1 3 a = nI s) (ht : M.1 3 b = nI t) (hs2 : s ≤ 40) (ht2 : t ≤ 40) (hC : FCS M 8 D) (hp : n ≤ s ∧ dn D ≤ t) (hX : M.1 8 3 = nI PP) (hP : PP < 2 ^ 24) (hg : GW D PP) (hit : ∀ j, j < n → M.1 4 (a * 40 + j) = nI (it j) ∧ it j < dn D) (hv : ∀ h, h < dn D → M.1 4 (b * 40 + h) = v h)  : XC g l mX7_guess (d + 6) [xr 0, xi (nI a), xi (nI n), xi (nI b), xi (nI 2)] M (fun r M' => r = some (xi (encF (bqV (fitS D it PP n v) (1 * 2 ^ n) n).1)) ∧ FrF (xup M 0 7 0) M') := by
  have hn6 := hC.1
  have hx : ∀ j, j < n → okHs D (M.1 4 (a * 40 + j)) := fun j hj => by rw [(hit j hj).1]; exact nI_in0 (by omega) (hit j hj).2
  have h9 := p9 (k := n) (by omega)
  have hC2 : FCS (xup M 0 7 0) 8 D := hC.keep (fun b _ => xup_cell _ _ (by decide)) (fun c b q1 q2 => xup_cell _ _ (by omega))
  have hft := s_X7_foretellLies (g := g) (l := l) (d := d) (M := xup M 0 7 0) hC2 ((xup_cell _ _ (by decide)).trans hX) hP hg ha hb (by omega) (fun j hj => ⟨(xup_cell _ _ (by decide)).trans (hit j hj).1, (hit j hj).2⟩) (fun h hh => (xup_cell _ _ (by decide)).trans (hv h hh))
  show XW g l mX7_guess _ 0 [some (xr 0), some (xi (nI a)), some (xi (nI n)), some (xi (nI b)), some (xi (nI 2)), none] [] M _
  refine xw_aload_n dX7_guess_0 rfl ?_
  refine xw_iload_n dX7_guess_1 rfl ?_
  refine xw_iload_n dX7_guess_2 rfl ?_
  refine xw_iload_n dX7_guess_3 rfl ?_
  refine xw_iload dX7_guess_4 rfl ?_
  refine xw_if_lt (tgt := 19) dX7_guess_6 (by decide) (fun q9 => absurd q9 (by decide)) (fun _ => ?_)
  refine xw_iload dX7_guess_9 rfl ?_
  refine xw_iconst (v := 2) dX7_guess_11 (by decide) ?_
  refine xw_icmp_gt (tgt := 19) dX7_guess_12 (by decide) (fun q9 => absurd q9 (by decide)) (fun _ => ?_)
  refine xw_iconst (v := 1) dX7_guess_15 (by decide) ?_
  refine xw_goto (tgt := 20) dX7_guess_16 (by decide) ?_
  refine xw_cV4E dX7_guess_20 okX7_refusalToForetell ml_X7_191 rfl rfl rfl rfl (rf_ok h ha hb hn h0 h1 hs ht hs2 ht2 hC hp hx) ?_
  refine xw_istore dX7_guess_23 rfl rfl ?_
  refine xw_iload dX7_guess_25 rfl ?_
  refine xw_if_eq (tgt := 33) dX7_guess_27 (by decide) (fun c27 => ?_) (fun c27 => ?_)
  · refine xw_aload_n dX7_guess_33 rfl ?_
    refine xw_iload_n dX7_guess_34 rfl ?_
    refine xw_iload_n dX7_guess_35 rfl ?_
    refine xw_iload_n dX7_guess_36 rfl ?_
    refine xw_cV3Q dX7_guess_37 okX7_foretellLies ml_X7_195 rfl rfl rfl rfl (hft) ?_
    rintro _ M' ⟨rfl, hF, hFr⟩
    refine xw_iload dX7_guess_40 rfl ?_
    refine xw_if_ne (tgt := 53) dX7_guess_42 (by decide) (fun _ => ?_) (fun q9 => absurd q9 (by decide))
    refine xw_iload dX7_guess_53 rfl ?_
    refine xw_iconst (v := 1) dX7_guess_55 (by decide) ?_
    refine xw_icmp_ne (tgt := 69) dX7_guess_56 (by decide) (fun _ => ?_) (fun q9 => absurd q9 (by decide))
    refine xw_aload_n dX7_guess_69 rfl ?_
    refine xw_getR dX7_guess_70 fl_X7_44 rfl rfl ?_
    refine xw_iload_n dX7_guess_73 rfl ?_
    refine xw_cV1E dX7_guess_74 okX2_bestQuestion ml_X7_210 rfl rfl rfl rfl (s_X2_bestQuestion hF h9 (by omega)) ?_
    refine xw_ireti dX7_guess_77 rfl ?_
    exact ⟨rfl, hFr⟩
  · exfalso; first | exact absurd rfl (by assumption) | grind
end LIESC
