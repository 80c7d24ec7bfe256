section HOUSEN
variable {g : XG} {l : Launch} {d : Nat} {M : XM}
set_option maxRecDepth 20000 in
theorem s_X8_isHouse {T : TX} {p : Nat} (hT : TM M T) (hE : M.1 49 6 = nI p) (hp : p ≤ T.2) {PP : Nat} {D : FD} (hD : DM M D PP) (hW : WD D PP) (hn : dn D < 6)  : XC g l mX8_isHouse (d + 3) [xr 49] M (PQm T (houP T p (D, PP)) M) := by
  show XW g l mX8_isHouse _ 0 [some (xr 49), none, none, none, none] [] M _
  refine xw_aload_n dX8_isHouse_0 rfl ?_
  refine xw_getR dX8_isHouse_1 fl_X8_25 rfl rfl ?_
  refine xw_iconst (v := 3) dX8_isHouse_4 (by decide) ?_
  refine xw_ialN 3 dX8_isHouse_5 rfl (rfl) (hD.1.2.2.2.1) rfl ?_ ?_
  · omega
  refine xw_istore_n dX8_isHouse_6 rfl rfl ?_
  refine xw_aload_n dX8_isHouse_7 rfl ?_
  refine xw_cV0Q dX8_isHouse_8 okX8_nextToken ml_X8_110 rfl rfl rfl rfl (s_X8_nextToken hT hE hp) ?_
  rintro _ M0 ⟨rfl, hF0, hk0⟩
  have hA := fun l2 l3 l4 => lpA_X8_isHouse (g := g) (l := l) (d := d) hT hE hp hD hW hn hF0 hk0 (l2 := l2) (l3 := l3) (l4 := l4)
  refine xw_aload_n dX8_isHouse_11 rfl ?_
  refine xw_ldc2 dX8_isHouse_12 kc_X8_134 ?_
  refine xw_cV1B dX8_isHouse_15 okX8_isName ml_X8_118 rfl rfl rfl rfl (s_X8_isName (i := 4) (by decide) hk0 rfl) (fun p15 => ?_) (fun p15 => ?_)
  · refine xw_if_eq (tgt := 25) dX8_isHouse_18 (by decide) (fun q9 => absurd q9 (by decide)) (fun _ => ?_)
    refine xw_iconst (v := 1) dX8_isHouse_21 (by decide) ?_
    refine xw_goto (tgt := 82) dX8_isHouse_22 (by decide) ?_
    have hkn : knW T p = 1 := by
      unfold knW
      simp [decP_t, decP_f, *]
    rw [hkn] at hA
    exact hA _ _ _
  · refine xw_if_eq (tgt := 25) dX8_isHouse_18 (by decide) (fun _ => ?_) (fun q9 => absurd q9 (by decide))
    refine xw_aload_n dX8_isHouse_25 rfl ?_
    refine xw_ldc2 dX8_isHouse_26 kc_X8_136 ?_
    refine xw_cV1B dX8_isHouse_29 okX8_isName ml_X8_118 rfl rfl rfl rfl (s_X8_isName (i := 5) (by decide) hk0 rfl) (fun p29 => ?_) (fun p29 => ?_)
    · refine xw_if_eq (tgt := 39) dX8_isHouse_32 (by decide) (fun q9 => absurd q9 (by decide)) (fun _ => ?_)
      refine xw_iconst (v := 2) dX8_isHouse_35 (by decide) ?_
      refine xw_goto (tgt := 82) dX8_isHouse_36 (by decide) ?_
      have hkn : knW T p = 2 := by
        unfold knW
        simp [decP_t, decP_f, *]
      rw [hkn] at hA
      exact hA _ _ _
    · refine xw_if_eq (tgt := 39) dX8_isHouse_32 (by decide) (fun _ => ?_) (fun q9 => absurd q9 (by decide))
      refine xw_aload_n dX8_isHouse_39 rfl ?_
      refine xw_ldc2 dX8_isHouse_40 kc_X8_138 ?_
      refine xw_cV1B dX8_isHouse_43 okX8_isName ml_X8_118 rfl rfl rfl rfl (s_X8_isName (i := 6) (by decide) hk0 rfl) (fun p43 => ?_) (fun p43 => ?_)
      · refine xw_if_eq (tgt := 53) dX8_isHouse_46 (by decide) (fun q9 => absurd q9 (by decide)) (fun _ => ?_)
        refine xw_iconst (v := 3) dX8_isHouse_49 (by decide) ?_
        refine xw_goto (tgt := 82) dX8_isHouse_50 (by decide) ?_
        have hkn : knW T p = 3 := by
          unfold knW
          simp [decP_t, decP_f, *]
        rw [hkn] at hA
        exact hA _ _ _
      · refine xw_if_eq (tgt := 53) dX8_isHouse_46 (by decide) (fun _ => ?_) (fun q9 => absurd q9 (by decide))
        refine xw_aload_n dX8_isHouse_53 rfl ?_
        refine xw_ldc2 dX8_isHouse_54 kc_X8_140 ?_
        refine xw_cV1B dX8_isHouse_57 okX8_isName ml_X8_118 rfl rfl rfl rfl (s_X8_isName (i := 7) (by decide) hk0 rfl) (fun p57 => ?_) (fun p57 => ?_)
        · refine xw_if_eq (tgt := 67) dX8_isHouse_60 (by decide) (fun q9 => absurd q9 (by decide)) (fun _ => ?_)
          refine xw_iconst (v := 4) dX8_isHouse_63 (by decide) ?_
          refine xw_goto (tgt := 82) dX8_isHouse_64 (by decide) ?_
          have hkn : knW T p = 4 := by
            unfold knW
            simp [decP_t, decP_f, *]
          rw [hkn] at hA
          exact hA _ _ _
        · refine xw_if_eq (tgt := 67) dX8_isHouse_60 (by decide) (fun _ => ?_) (fun q9 => absurd q9 (by decide))
          refine xw_aload_n dX8_isHouse_67 rfl ?_
          refine xw_ldc2 dX8_isHouse_68 kc_X8_142 ?_
          refine xw_cV1B dX8_isHouse_71 okX8_isName ml_X8_118 rfl rfl rfl rfl (s_X8_isName (i := 8) (by decide) hk0 rfl) (fun p71 => ?_) (fun p71 => ?_)
          · refine xw_if_eq (tgt := 81) dX8_isHouse_74 (by decide) (fun q9 => absurd q9 (by decide)) (fun _ => ?_)
            refine xw_iconst (v := 5) dX8_isHouse_77 (by decide) ?_
            refine xw_goto (tgt := 82) dX8_isHouse_78 (by decide) ?_
            have hkn : knW T p = 5 := by
              unfold knW
              simp [decP_t, decP_f, *]
            rw [hkn] at hA
            exact hA _ _ _
          · refine xw_if_eq (tgt := 81) dX8_isHouse_74 (by decide) (fun _ => ?_) (fun q9 => absurd q9 (by decide))
            refine xw_iconst (v := 0) dX8_isHouse_81 (by decide) ?_
            have hkn : knW T p = 0 := by
              unfold knW
              simp [decP_t, decP_f, *]
            rw [hkn] at hA
            exact hA _ _ _
end HOUSEN
