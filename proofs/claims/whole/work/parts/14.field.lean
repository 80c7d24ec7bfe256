section FIELD
variable {g : XG} {l : Launch} {d : Nat} {M : XM}
set_option maxRecDepth 20000 in
theorem s_X1_xOf {f P h : Nat} (hP : P < 2 ^ 24) (hh : h < 6) : XC g l mX1_xOf d [xr f, xi (nI P), xi (nI h)] M (XE (some (xi (nI (px P h)))) M) := by
  show XW g l mX1_xOf _ 0 [some (xr f), some (xi (nI P)), some (xi (nI h))] [] M _
  refine xw_iload_n dX1_xOf_0 rfl ?_
  refine xw_iconst (v := 4) dX1_xOf_1 (by decide) ?_
  refine xw_iload_n dX1_xOf_2 rfl ?_
  refine xw_imulN (a := 4) dX1_xOf_3 ?_
  refine xw_ishrN dX1_xOf_4 ?_ ?_ ?_
  · omega
  · omega
  refine xw_bipush (v := 15) dX1_xOf_5 (by decide) ?_
  refine xw_iandN (b := 15) dX1_xOf_7 ?_
  refine xw_ireti dX1_xOf_8 rfl ?_
  exact ⟨by rw [and15]; rfl, rfl⟩
set_option maxRecDepth 20000 in
theorem s_X1_eastOf {f : Nat} {D : FD} (hF : XF f) (hC : FCS M f D) {P h : Nat} (hP : P < 2 ^ 24) (hh : h < dn D) : XC g l mX1_eastOf (d + 1) [xr f, xi (nI P), xi (nI h)] M (XE (some (xi (nI (px P h + dW D h)))) M) := by
  obtain ⟨hn6, ⟨hT, hT2⟩, ⟨hB, hB2⟩, hN, hwl, hwl2, hpt, hpt2, hK, hY, hW, hH, hG⟩ := hC
  have hx := px_lt P h
  have hg := hG h hh
  show XW g l mX1_eastOf _ 0 [some (xr f), some (xi (nI P)), some (xi (nI h))] [] M _
  refine xw_aload_n dX1_eastOf_0 rfl ?_
  refine xw_iload_n dX1_eastOf_1 rfl ?_
  refine xw_iload_n dX1_eastOf_2 rfl ?_
  refine xw_cV2E dX1_eastOf_3 okX1_xOf ml_X1_60 hF.1 rfl rfl rfl (s_X1_xOf (by assumption) (by omega)) ?_
  refine xw_aload_n dX1_eastOf_6 rfl ?_
  refine xw_getR dX1_eastOf_7 fl_X1_37 hF.1 rfl ?_
  refine xw_iload_n dX1_eastOf_10 rfl ?_
  refine xw_ialN _ dX1_eastOf_11 hF.2.2.2.2.2.1 (rfl) (hW _ (by omega)) rfl ?_ ?_
  · omega
  refine xw_iaddN dX1_eastOf_12 ?_
  refine xw_ireti dX1_eastOf_13 rfl ?_
  first | exact ⟨rfl, rfl⟩ | exact ⟨by simp_all, rfl⟩ | grind [XE]
set_option maxRecDepth 20000 in
theorem s_X1_isDrowned {f : Nat} {D : FD} (hF : XF f) (hC : FCS M f D) {P h : Nat} (hP : P < 2 ^ 24) (hh : h < dn D) : XC g l mX1_isDrowned (d + 2) [xr f, xi (nI P), xi (nI h)] M (XB (drowned D P h) M M) := by
  have hC0 := hC
  obtain ⟨hn6, ⟨hT, hT2⟩, ⟨hB, hB2⟩, hN, hwl, hwl2, hpt, hpt2, hK, hY, hW, hH, hG⟩ := hC
  have hx := px_lt P h
  have hg := hG h hh
  show XW g l mX1_isDrowned _ 0 [some (xr f), some (xi (nI P)), some (xi (nI h))] [] M _
  refine xw_aload_n dX1_isDrowned_0 rfl ?_
  refine xw_iload_n dX1_isDrowned_1 rfl ?_
  refine xw_iload_n dX1_isDrowned_2 rfl ?_
  refine xw_cV2E dX1_isDrowned_3 okX1_eastOf ml_X1_63 hF.1 rfl rfl rfl (s_X1_eastOf hF hC0 (by assumption) (by omega)) ?_
  refine xw_aload_n dX1_isDrowned_6 rfl ?_
  refine xw_getV dX1_isDrowned_7 fl_X1_15 hF.1 rfl (hB) ?_
  refine xw_icmp_leN (tgt := 17) dX1_isDrowned_10 (by decide) (by omega) (fun c10 => ?_) (fun c10 => ?_)
  · refine xw_iconst (v := 0) dX1_isDrowned_17 (by decide) ?_
    refine xw_iretz dX1_isDrowned_18 rfl (Or.inl rfl) (Or.inr ⟨?_, rfl, rfl⟩)
    first | exact c10 | (show ¬ (_ < _); omega) | (show _ < _; omega)
  · refine xw_iconst (v := 1) dX1_isDrowned_13 (by decide) ?_
    refine xw_goto (tgt := 18) dX1_isDrowned_14 (by decide) ?_
    refine xw_iretz dX1_isDrowned_18 rfl (Or.inr rfl) (Or.inl ⟨?_, rfl, rfl⟩)
    first | exact c10 | (show ¬ (_ < _); omega) | (show _ < _; omega)
set_option maxRecDepth 20000 in
theorem s_X1_isWall {f : Nat} {D : FD} (hF : XF f) (hC : FCS M f D) {x y : Nat} (hx : x < 16) (hy : y < 8) : XC g l mX1_isWall d [xr f, xi (nI x), xi (nI y)] M (XB (wallAt D x y) M M) := by
  have hC0 := hC
  obtain ⟨hn6, ⟨hT, hT2⟩, ⟨hB, hB2⟩, hN, hwl, hwl2, hpt, hpt2, hK, hY, hW, hH, hG⟩ := hC
  have hb := hwl2 y hy
  show XW g l mX1_isWall _ 0 [some (xr f), some (xi (nI x)), some (xi (nI y))] [] M _
  refine xw_aload_n dX1_isWall_0 rfl ?_
  refine xw_getR dX1_isWall_1 fl_X1_24 hF.1 rfl ?_
  refine xw_iload_n dX1_isWall_4 rfl ?_
  refine xw_ialN _ dX1_isWall_5 hF.2.1 (rfl) (hwl _ (by omega)) rfl ?_ ?_
  · omega
  refine xw_iload_n dX1_isWall_6 rfl ?_
  refine xw_ishrN dX1_isWall_7 ?_ ?_ ?_
  · omega
  · omega
  refine xw_iconst (v := 1) dX1_isWall_8 (by decide) ?_
  refine xw_iandN (b := 1) dX1_isWall_9 ?_
  rw [and1]
  have hm := Nat.mod_lt (dwl D y / 2 ^ x) (show 2 > 0 by decide)
  refine xw_if_eqN (tgt := 17) dX1_isWall_10 (by decide) (by omega) (fun c10 => ?_) (fun c10 => ?_)
  · refine xw_iconst (v := 0) dX1_isWall_17 (by decide) ?_
    refine xw_iretz dX1_isWall_18 rfl (Or.inl rfl) (Or.inr ⟨?_, rfl, rfl⟩)
    first | (show ¬ (_ = 1); omega) | (show _ = 1; omega)
  · refine xw_iconst (v := 1) dX1_isWall_13 (by decide) ?_
    refine xw_goto (tgt := 18) dX1_isWall_14 (by decide) ?_
    refine xw_iretz dX1_isWall_18 rfl (Or.inr rfl) (Or.inl ⟨?_, rfl, rfl⟩)
    first | (show ¬ (_ = 1); omega) | (show _ = 1; omega)
set_option maxRecDepth 20000 in
theorem s_X1_isPath {f : Nat} {D : FD} (hF : XF f) (hC : FCS M f D) {x y : Nat} (hx : x < 16) (hy : y < 8) : XC g l mX1_isPath d [xr f, xi (nI x), xi (nI y)] M (XB (pathAt D x y) M M) := by
  have hC0 := hC
  obtain ⟨hn6, ⟨hT, hT2⟩, ⟨hB, hB2⟩, hN, hwl, hwl2, hpt, hpt2, hK, hY, hW, hH, hG⟩ := hC
  have hb := hpt2 y hy
  show XW g l mX1_isPath _ 0 [some (xr f), some (xi (nI x)), some (xi (nI y))] [] M _
  refine xw_aload_n dX1_isPath_0 rfl ?_
  refine xw_getR dX1_isPath_1 fl_X1_28 hF.1 rfl ?_
  refine xw_iload_n dX1_isPath_4 rfl ?_
  refine xw_ialN _ dX1_isPath_5 hF.2.2.1 (rfl) (hpt _ (by omega)) rfl ?_ ?_
  · omega
  refine xw_iload_n dX1_isPath_6 rfl ?_
  refine xw_ishrN dX1_isPath_7 ?_ ?_ ?_
  · omega
  · omega
  refine xw_iconst (v := 1) dX1_isPath_8 (by decide) ?_
  refine xw_iandN (b := 1) dX1_isPath_9 ?_
  rw [and1]
  have hm := Nat.mod_lt (dpt D y / 2 ^ x) (show 2 > 0 by decide)
  refine xw_if_eqN (tgt := 17) dX1_isPath_10 (by decide) (by omega) (fun c10 => ?_) (fun c10 => ?_)
  · refine xw_iconst (v := 0) dX1_isPath_17 (by decide) ?_
    refine xw_iretz dX1_isPath_18 rfl (Or.inl rfl) (Or.inr ⟨?_, rfl, rfl⟩)
    first | (show ¬ (_ = 1); omega) | (show _ = 1; omega)
  · refine xw_iconst (v := 1) dX1_isPath_13 (by decide) ?_
    refine xw_goto (tgt := 18) dX1_isPath_14 (by decide) ?_
    refine xw_iretz dX1_isPath_18 rfl (Or.inr rfl) (Or.inl ⟨?_, rfl, rfl⟩)
    first | (show ¬ (_ = 1); omega) | (show _ = 1; omega)
set_option maxRecDepth 20000 in
theorem s_X1_hasColumn {f : Nat} {D : FD} (hF : XF f) (hC : FCS M f D) {P h x : Nat} (hP : P < 2 ^ 24) (hh : h < dn D) (hx : x < 100) : XC g l mX1_hasColumn (d + 1) [xr f, xi (nI P), xi (nI h), xi (nI x)] M (XB (px P h ≤ x ∧ x < px P h + dW D h) M M) := by
  have hC0 := hC
  obtain ⟨hn6, ⟨hT, hT2⟩, ⟨hB, hB2⟩, hN, hwl, hwl2, hpt, hpt2, hK, hY, hW, hH, hG⟩ := hC
  have hq := px_lt P h
  have hg := hG h hh
  show XW g l mX1_hasColumn _ 0 [some (xr f), some (xi (nI P)), some (xi (nI h)), some (xi (nI x)), none] [] M _
  refine xw_aload_n dX1_hasColumn_0 rfl ?_
  refine xw_iload_n dX1_hasColumn_1 rfl ?_
  refine xw_iload_n dX1_hasColumn_2 rfl ?_
  refine xw_cV2E dX1_hasColumn_3 okX1_xOf ml_X1_60 hF.1 rfl rfl rfl (s_X1_xOf (by assumption) (by omega)) ?_
  refine xw_istore dX1_hasColumn_6 rfl rfl ?_
  refine xw_iload_n dX1_hasColumn_8 rfl ?_
  refine xw_iload dX1_hasColumn_9 rfl ?_
  refine xw_icmp_ltN (tgt := 31) dX1_hasColumn_11 (by decide) (by omega) (fun c11 => ?_) (fun c11 => ?_)
  · refine xw_iconst (v := 0) dX1_hasColumn_31 (by decide) ?_
    refine xw_iretz dX1_hasColumn_32 rfl (Or.inl rfl) (Or.inr ⟨?_, rfl, rfl⟩)
    omega
  · refine xw_iload_n dX1_hasColumn_14 rfl ?_
    refine xw_iload dX1_hasColumn_15 rfl ?_
    refine xw_aload_n dX1_hasColumn_17 rfl ?_
    refine xw_getR dX1_hasColumn_18 fl_X1_37 hF.1 rfl ?_
    refine xw_iload_n dX1_hasColumn_21 rfl ?_
    refine xw_ialN _ dX1_hasColumn_22 hF.2.2.2.2.2.1 (rfl) (hW _ (by omega)) rfl ?_ ?_
    · omega
    refine xw_iaddN dX1_hasColumn_23 ?_
    refine xw_icmp_geN (tgt := 31) dX1_hasColumn_24 (by decide) (by omega) (fun c24 => ?_) (fun c24 => ?_)
    · refine xw_iconst (v := 0) dX1_hasColumn_31 (by decide) ?_
      refine xw_iretz dX1_hasColumn_32 rfl (Or.inl rfl) (Or.inr ⟨?_, rfl, rfl⟩)
      omega
    · refine xw_iconst (v := 1) dX1_hasColumn_27 (by decide) ?_
      refine xw_goto (tgt := 32) dX1_hasColumn_28 (by decide) ?_
      refine xw_iretz dX1_hasColumn_32 rfl (Or.inr rfl) (Or.inl ⟨?_, rfl, rfl⟩)
      omega
set_option maxRecDepth 20000 in
theorem s_X1_shareRow {f : Nat} {D : FD} (hF : XF f) (hC : FCS M f D) {a b : Nat} (ha : a < dn D) (hb : b < dn D) : XC g l mX1_shareRow d [xr f, xi (nI a), xi (nI b)] M (XB (shareH D a b) M M) := by
  have hC0 := hC
  obtain ⟨hn6, ⟨hT, hT2⟩, ⟨hB, hB2⟩, hN, hwl, hwl2, hpt, hpt2, hK, hY, hW, hH, hG⟩ := hC
  have h1 := hG a ha
  have h2 := hG b hb
  show XW g l mX1_shareRow _ 0 [some (xr f), some (xi (nI a)), some (xi (nI b))] [] M _
  refine xw_aload_n dX1_shareRow_0 rfl ?_
  refine xw_getR dX1_shareRow_1 fl_X1_34 hF.1 rfl ?_
  refine xw_iload_n dX1_shareRow_4 rfl ?_
  refine xw_ialN _ dX1_shareRow_5 hF.2.2.2.2.1 (rfl) (hY _ (by omega)) rfl ?_ ?_
  · omega
  refine xw_aload_n dX1_shareRow_6 rfl ?_
  refine xw_getR dX1_shareRow_7 fl_X1_34 hF.1 rfl ?_
  refine xw_iload_n dX1_shareRow_10 rfl ?_
  refine xw_ialN _ dX1_shareRow_11 hF.2.2.2.2.1 (rfl) (hY _ (by omega)) rfl ?_ ?_
  · omega
  refine xw_aload_n dX1_shareRow_12 rfl ?_
  refine xw_getR dX1_shareRow_13 fl_X1_40 hF.1 rfl ?_
  refine xw_iload_n dX1_shareRow_16 rfl ?_
  refine xw_ialN _ dX1_shareRow_17 hF.2.2.2.2.2.2.1 (rfl) (hH _ (by omega)) rfl ?_ ?_
  · omega
  refine xw_iaddN dX1_shareRow_18 ?_
  refine xw_icmp_geN (tgt := 48) dX1_shareRow_19 (by decide) (by omega) (fun c19 => ?_) (fun c19 => ?_)
  · refine xw_iconst (v := 0) dX1_shareRow_48 (by decide) ?_
    refine xw_iretz dX1_shareRow_49 rfl (Or.inl rfl) (Or.inr ⟨?_, rfl, rfl⟩)
    unfold shareH
    omega
  · refine xw_aload_n dX1_shareRow_22 rfl ?_
    refine xw_getR dX1_shareRow_23 fl_X1_34 hF.1 rfl ?_
    refine xw_iload_n dX1_shareRow_26 rfl ?_
    refine xw_ialN _ dX1_shareRow_27 hF.2.2.2.2.1 (rfl) (hY _ (by omega)) rfl ?_ ?_
    · omega
    refine xw_aload_n dX1_shareRow_28 rfl ?_
    refine xw_getR dX1_shareRow_29 fl_X1_34 hF.1 rfl ?_
    refine xw_iload_n dX1_shareRow_32 rfl ?_
    refine xw_ialN _ dX1_shareRow_33 hF.2.2.2.2.1 (rfl) (hY _ (by omega)) rfl ?_ ?_
    · omega
    refine xw_aload_n dX1_shareRow_34 rfl ?_
    refine xw_getR dX1_shareRow_35 fl_X1_40 hF.1 rfl ?_
    refine xw_iload_n dX1_shareRow_38 rfl ?_
    refine xw_ialN _ dX1_shareRow_39 hF.2.2.2.2.2.2.1 (rfl) (hH _ (by omega)) rfl ?_ ?_
    · omega
    refine xw_iaddN dX1_shareRow_40 ?_
    refine xw_icmp_geN (tgt := 48) dX1_shareRow_41 (by decide) (by omega) (fun c41 => ?_) (fun c41 => ?_)
    · refine xw_iconst (v := 0) dX1_shareRow_48 (by decide) ?_
      refine xw_iretz dX1_shareRow_49 rfl (Or.inl rfl) (Or.inr ⟨?_, rfl, rfl⟩)
      unfold shareH
      omega
    · refine xw_iconst (v := 1) dX1_shareRow_44 (by decide) ?_
      refine xw_goto (tgt := 49) dX1_shareRow_45 (by decide) ?_
      refine xw_iretz dX1_shareRow_49 rfl (Or.inr rfl) (Or.inl ⟨?_, rfl, rfl⟩)
      unfold shareH
      omega
set_option maxRecDepth 20000 in
theorem lp_X1_houseAt {f : Nat} {D : FD} (hF : XF f) (hC : FCS M f D) {P y : Nat} {x : Int32} (hX : M.1 f 3 = nI P) (hP : P < 2 ^ 24) (hy : y < 100) : ∀ (q k : Nat) (v4 : Option XV), k + q = dn D → (∀ j, j < k → ¬ inH D P j x y) → XW g l mX1_houseAt (d + 1) 2 [some (xr f), some (xi x), some (xi (nI y)), some (xi (nI k)), v4] [] M (XE (some (xi (hV D P x y))) M) := by
  have hC0 := hC
  obtain ⟨hn6, ⟨hT, hT2⟩, ⟨hB, hB2⟩, hN, hwl, hwl2, hpt, hpt2, hK, hY, hW, hH, hG⟩ := hC
  intro q
  induction q with
  | zero =>
    intro k v4 hk h0
    have hk : k = dn D := by omega
    subst hk
    refine xw_iload_n dX1_houseAt_2 rfl ?_
    refine xw_aload_n dX1_houseAt_3 rfl ?_
    refine xw_getV dX1_houseAt_4 fl_X1_18 hF.1 rfl (hN) ?_
    refine xw_icmp_geN (tgt := 75) dX1_houseAt_7 (by decide) (by omega) (fun c7 => ?_) (fun c7 => ?_)
    · refine xw_iconst (v := (-1)) dX1_houseAt_75 (by decide) ?_
      refine xw_ireti dX1_houseAt_76 rfl ?_
      exact ⟨by unfold hV; rw [hAt_none h0, if_neg (by omega)], rfl⟩
    · exfalso; omega
  | succ q ih =>
    intro k v4 hk h0
    have hg := hG k (by omega)
    have hx := px_lt P k
    refine xw_iload_n dX1_houseAt_2 rfl ?_
    refine xw_aload_n dX1_houseAt_3 rfl ?_
    refine xw_getV dX1_houseAt_4 fl_X1_18 hF.1 rfl (hN) ?_
    refine xw_icmp_geN (tgt := 75) dX1_houseAt_7 (by decide) (by omega) (fun c7 => ?_) (fun c7 => ?_)
    · exfalso; omega
    · refine xw_aload_n dX1_houseAt_10 rfl ?_
      refine xw_aload_n dX1_houseAt_11 rfl ?_
      refine xw_getV dX1_houseAt_12 fl_X1_21 hF.1 rfl (hX) ?_
      refine xw_iload_n dX1_houseAt_15 rfl ?_
      refine xw_cV2E dX1_houseAt_16 okX1_xOf ml_X1_60 hF.1 rfl rfl rfl (s_X1_xOf (by assumption) (by omega)) ?_
      refine xw_istore dX1_houseAt_19 rfl rfl ?_
      refine xw_iload_n dX1_houseAt_21 rfl ?_
      refine xw_iload dX1_houseAt_22 rfl ?_
      refine xw_icmp_lt (tgt := 69) dX1_houseAt_24 (by decide) (fun c24 => ?_) (fun c24 => ?_)
      · refine xw_iincN (v := 1) dX1_houseAt_69 (by decide) rfl rfl rfl ?_
        refine xw_goto (tgt := 2) dX1_houseAt_72 (by decide) ?_
        refine ih (k + 1) _ (by omega) (fun j hj => ?_)
        rcases Nat.lt_or_ge j k with z | z
        · exact h0 j z
        · have z : j = k := by omega
          subst z
          rintro ⟨q1, q2, q3, q4⟩
          first | omega | grind
      · refine xw_iload_n dX1_houseAt_27 rfl ?_
        refine xw_iload dX1_houseAt_28 rfl ?_
        refine xw_aload_n dX1_houseAt_30 rfl ?_
        refine xw_getR dX1_houseAt_31 fl_X1_37 hF.1 rfl ?_
        refine xw_iload_n dX1_houseAt_34 rfl ?_
        refine xw_ialN _ dX1_houseAt_35 hF.2.2.2.2.2.1 (rfl) (hW _ (by omega)) rfl ?_ ?_
        · omega
        refine xw_iaddN dX1_houseAt_36 ?_
        refine xw_icmp_ge (tgt := 69) dX1_houseAt_37 (by decide) (fun c37 => ?_) (fun c37 => ?_)
        · refine xw_iincN (v := 1) dX1_houseAt_69 (by decide) rfl rfl rfl ?_
          refine xw_goto (tgt := 2) dX1_houseAt_72 (by decide) ?_
          refine ih (k + 1) _ (by omega) (fun j hj => ?_)
          rcases Nat.lt_or_ge j k with z | z
          · exact h0 j z
          · have z : j = k := by omega
            subst z
            rintro ⟨q1, q2, q3, q4⟩
            first | omega | grind
        · refine xw_iload_n dX1_houseAt_40 rfl ?_
          refine xw_aload_n dX1_houseAt_41 rfl ?_
          refine xw_getR dX1_houseAt_42 fl_X1_34 hF.1 rfl ?_
          refine xw_iload_n dX1_houseAt_45 rfl ?_
          refine xw_ialN _ dX1_houseAt_46 hF.2.2.2.2.1 (rfl) (hY _ (by omega)) rfl ?_ ?_
          · omega
          refine xw_icmp_ltN (tgt := 69) dX1_houseAt_47 (by decide) (by omega) (fun c47 => ?_) (fun c47 => ?_)
          · refine xw_iincN (v := 1) dX1_houseAt_69 (by decide) rfl rfl rfl ?_
            refine xw_goto (tgt := 2) dX1_houseAt_72 (by decide) ?_
            refine ih (k + 1) _ (by omega) (fun j hj => ?_)
            rcases Nat.lt_or_ge j k with z | z
            · exact h0 j z
            · have z : j = k := by omega
              subst z
              rintro ⟨q1, q2, q3, q4⟩
              first | omega | grind
          · refine xw_iload_n dX1_houseAt_50 rfl ?_
            refine xw_aload_n dX1_houseAt_51 rfl ?_
            refine xw_getR dX1_houseAt_52 fl_X1_34 hF.1 rfl ?_
            refine xw_iload_n dX1_houseAt_55 rfl ?_
            refine xw_ialN _ dX1_houseAt_56 hF.2.2.2.2.1 (rfl) (hY _ (by omega)) rfl ?_ ?_
            · omega
            refine xw_aload_n dX1_houseAt_57 rfl ?_
            refine xw_getR dX1_houseAt_58 fl_X1_40 hF.1 rfl ?_
            refine xw_iload_n dX1_houseAt_61 rfl ?_
            refine xw_ialN _ dX1_houseAt_62 hF.2.2.2.2.2.2.1 (rfl) (hH _ (by omega)) rfl ?_ ?_
            · omega
            refine xw_iaddN dX1_houseAt_63 ?_
            refine xw_icmp_geN (tgt := 69) dX1_houseAt_64 (by decide) (by omega) (fun c64 => ?_) (fun c64 => ?_)
            · refine xw_iincN (v := 1) dX1_houseAt_69 (by decide) rfl rfl rfl ?_
              refine xw_goto (tgt := 2) dX1_houseAt_72 (by decide) ?_
              refine ih (k + 1) _ (by omega) (fun j hj => ?_)
              rcases Nat.lt_or_ge j k with z | z
              · exact h0 j z
              · have z : j = k := by omega
                subst z
                rintro ⟨q1, q2, q3, q4⟩
                first | omega | grind
            · refine xw_iload_n dX1_houseAt_67 rfl ?_
              refine xw_ireti dX1_houseAt_68 rfl ?_
              have h1 : inH D P k x y := ⟨by grind, by grind, by omega, by omega⟩
              exact ⟨by unfold hV; rw [hAt_at h0 h1 (by omega), if_pos (by omega)], rfl⟩
set_option maxRecDepth 20000 in
theorem s_X1_houseAt {f : Nat} {D : FD} (hF : XF f) (hC : FCS M f D) {P y : Nat} {x : Int32} (hX : M.1 f 3 = nI P) (hP : P < 2 ^ 24) (hy : y < 100) : XC g l mX1_houseAt (d + 1) [xr f, xi x, xi (nI y)] M (XE (some (xi (hV D P x y))) M) := by
  have hC0 := hC
  obtain ⟨hn6, ⟨hT, hT2⟩, ⟨hB, hB2⟩, hN, hwl, hwl2, hpt, hpt2, hK, hY, hW, hH, hG⟩ := hC
  show XW g l mX1_houseAt _ 0 [some (xr f), some (xi x), some (xi (nI y)), none, none] [] M _
  refine xw_iconst (v := 0) dX1_houseAt_0 (by decide) ?_
  refine xw_istore_n dX1_houseAt_1 rfl rfl ?_
  exact lp_X1_houseAt hF hC0 hX hP hy (dn D) 0 none (by omega) (fun _ h => absurd h (by omega))
set_option maxRecDepth 20000 in
theorem s_X1_contentOf {f : Nat} {D : FD} (hF : XF f) (hC : FCS M f D) {P x y : Nat} (hX : M.1 f 3 = nI P) (hP : P < 2 ^ 24) (hx : x < 16) (hy : y < 8) : XC g l mX1_contentOf (d + 2) [xr f, xi (nI x), xi (nI y)] M (XE (some (xi (cellV D P x y))) M) := by
  have hC0 := hC
  obtain ⟨hn6, ⟨hT, hT2⟩, ⟨hB, hB2⟩, hN, hwl, hwl2, hpt, hpt2, hK, hY, hW, hH, hG⟩ := hC
  show XW g l mX1_contentOf _ 0 [some (xr f), some (xi (nI x)), some (xi (nI y)), none] [] M _
  refine xw_aload_n dX1_contentOf_0 rfl ?_
  refine xw_iload_n dX1_contentOf_1 rfl ?_
  refine xw_iload_n dX1_contentOf_2 rfl ?_
  refine xw_cV2E dX1_contentOf_3 okX1_houseAt ml_X1_56 hF.1 rfl rfl rfl (s_X1_houseAt hF hC0 hX hP (by omega)) ?_
  refine xw_istore_n dX1_contentOf_6 rfl rfl ?_
  refine xw_iload_n dX1_contentOf_7 rfl ?_
  have e8 := hV_neg (D := D) (P := P) (y := y) (x := nI x) hn6
  refine xw_if_lt (tgt := 13) dX1_contentOf_8 (by decide) (fun c8 => ?_) (fun c8 => ?_)
  · refine xw_aload_n dX1_contentOf_13 rfl ?_
    refine xw_iload_n dX1_contentOf_14 rfl ?_
    refine xw_iload_n dX1_contentOf_15 rfl ?_
    refine xw_cV2B dX1_contentOf_16 okX1_isWall ml_X1_52 hF.1 rfl rfl rfl (s_X1_isWall hF hC0 (by omega) (by omega)) (fun p16 => ?_) (fun p16 => ?_)
    · refine xw_if_eq (tgt := 24) dX1_contentOf_19 (by decide) (fun q9 => absurd q9 (by decide)) (fun _ => ?_)
      refine xw_iconst (v := (-1)) dX1_contentOf_22 (by decide) ?_
      refine xw_ireti dX1_contentOf_23 rfl ?_
      have e9 := e8.mp c8
      exact ⟨by unfold cellV; rw [if_neg e9, if_pos (decP_t p16)], rfl⟩
    · refine xw_if_eq (tgt := 24) dX1_contentOf_19 (by decide) (fun _ => ?_) (fun q9 => absurd q9 (by decide))
      refine xw_aload_n dX1_contentOf_24 rfl ?_
      refine xw_iload_n dX1_contentOf_25 rfl ?_
      refine xw_iload_n dX1_contentOf_26 rfl ?_
      refine xw_cV2B dX1_contentOf_27 okX1_isPath ml_X1_66 hF.1 rfl rfl rfl (s_X1_isPath hF hC0 (by omega) (by omega)) (fun p27 => ?_) (fun p27 => ?_)
      · refine xw_if_eq (tgt := 36) dX1_contentOf_30 (by decide) (fun q9 => absurd q9 (by decide)) (fun _ => ?_)
        refine xw_bipush (v := (-2)) dX1_contentOf_33 (by decide) ?_
        refine xw_ireti dX1_contentOf_35 rfl ?_
        have e9 := e8.mp c8
        exact ⟨by unfold cellV; rw [if_neg e9, decP_f p16, decP_t p27]; rfl, rfl⟩
      · refine xw_if_eq (tgt := 36) dX1_contentOf_30 (by decide) (fun _ => ?_) (fun q9 => absurd q9 (by decide))
        refine xw_iload_n dX1_contentOf_36 rfl ?_
        refine xw_aload_n dX1_contentOf_37 rfl ?_
        refine xw_getV dX1_contentOf_38 fl_X1_15 hF.1 rfl (hB) ?_
        refine xw_icmp_ltN (tgt := 49) dX1_contentOf_41 (by decide) (by omega) (fun c41 => ?_) (fun c41 => ?_)
        · refine xw_bipush (v := (-4)) dX1_contentOf_49 (by decide) ?_
          refine xw_ireti dX1_contentOf_51 rfl ?_
          have e9 := e8.mp c8
          exact ⟨by unfold cellV; rw [if_neg e9, decP_f p16, decP_f p27]; first | rw [if_neg (by decide), if_neg (by decide), if_pos (by omega)] | rw [if_neg (by decide), if_neg (by decide), if_neg (by omega)], rfl⟩
        · refine xw_bipush (v := (-3)) dX1_contentOf_44 (by decide) ?_
          refine xw_goto (tgt := 51) dX1_contentOf_46 (by decide) ?_
          refine xw_ireti dX1_contentOf_51 rfl ?_
          have e9 := e8.mp c8
          exact ⟨by unfold cellV; rw [if_neg e9, decP_f p16, decP_f p27]; first | rw [if_neg (by decide), if_neg (by decide), if_pos (by omega)] | rw [if_neg (by decide), if_neg (by decide), if_neg (by omega)], rfl⟩
  · refine xw_iload_n dX1_contentOf_11 rfl ?_
    refine xw_ireti dX1_contentOf_12 rfl ?_
    have e9 : hAt D P (nI x) y < dn D := Classical.byContradiction fun q => c8 (e8.mpr q)
    exact ⟨by unfold cellV hV; rw [if_pos e9, if_pos e9], rfl⟩
set_option maxRecDepth 20000 in
theorem s_X1_isOpen {f : Nat} {D : FD} (hF : XF f) (hC : FCS M f D) {P h : Nat} (hX : M.1 f 3 = nI P) (hP : P < 2 ^ 24) (hh : h < dn D) : XC g l mX1_isOpen (d + 2) [xr f, xi (nI h)] M (XB (openH D P h) M M) := by
  have hC0 := hC
  obtain ⟨hn6, ⟨hT, hT2⟩, ⟨hB, hB2⟩, hN, hwl, hwl2, hpt, hpt2, hK, hY, hW, hH, hG⟩ := hC
  have hx := px_lt P h
  have hg := hG h hh
  show XW g l mX1_isOpen _ 0 [some (xr f), some (xi (nI h)), none, none] [] M _
  refine xw_aload_n dX1_isOpen_0 rfl ?_
  refine xw_aload_n dX1_isOpen_1 rfl ?_
  refine xw_getV dX1_isOpen_2 fl_X1_21 hF.1 rfl (hX) ?_
  refine xw_iload_n dX1_isOpen_5 rfl ?_
  refine xw_cV2E dX1_isOpen_6 okX1_xOf ml_X1_60 hF.1 rfl rfl rfl (s_X1_xOf (by assumption) (by omega)) ?_
  refine xw_istore_n dX1_isOpen_9 rfl rfl ?_
  refine xw_aload_n dX1_isOpen_10 rfl ?_
  refine xw_getR dX1_isOpen_11 fl_X1_34 hF.1 rfl ?_
  refine xw_iload_n dX1_isOpen_14 rfl ?_
  refine xw_ialN _ dX1_isOpen_15 hF.2.2.2.2.1 (rfl) (hY _ (by omega)) rfl ?_ ?_
  · omega
  refine xw_aload_n dX1_isOpen_16 rfl ?_
  refine xw_getR dX1_isOpen_17 fl_X1_40 hF.1 rfl ?_
  refine xw_iload_n dX1_isOpen_20 rfl ?_
  refine xw_ialN _ dX1_isOpen_21 hF.2.2.2.2.2.2.1 (rfl) (hH _ (by omega)) rfl ?_ ?_
  · omega
  refine xw_iaddN dX1_isOpen_22 ?_
  refine xw_istore_n dX1_isOpen_23 rfl rfl ?_
  refine xw_iload_n dX1_isOpen_24 rfl ?_
  refine xw_bipush (v := 8) dX1_isOpen_25 (by decide) ?_
  refine xw_icmp_geN (b := 8) (tgt := 61) dX1_isOpen_27 (by decide) (by omega) (fun c27 => ?_) (fun c27 => ?_)
  · refine xw_iconst (v := 0) dX1_isOpen_61 (by decide) ?_
    refine xw_iretz dX1_isOpen_62 rfl (Or.inl rfl) (Or.inr ⟨?_, rfl, rfl⟩)
    first | exact fun q => absurd q.1 (by omega) | exact fun q => absurd q.2.1 (by assumption) | exact fun q => absurd (by assumption) q.2.2.1 | exact ⟨by omega, by assumption, by assumption, e8.mp (by rw [← Int32.not_le]; assumption)⟩ | exact fun q => absurd (e8.mpr q.2.2.2) (by rw [Int32.not_lt]; assumption)
  · refine xw_aload_n dX1_isOpen_30 rfl ?_
    refine xw_iload_n dX1_isOpen_31 rfl ?_
    refine xw_iload_n dX1_isOpen_32 rfl ?_
    refine xw_cV2B dX1_isOpen_33 okX1_isPath ml_X1_66 hF.1 rfl rfl rfl (s_X1_isPath hF hC0 (by omega) (by omega)) (fun p33 => ?_) (fun p33 => ?_)
    · refine xw_if_eq (tgt := 61) dX1_isOpen_36 (by decide) (fun q9 => absurd q9 (by decide)) (fun _ => ?_)
      refine xw_aload_n dX1_isOpen_39 rfl ?_
      refine xw_iload_n dX1_isOpen_40 rfl ?_
      refine xw_iload_n dX1_isOpen_41 rfl ?_
      refine xw_cV2B dX1_isOpen_42 okX1_isWall ml_X1_52 hF.1 rfl rfl rfl (s_X1_isWall hF hC0 (by omega) (by omega)) (fun p42 => ?_) (fun p42 => ?_)
      · refine xw_if_ne (tgt := 61) dX1_isOpen_45 (by decide) (fun _ => ?_) (fun q9 => absurd q9 (by decide))
        refine xw_iconst (v := 0) dX1_isOpen_61 (by decide) ?_
        refine xw_iretz dX1_isOpen_62 rfl (Or.inl rfl) (Or.inr ⟨?_, rfl, rfl⟩)
        first | exact fun q => absurd q.1 (by omega) | exact fun q => absurd q.2.1 (by assumption) | exact fun q => absurd (by assumption) q.2.2.1 | exact ⟨by omega, by assumption, by assumption, e8.mp (by rw [← Int32.not_le]; assumption)⟩ | exact fun q => absurd (e8.mpr q.2.2.2) (by rw [Int32.not_lt]; assumption)
      · refine xw_if_ne (tgt := 61) dX1_isOpen_45 (by decide) (fun q9 => absurd q9 (by decide)) (fun _ => ?_)
        refine xw_aload_n dX1_isOpen_48 rfl ?_
        refine xw_iload_n dX1_isOpen_49 rfl ?_
        refine xw_iload_n dX1_isOpen_50 rfl ?_
        refine xw_cV2E dX1_isOpen_51 okX1_houseAt ml_X1_56 hF.1 rfl rfl rfl (s_X1_houseAt hF hC0 hX hP (by omega)) ?_
        have e8 := hV_neg (D := D) (P := P) (y := dY D h + dH D h) (x := nI (px P h)) hn6
        refine xw_if_ge (tgt := 61) dX1_isOpen_54 (by decide) (fun c54 => ?_) (fun c54 => ?_)
        · refine xw_iconst (v := 0) dX1_isOpen_61 (by decide) ?_
          refine xw_iretz dX1_isOpen_62 rfl (Or.inl rfl) (Or.inr ⟨?_, rfl, rfl⟩)
          first | exact fun q => absurd q.1 (by omega) | exact fun q => absurd q.2.1 (by assumption) | exact fun q => absurd (by assumption) q.2.2.1 | exact ⟨by omega, by assumption, by assumption, e8.mp (by rw [← Int32.not_le]; assumption)⟩ | exact fun q => absurd (e8.mpr q.2.2.2) (by rw [Int32.not_lt]; assumption)
        · refine xw_iconst (v := 1) dX1_isOpen_57 (by decide) ?_
          refine xw_goto (tgt := 62) dX1_isOpen_58 (by decide) ?_
          refine xw_iretz dX1_isOpen_62 rfl (Or.inr rfl) (Or.inl ⟨?_, rfl, rfl⟩)
          first | exact fun q => absurd q.1 (by omega) | exact fun q => absurd q.2.1 (by assumption) | exact fun q => absurd (by assumption) q.2.2.1 | exact ⟨by omega, by assumption, by assumption, e8.mp (by rw [← Int32.not_le]; assumption)⟩ | exact fun q => absurd (e8.mpr q.2.2.2) (by rw [Int32.not_lt]; assumption)
    · refine xw_if_eq (tgt := 61) dX1_isOpen_36 (by decide) (fun _ => ?_) (fun q9 => absurd q9 (by decide))
      refine xw_iconst (v := 0) dX1_isOpen_61 (by decide) ?_
      refine xw_iretz dX1_isOpen_62 rfl (Or.inl rfl) (Or.inr ⟨?_, rfl, rfl⟩)
      first | exact fun q => absurd q.1 (by omega) | exact fun q => absurd q.2.1 (by assumption) | exact fun q => absurd (by assumption) q.2.2.1 | exact ⟨by omega, by assumption, by assumption, e8.mp (by rw [← Int32.not_le]; assumption)⟩ | exact fun q => absurd (e8.mpr q.2.2.2) (by rw [Int32.not_lt]; assumption)
set_option maxRecDepth 20000 in
theorem lp_X1_isBoxed {f : Nat} {D : FD} (hF : XF f) (hC : FCS M f D) {P h : Nat} (hX : M.1 f 3 = nI P) (hP : P < 2 ^ 24) (hh : h < dn D) : ∀ (q k : Nat), k + q = dY D h + dH D h → dY D h ≤ k → (∀ y, dY D h ≤ y → y < k → hAt D P (nI (px P h) - 1) y < dn D ∧ hAt D P (nI (px P h + dW D h)) y < dn D) → XW g l mX1_isBoxed (d + 2) 30 [some (xr f), some (xi (nI h)), some (xi (nI (px P h) - 1)), some (xi (nI (px P h + dW D h))), some (xi (nI k))] [] M (XB (boxedH D P h) M M) := by
  have hC0 := hC
  obtain ⟨hn6, ⟨hT, hT2⟩, ⟨hB, hB2⟩, hN, hwl, hwl2, hpt, hpt2, hK, hY, hW, hH, hG⟩ := hC
  have hx := px_lt P h
  have hg := hG h hh
  intro q
  induction q with
  | zero =>
    intro k hk hk2 h0
    refine xw_iload dX1_isBoxed_30 rfl ?_
    refine xw_aload_n dX1_isBoxed_32 rfl ?_
    refine xw_getR dX1_isBoxed_33 fl_X1_34 hF.1 rfl ?_
    refine xw_iload_n dX1_isBoxed_36 rfl ?_
    refine xw_ialN _ dX1_isBoxed_37 hF.2.2.2.2.1 (rfl) (hY _ (by omega)) rfl ?_ ?_
    · omega
    refine xw_aload_n dX1_isBoxed_38 rfl ?_
    refine xw_getR dX1_isBoxed_39 fl_X1_40 hF.1 rfl ?_
    refine xw_iload_n dX1_isBoxed_42 rfl ?_
    refine xw_ialN _ dX1_isBoxed_43 hF.2.2.2.2.2.2.1 (rfl) (hH _ (by omega)) rfl ?_ ?_
    · omega
    refine xw_iaddN dX1_isBoxed_44 ?_
    refine xw_icmp_geN (tgt := 76) dX1_isBoxed_45 (by decide) (by omega) (fun c45 => ?_) (fun c45 => ?_)
    · refine xw_iconst (v := 1) dX1_isBoxed_76 (by decide) ?_
      refine xw_iretz dX1_isBoxed_77 rfl (Or.inr rfl) (Or.inl ⟨?_, rfl, rfl⟩)
      exact fun y h1 h2 => h0 y h1 (by omega)
    · exfalso; omega
  | succ q ih =>
    intro k hk hk2 h0
    have e8 := hV_neg (D := D) (P := P) (y := k) (x := nI (px P h) - 1) hn6
    have e9 := hV_neg (D := D) (P := P) (y := k) (x := nI (px P h + dW D h)) hn6
    refine xw_iload dX1_isBoxed_30 rfl ?_
    refine xw_aload_n dX1_isBoxed_32 rfl ?_
    refine xw_getR dX1_isBoxed_33 fl_X1_34 hF.1 rfl ?_
    refine xw_iload_n dX1_isBoxed_36 rfl ?_
    refine xw_ialN _ dX1_isBoxed_37 hF.2.2.2.2.1 (rfl) (hY _ (by omega)) rfl ?_ ?_
    · omega
    refine xw_aload_n dX1_isBoxed_38 rfl ?_
    refine xw_getR dX1_isBoxed_39 fl_X1_40 hF.1 rfl ?_
    refine xw_iload_n dX1_isBoxed_42 rfl ?_
    refine xw_ialN _ dX1_isBoxed_43 hF.2.2.2.2.2.2.1 (rfl) (hH _ (by omega)) rfl ?_ ?_
    · omega
    refine xw_iaddN dX1_isBoxed_44 ?_
    refine xw_icmp_geN (tgt := 76) dX1_isBoxed_45 (by decide) (by omega) (fun c45 => ?_) (fun c45 => ?_)
    · exfalso; omega
    · refine xw_aload_n dX1_isBoxed_48 rfl ?_
      refine xw_iload_n dX1_isBoxed_49 rfl ?_
      refine xw_iload dX1_isBoxed_50 rfl ?_
      refine xw_cV2E dX1_isBoxed_52 okX1_houseAt ml_X1_56 hF.1 rfl rfl rfl (s_X1_houseAt hF hC0 hX hP (by omega)) ?_
      refine xw_if_lt (tgt := 68) dX1_isBoxed_55 (by decide) (fun c55 => ?_) (fun c55 => ?_)
      · refine xw_iconst (v := 0) dX1_isBoxed_68 (by decide) ?_
        refine xw_iretz dX1_isBoxed_69 rfl (Or.inl rfl) (Or.inr ⟨?_, rfl, rfl⟩)
        first | exact fun z => absurd (z k hk2 (by omega)).1 (e8.mp (by assumption)) | exact fun z => absurd (z k hk2 (by omega)).2 (e9.mp (by rw [← Int32.not_le]; assumption))
      · refine xw_aload_n dX1_isBoxed_58 rfl ?_
        refine xw_iload_n dX1_isBoxed_59 rfl ?_
        refine xw_iload dX1_isBoxed_60 rfl ?_
        refine xw_cV2E dX1_isBoxed_62 okX1_houseAt ml_X1_56 hF.1 rfl rfl rfl (s_X1_houseAt hF hC0 hX hP (by omega)) ?_
        refine xw_if_ge (tgt := 70) dX1_isBoxed_65 (by decide) (fun c65 => ?_) (fun c65 => ?_)
        · refine xw_iincN (v := 1) dX1_isBoxed_70 (by decide) rfl rfl rfl ?_
          refine xw_goto (tgt := 30) dX1_isBoxed_73 (by decide) ?_
          refine ih (k + 1) (by omega) (by omega) (fun y h1 h2 => ?_)
          rcases Nat.lt_or_ge y k with z | z
          · exact h0 y h1 z
          · have z : y = k := by omega
            subst z
            exact ⟨Classical.byContradiction fun z => c55 (e8.mpr z), Classical.byContradiction fun z => absurd c65 (by rw [Int32.not_le]; exact e9.mpr z)⟩
        · refine xw_iconst (v := 0) dX1_isBoxed_68 (by decide) ?_
          refine xw_iretz dX1_isBoxed_69 rfl (Or.inl rfl) (Or.inr ⟨?_, rfl, rfl⟩)
          first | exact fun z => absurd (z k hk2 (by omega)).1 (e8.mp (by assumption)) | exact fun z => absurd (z k hk2 (by omega)).2 (e9.mp (by rw [← Int32.not_le]; assumption))
set_option maxRecDepth 20000 in
theorem s_X1_isBoxed {f : Nat} {D : FD} (hF : XF f) (hC : FCS M f D) {P h : Nat} (hX : M.1 f 3 = nI P) (hP : P < 2 ^ 24) (hh : h < dn D) : XC g l mX1_isBoxed (d + 2) [xr f, xi (nI h)] M (XB (boxedH D P h) M M) := by
  have hC0 := hC
  obtain ⟨hn6, ⟨hT, hT2⟩, ⟨hB, hB2⟩, hN, hwl, hwl2, hpt, hpt2, hK, hY, hW, hH, hG⟩ := hC
  have hx := px_lt P h
  have hg := hG h hh
  show XW g l mX1_isBoxed _ 0 [some (xr f), some (xi (nI h)), none, none, none] [] M _
  refine xw_aload_n dX1_isBoxed_0 rfl ?_
  refine xw_aload_n dX1_isBoxed_1 rfl ?_
  refine xw_getV dX1_isBoxed_2 fl_X1_21 hF.1 rfl (hX) ?_
  refine xw_iload_n dX1_isBoxed_5 rfl ?_
  refine xw_cV2E dX1_isBoxed_6 okX1_xOf ml_X1_60 hF.1 rfl rfl rfl (s_X1_xOf (by assumption) (by omega)) ?_
  refine xw_iconst (v := 1) dX1_isBoxed_9 (by decide) ?_
  refine xw_isub dX1_isBoxed_10 ?_
  refine xw_istore_n dX1_isBoxed_11 rfl rfl ?_
  refine xw_aload_n dX1_isBoxed_12 rfl ?_
  refine xw_aload_n dX1_isBoxed_13 rfl ?_
  refine xw_getV dX1_isBoxed_14 fl_X1_21 hF.1 rfl (hX) ?_
  refine xw_iload_n dX1_isBoxed_17 rfl ?_
  refine xw_cV2E dX1_isBoxed_18 okX1_eastOf ml_X1_63 hF.1 rfl rfl rfl (s_X1_eastOf hF hC0 (by assumption) (by omega)) ?_
  refine xw_istore_n dX1_isBoxed_21 rfl rfl ?_
  refine xw_aload_n dX1_isBoxed_22 rfl ?_
  refine xw_getR dX1_isBoxed_23 fl_X1_34 hF.1 rfl ?_
  refine xw_iload_n dX1_isBoxed_26 rfl ?_
  refine xw_ialN _ dX1_isBoxed_27 hF.2.2.2.2.1 (rfl) (hY _ (by omega)) rfl ?_ ?_
  · omega
  refine xw_istore dX1_isBoxed_28 rfl rfl ?_
  exact lp_X1_isBoxed hF hC0 hX hP hh (dH D h) (dY D h) rfl (Nat.le_refl _) (fun y h1 h2 => absurd h2 (by omega))
set_option maxRecDepth 20000 in
theorem s_X1_rentOf {f : Nat} {D : FD} (hF : XF f) (hC : FCS M f D) {P h : Nat} (hX : M.1 f 3 = nI P) (hP : P < 2 ^ 24) (hh : h < dn D) : XC g l mX1_rentOf (d + 3) [xr f, xi (nI h)] M (XE (some (xi (nI (rentN D P h)))) M) := by
  have hC0 := hC
  obtain ⟨hn6, ⟨hT, hT2⟩, ⟨hB, hB2⟩, hN, hwl, hwl2, hpt, hpt2, hK, hY, hW, hH, hG⟩ := hC
  have hx := px_lt P h
  have hg := hG h hh
  show XW g l mX1_rentOf _ 0 [some (xr f), some (xi (nI h))] [] M _
  refine xw_aload_n dX1_rentOf_0 rfl ?_
  refine xw_aload_n dX1_rentOf_1 rfl ?_
  refine xw_getV dX1_rentOf_2 fl_X1_21 hF.1 rfl (hX) ?_
  refine xw_iload_n dX1_rentOf_5 rfl ?_
  refine xw_cV2B dX1_rentOf_6 okX1_isDrowned ml_X1_69 hF.1 rfl rfl rfl (s_X1_isDrowned hF hC0 hP (by omega)) (fun p6 => ?_) (fun p6 => ?_)
  · refine xw_if_eq (tgt := 16) dX1_rentOf_9 (by decide) (fun q9 => absurd q9 (by decide)) (fun _ => ?_)
    refine xw_iconst (v := 0) dX1_rentOf_12 (by decide) ?_
    refine xw_goto (tgt := 39) dX1_rentOf_13 (by decide) ?_
    refine xw_ireti dX1_rentOf_39 rfl ?_
    first | exact ⟨by unfold rentN; rw [if_pos (decP_t p6)]; rfl, rfl⟩ | exact ⟨by unfold rentN; rw [decP_f p6]; rfl, rfl⟩
  · refine xw_if_eq (tgt := 16) dX1_rentOf_9 (by decide) (fun _ => ?_) (fun q9 => absurd q9 (by decide))
    refine xw_aload_n dX1_rentOf_16 rfl ?_
    refine xw_aload_n dX1_rentOf_17 rfl ?_
    refine xw_getV dX1_rentOf_18 fl_X1_21 hF.1 rfl (hX) ?_
    refine xw_iload_n dX1_rentOf_21 rfl ?_
    refine xw_cV2E dX1_rentOf_22 okX1_xOf ml_X1_60 hF.1 rfl rfl rfl (s_X1_xOf (by assumption) (by omega)) ?_
    refine xw_aload_n dX1_rentOf_25 rfl ?_
    refine xw_getR dX1_rentOf_26 fl_X1_37 hF.1 rfl ?_
    refine xw_iload_n dX1_rentOf_29 rfl ?_
    refine xw_ialN _ dX1_rentOf_30 hF.2.2.2.2.2.1 (rfl) (hW _ (by omega)) rfl ?_ ?_
    · omega
    refine xw_imulN dX1_rentOf_31 ?_
    refine xw_aload_n dX1_rentOf_32 rfl ?_
    refine xw_getR dX1_rentOf_33 fl_X1_40 hF.1 rfl ?_
    refine xw_iload_n dX1_rentOf_36 rfl ?_
    refine xw_ialN _ dX1_rentOf_37 hF.2.2.2.2.2.2.1 (rfl) (hH _ (by omega)) rfl ?_ ?_
    · omega
    refine xw_imulN dX1_rentOf_38 ?_
    refine xw_ireti dX1_rentOf_39 rfl ?_
    first | exact ⟨by unfold rentN; rw [if_pos (decP_t p6)]; rfl, rfl⟩ | exact ⟨by unfold rentN; rw [decP_f p6]; rfl, rfl⟩
theorem rentN_le (D : FD) (P h : Nat) (hw : dW D h ≤ 4) (hh : dH D h ≤ 3) : rentN D P h ≤ 180 := by
  unfold rentN
  split
  · omega
  · have h1 := px_lt P h
    have h2 : px P h * dW D h ≤ 15 * 4 := Nat.mul_le_mul (by omega) hw
    exact Nat.le_trans (Nat.mul_le_mul h2 hh) (by decide)
noncomputable def rentS (D : FD) (P : Nat) : Nat → Nat | 0 => 0 | k + 1 => rentS D P k + rentN D P k
def lieS (M : XM) (c o : Nat) : Nat → Int32 | 0 => 0 | k + 1 => lieS M c o k + M.1 c (o + k)
def wallS (D : FD) : Nat → Nat | 0 => 0 | k + 1 => wallS D k + popc (dwl D k)
set_option maxRecDepth 20000 in
theorem lp_X1_allRents {f : Nat} {D : FD} (hF : XF f) (hC : FCS M f D) {P : Nat} (hX : M.1 f 3 = nI P) (hP : P < 2 ^ 24)  : ∀ (q k : Nat), k + q = dn D → rentS D P k ≤ 180 * k → XW g l mX1_allRents (d + 4) 4 [some (xr f), some (xi (nI (rentS D P k))), some (xi (nI k))] [] M (XE (some (xi (nI (rentS D P (dn D))))) M) := by
  have hC0 := hC
  obtain ⟨hn6, ⟨hT, hT2⟩, ⟨hB, hB2⟩, hN, hwl, hwl2, hpt, hpt2, hK, hY, hW, hH, hG⟩ := hC
  intro q
  induction q with
  | zero =>
    intro k hk hk2
    have hk : k = dn D := by omega
    subst hk
    refine xw_iload_n dX1_allRents_4 rfl ?_
    refine xw_aload_n dX1_allRents_5 rfl ?_
    refine xw_getV dX1_allRents_6 fl_X1_18 hF.1 rfl (hN) ?_
    refine xw_icmp_geN (tgt := 26) dX1_allRents_9 (by decide) (by omega) (fun c9 => ?_) (fun c9 => ?_)
    · refine xw_iload_n dX1_allRents_26 rfl ?_
      refine xw_ireti dX1_allRents_27 rfl ?_
      first | exact ⟨rfl, rfl⟩ | exact ⟨by simp_all, rfl⟩ | grind [XE]
    · exfalso; omega
  | succ q ih =>
    intro k hk hk2
    have hg := hG k (by omega)
    have hr := rentN_le D P k hg.2.2.1 hg.2.2.2.2.1
    refine xw_iload_n dX1_allRents_4 rfl ?_
    refine xw_aload_n dX1_allRents_5 rfl ?_
    refine xw_getV dX1_allRents_6 fl_X1_18 hF.1 rfl (hN) ?_
    refine xw_icmp_geN (tgt := 26) dX1_allRents_9 (by decide) (by omega) (fun c9 => ?_) (fun c9 => ?_)
    · exfalso; omega
    · refine xw_iload_n dX1_allRents_12 rfl ?_
      refine xw_aload_n dX1_allRents_13 rfl ?_
      refine xw_iload_n dX1_allRents_14 rfl ?_
      refine xw_cV1E dX1_allRents_15 okX1_rentOf ml_X1_72 hF.1 rfl rfl rfl (s_X1_rentOf hF hC0 hX hP (by omega)) ?_
      refine xw_iaddN dX1_allRents_18 ?_
      refine xw_istore_n dX1_allRents_19 rfl rfl ?_
      refine xw_iincN (v := 1) dX1_allRents_20 (by decide) rfl rfl rfl ?_
      refine xw_goto (tgt := 4) dX1_allRents_23 (by decide) ?_
      exact ih (k + 1) (by omega) (by show rentS D P k + rentN D P k ≤ _; omega)
set_option maxRecDepth 20000 in
theorem s_X1_allRents {f : Nat} {D : FD} (hF : XF f) (hC : FCS M f D) {P : Nat} (hX : M.1 f 3 = nI P) (hP : P < 2 ^ 24)  : XC g l mX1_allRents (d + 4) [xr f] M (XE (some (xi (nI (rentS D P (dn D))))) M) := by
  have hC0 := hC
  obtain ⟨hn6, ⟨hT, hT2⟩, ⟨hB, hB2⟩, hN, hwl, hwl2, hpt, hpt2, hK, hY, hW, hH, hG⟩ := hC
  show XW g l mX1_allRents _ 0 [some (xr f), none, none] [] M _
  refine xw_iconst (v := 0) dX1_allRents_0 (by decide) ?_
  refine xw_istore_n dX1_allRents_1 rfl rfl ?_
  refine xw_iconst (v := 0) dX1_allRents_2 (by decide) ?_
  refine xw_istore_n dX1_allRents_3 rfl rfl ?_
  exact lp_X1_allRents hF hC0 hX hP (dn D) 0 (by omega) (Nat.le_refl _)
set_option maxRecDepth 20000 in
theorem lp_X1_allLies {f : Nat} {D : FD} (hF : XF f) (hC : FCS M f D)  : ∀ (q k : Nat), k + q = dn D → XW g l mX1_allLies d 4 [some (xr f), some (xi (lieS M (f + 7) 0 k)), some (xi (nI k))] [] M (XE (some (xi (lieS M (f + 7) 0 (dn D)))) M) := by
  have hC0 := hC
  obtain ⟨hn6, ⟨hT, hT2⟩, ⟨hB, hB2⟩, hN, hwl, hwl2, hpt, hpt2, hK, hY, hW, hH, hG⟩ := hC
  intro q
  induction q with
  | zero =>
    intro k hk
    have hk : k = dn D := by omega
    subst hk
    refine xw_iload_n dX1_allLies_4 rfl ?_
    refine xw_aload_n dX1_allLies_5 rfl ?_
    refine xw_getV dX1_allLies_6 fl_X1_18 hF.1 rfl (hN) ?_
    refine xw_icmp_geN (tgt := 27) dX1_allLies_9 (by decide) (by omega) (fun c9 => ?_) (fun c9 => ?_)
    · refine xw_iload_n dX1_allLies_27 rfl ?_
      refine xw_ireti dX1_allLies_28 rfl ?_
      first | exact ⟨rfl, rfl⟩ | exact ⟨by simp_all, rfl⟩ | grind [XE]
    · exfalso; omega
  | succ q ih =>
    intro k hk
    have ih2 := ih (k + 1) (by omega)
    rw [show lieS M (f + 7) 0 (k + 1) = lieS M (f + 7) 0 k + M.1 (f + 7) k by rw [lieS, Nat.zero_add]] at ih2
    refine xw_iload_n dX1_allLies_4 rfl ?_
    refine xw_aload_n dX1_allLies_5 rfl ?_
    refine xw_getV dX1_allLies_6 fl_X1_18 hF.1 rfl (hN) ?_
    refine xw_icmp_geN (tgt := 27) dX1_allLies_9 (by decide) (by omega) (fun c9 => ?_) (fun c9 => ?_)
    · exfalso; omega
    · refine xw_iload_n dX1_allLies_12 rfl ?_
      refine xw_aload_n dX1_allLies_13 rfl ?_
      refine xw_getR dX1_allLies_14 fl_X1_43 hF.1 rfl ?_
      refine xw_iload_n dX1_allLies_17 rfl ?_
      refine xw_ialN _ dX1_allLies_18 hF.2.2.2.2.2.2.2 (rfl) (rfl) rfl ?_ ?_
      · omega
      refine xw_iadd dX1_allLies_19 ?_
      refine xw_istore_n dX1_allLies_20 rfl rfl ?_
      refine xw_iincN (v := 1) dX1_allLies_21 (by decide) rfl rfl rfl ?_
      refine xw_goto (tgt := 4) dX1_allLies_24 (by decide) ?_
      exact ih2
set_option maxRecDepth 20000 in
theorem s_X1_allLies {f : Nat} {D : FD} (hF : XF f) (hC : FCS M f D)  : XC g l mX1_allLies d [xr f] M (XE (some (xi (lieS M (f + 7) 0 (dn D)))) M) := by
  have hC0 := hC
  obtain ⟨hn6, ⟨hT, hT2⟩, ⟨hB, hB2⟩, hN, hwl, hwl2, hpt, hpt2, hK, hY, hW, hH, hG⟩ := hC
  show XW g l mX1_allLies _ 0 [some (xr f), none, none] [] M _
  refine xw_iconst (v := 0) dX1_allLies_0 (by decide) ?_
  refine xw_istore_n dX1_allLies_1 rfl rfl ?_
  refine xw_iconst (v := 0) dX1_allLies_2 (by decide) ?_
  refine xw_istore_n dX1_allLies_3 rfl rfl ?_
  exact lp_X1_allLies hF hC0 (dn D) 0 (by omega)
set_option maxRecDepth 20000 in
theorem s_J6_bitCount_0f7a4 {a : Nat} (ha : a < 65536) : XC g l mJ6_bitCount_0f7a4 d [xi (nI a)] M (XE (some (xi (nI (popc a)))) M) := by
  rw [← bitN_eq ha]
  have hb : a - (a / 2 &&& 1431655765) < 65536 := by omega
  show XW g l mJ6_bitCount_0f7a4 _ 0 [some (xi (nI a))] [] M _
  refine xw_iload_n dJ6_bitCount_0f7a4_0 rfl ?_
  refine xw_iload_n dJ6_bitCount_0f7a4_1 rfl ?_
  refine xw_iconst (v := 1) dJ6_bitCount_0f7a4_2 (by decide) ?_
  refine xw_iushrN (s := 1) dJ6_bitCount_0f7a4_3 ?_ ?_ ?_
  · omega
  · omega
  refine xw_ldcw dJ6_bitCount_0f7a4_4 kc_J6_265 ?_
  refine xw_iandN (b := 1431655765) dJ6_bitCount_0f7a4_7 ?_
  refine xw_isubN dJ6_bitCount_0f7a4_8 ?_ ?_
  · exact Nat.le_trans Nat.and_le_left (Nat.div_le_self _ _)
  refine xw_istore_n dJ6_bitCount_0f7a4_9 rfl rfl ?_
  refine xw_iload_n dJ6_bitCount_0f7a4_10 rfl ?_
  refine xw_ldcw dJ6_bitCount_0f7a4_11 kc_J6_266 ?_
  refine xw_iandN (b := 858993459) dJ6_bitCount_0f7a4_14 ?_
  refine xw_iload_n dJ6_bitCount_0f7a4_15 rfl ?_
  refine xw_iconst (v := 2) dJ6_bitCount_0f7a4_16 (by decide) ?_
  refine xw_iushrN (s := 2) dJ6_bitCount_0f7a4_17 ?_ ?_ ?_
  · decide
  · exact Nat.lt_of_le_of_lt (Nat.sub_le _ _) (by omega)
  refine xw_ldcw dJ6_bitCount_0f7a4_18 kc_J6_266 ?_
  refine xw_iandN (b := 858993459) dJ6_bitCount_0f7a4_21 ?_
  refine xw_iaddN dJ6_bitCount_0f7a4_22 ?_
  refine xw_istore_n dJ6_bitCount_0f7a4_23 rfl rfl ?_
  refine xw_iload_n dJ6_bitCount_0f7a4_24 rfl ?_
  refine xw_iload_n dJ6_bitCount_0f7a4_25 rfl ?_
  refine xw_iconst (v := 4) dJ6_bitCount_0f7a4_26 (by decide) ?_
  refine xw_iushrN (s := 4) dJ6_bitCount_0f7a4_27 ?_ ?_ ?_
  · decide
  · exact Nat.lt_of_le_of_lt (Nat.add_le_add Nat.and_le_right Nat.and_le_right) (by decide)
  refine xw_iaddN dJ6_bitCount_0f7a4_28 ?_
  refine xw_ldcw dJ6_bitCount_0f7a4_29 kc_J6_267 ?_
  refine xw_iandN (b := 252645135) dJ6_bitCount_0f7a4_32 ?_
  refine xw_istore_n dJ6_bitCount_0f7a4_33 rfl rfl ?_
  refine xw_iload_n dJ6_bitCount_0f7a4_34 rfl ?_
  refine xw_iload_n dJ6_bitCount_0f7a4_35 rfl ?_
  refine xw_bipush (v := 8) dJ6_bitCount_0f7a4_36 (by decide) ?_
  refine xw_iushrN (s := 8) dJ6_bitCount_0f7a4_38 ?_ ?_ ?_
  · decide
  · exact Nat.lt_of_le_of_lt Nat.and_le_right (by decide)
  refine xw_iaddN dJ6_bitCount_0f7a4_39 ?_
  refine xw_istore_n dJ6_bitCount_0f7a4_40 rfl rfl ?_
  refine xw_iload_n dJ6_bitCount_0f7a4_41 rfl ?_
  refine xw_iload_n dJ6_bitCount_0f7a4_42 rfl ?_
  refine xw_bipush (v := 16) dJ6_bitCount_0f7a4_43 (by decide) ?_
  refine xw_iushrN (s := 16) dJ6_bitCount_0f7a4_45 ?_ ?_ ?_
  · decide
  · exact Nat.lt_of_le_of_lt (Nat.add_le_add Nat.and_le_right (Nat.le_trans (Nat.div_le_self _ _) Nat.and_le_right)) (by decide)
  refine xw_iaddN dJ6_bitCount_0f7a4_46 ?_
  refine xw_istore_n dJ6_bitCount_0f7a4_47 rfl rfl ?_
  refine xw_iload_n dJ6_bitCount_0f7a4_48 rfl ?_
  refine xw_bipush (v := 63) dJ6_bitCount_0f7a4_49 (by decide) ?_
  refine xw_iandN (b := 63) dJ6_bitCount_0f7a4_51 ?_
  refine xw_ireti dJ6_bitCount_0f7a4_52 rfl ?_
  first | exact ⟨rfl, rfl⟩ | exact ⟨by simp_all, rfl⟩ | grind [XE]
set_option maxRecDepth 20000 in
theorem lp_X1_wallCells {f : Nat} {D : FD} (hF : XF f) (hC : FCS M f D)  : ∀ (q k : Nat), k + q = 8 → XW g l mX1_wallCells (d + 1) 4 [some (xr f), some (xi (nI (wallS D k))), some (xi (nI k))] [] M (XE (some (xi (nI (wallS D 8)))) M) := by
  have hC0 := hC
  obtain ⟨hn6, ⟨hT, hT2⟩, ⟨hB, hB2⟩, hN, hwl, hwl2, hpt, hpt2, hK, hY, hW, hH, hG⟩ := hC
  intro q
  induction q with
  | zero =>
    intro k hk
    have hk : k = 8 := by omega
    subst hk
    refine xw_iload_n dX1_wallCells_4 rfl ?_
    refine xw_bipush (v := 8) dX1_wallCells_5 (by decide) ?_
    refine xw_icmp_geN (b := 8) (tgt := 28) dX1_wallCells_7 (by decide) (by omega) (fun c7 => ?_) (fun c7 => ?_)
    · refine xw_iload_n dX1_wallCells_28 rfl ?_
      refine xw_ireti dX1_wallCells_29 rfl ?_
      first | exact ⟨rfl, rfl⟩ | exact ⟨by simp_all, rfl⟩ | grind [XE]
    · exfalso; omega
  | succ q ih =>
    intro k hk
    refine xw_iload_n dX1_wallCells_4 rfl ?_
    refine xw_bipush (v := 8) dX1_wallCells_5 (by decide) ?_
    refine xw_icmp_geN (b := 8) (tgt := 28) dX1_wallCells_7 (by decide) (by omega) (fun c7 => ?_) (fun c7 => ?_)
    · exfalso; omega
    · refine xw_iload_n dX1_wallCells_10 rfl ?_
      refine xw_aload_n dX1_wallCells_11 rfl ?_
      refine xw_getR dX1_wallCells_12 fl_X1_24 hF.1 rfl ?_
      refine xw_iload_n dX1_wallCells_15 rfl ?_
      refine xw_ialN _ dX1_wallCells_16 hF.2.1 (rfl) (hwl _ (by omega)) rfl ?_ ?_
      · omega
      refine xw_cS1E dX1_wallCells_17 okJ6_bitCount_0f7a4 ml_X1_76 rfl rfl (s_J6_bitCount_0f7a4 (hwl2 k (by omega))) ?_
      refine xw_iaddN dX1_wallCells_20 ?_
      refine xw_istore_n dX1_wallCells_21 rfl rfl ?_
      refine xw_iincN (v := 1) dX1_wallCells_22 (by decide) rfl rfl rfl ?_
      refine xw_goto (tgt := 4) dX1_wallCells_25 (by decide) ?_
      exact ih (k + 1) (by omega)
set_option maxRecDepth 20000 in
theorem s_X1_wallCells {f : Nat} {D : FD} (hF : XF f) (hC : FCS M f D)  : XC g l mX1_wallCells (d + 1) [xr f] M (XE (some (xi (nI (wallS D 8)))) M) := by
  have hC0 := hC
  obtain ⟨hn6, ⟨hT, hT2⟩, ⟨hB, hB2⟩, hN, hwl, hwl2, hpt, hpt2, hK, hY, hW, hH, hG⟩ := hC
  show XW g l mX1_wallCells _ 0 [some (xr f), none, none] [] M _
  refine xw_iconst (v := 0) dX1_wallCells_0 (by decide) ?_
  refine xw_istore_n dX1_wallCells_1 rfl rfl ?_
  refine xw_iconst (v := 0) dX1_wallCells_2 (by decide) ?_
  refine xw_istore_n dX1_wallCells_3 rfl rfl ?_
  exact lp_X1_wallCells hF hC0 8 0 (by omega)
set_option maxRecDepth 20000 in
theorem lp_X1_isStopped {f : Nat} {D : FD} (hF : XF f) (hC : FCS M f D) {P h : Nat} (hP : P < 2 ^ 24) (hh : h < dn D) (he : px P h + dW D h < 16) : ∀ (q k : Nat), k + q = dY D h + dH D h → dY D h ≤ k → (∀ y, dY D h ≤ y → y < k → ¬ wallAt D (px P h + dW D h) y) → XW g l mX1_isStopped (d + 2) 23 [some (xr f), some (xi (nI P)), some (xi (nI h)), some (xi (nI (px P h + dW D h))), some (xi (nI k))] [] M (XB (stopH D P h) M M) := by
  have hC0 := hC
  obtain ⟨hn6, ⟨hT, hT2⟩, ⟨hB, hB2⟩, hN, hwl, hwl2, hpt, hpt2, hK, hY, hW, hH, hG⟩ := hC
  have hg := hG h hh
  intro q
  induction q with
  | zero =>
    intro k hk hk2 h0
    refine xw_iload dX1_isStopped_23 rfl ?_
    refine xw_aload_n dX1_isStopped_25 rfl ?_
    refine xw_getR dX1_isStopped_26 fl_X1_34 hF.1 rfl ?_
    refine xw_iload_n dX1_isStopped_29 rfl ?_
    refine xw_ialN _ dX1_isStopped_30 hF.2.2.2.2.1 (rfl) (hY _ (by omega)) rfl ?_ ?_
    · omega
    refine xw_aload_n dX1_isStopped_31 rfl ?_
    refine xw_getR dX1_isStopped_32 fl_X1_40 hF.1 rfl ?_
    refine xw_iload_n dX1_isStopped_35 rfl ?_
    refine xw_ialN _ dX1_isStopped_36 hF.2.2.2.2.2.2.1 (rfl) (hH _ (by omega)) rfl ?_ ?_
    · omega
    refine xw_iaddN dX1_isStopped_37 ?_
    refine xw_icmp_geN (tgt := 59) dX1_isStopped_38 (by decide) (by omega) (fun c38 => ?_) (fun c38 => ?_)
    · refine xw_iconst (v := 0) dX1_isStopped_59 (by decide) ?_
      refine xw_iretz dX1_isStopped_60 rfl (Or.inl rfl) (Or.inr ⟨?_, rfl, rfl⟩)
      rintro (z | ⟨y, h1, h2, h3⟩)
      · omega
      · exact h0 y h1 (by omega) h3
    · exfalso; omega
  | succ q ih =>
    intro k hk hk2 h0
    refine xw_iload dX1_isStopped_23 rfl ?_
    refine xw_aload_n dX1_isStopped_25 rfl ?_
    refine xw_getR dX1_isStopped_26 fl_X1_34 hF.1 rfl ?_
    refine xw_iload_n dX1_isStopped_29 rfl ?_
    refine xw_ialN _ dX1_isStopped_30 hF.2.2.2.2.1 (rfl) (hY _ (by omega)) rfl ?_ ?_
    · omega
    refine xw_aload_n dX1_isStopped_31 rfl ?_
    refine xw_getR dX1_isStopped_32 fl_X1_40 hF.1 rfl ?_
    refine xw_iload_n dX1_isStopped_35 rfl ?_
    refine xw_ialN _ dX1_isStopped_36 hF.2.2.2.2.2.2.1 (rfl) (hH _ (by omega)) rfl ?_ ?_
    · omega
    refine xw_iaddN dX1_isStopped_37 ?_
    refine xw_icmp_geN (tgt := 59) dX1_isStopped_38 (by decide) (by omega) (fun c38 => ?_) (fun c38 => ?_)
    · exfalso; omega
    · refine xw_aload_n dX1_isStopped_41 rfl ?_
      refine xw_iload_n dX1_isStopped_42 rfl ?_
      refine xw_iload dX1_isStopped_43 rfl ?_
      refine xw_cV2B dX1_isStopped_45 okX1_isWall ml_X1_52 hF.1 rfl rfl rfl (s_X1_isWall hF hC0 (by omega) (by omega)) (fun p45 => ?_) (fun p45 => ?_)
      · refine xw_if_eq (tgt := 53) dX1_isStopped_48 (by decide) (fun q9 => absurd q9 (by decide)) (fun _ => ?_)
        refine xw_iconst (v := 1) dX1_isStopped_51 (by decide) ?_
        refine xw_iretz dX1_isStopped_52 rfl (Or.inr rfl) (Or.inl ⟨?_, rfl, rfl⟩)
        exact Or.inr ⟨k, hk2, by omega, p45⟩
      · refine xw_if_eq (tgt := 53) dX1_isStopped_48 (by decide) (fun _ => ?_) (fun q9 => absurd q9 (by decide))
        refine xw_iincN (v := 1) dX1_isStopped_53 (by decide) rfl rfl rfl ?_
        refine xw_goto (tgt := 23) dX1_isStopped_56 (by decide) ?_
        refine ih (k + 1) (by omega) (by omega) (fun y h1 h2 => ?_)
        rcases Nat.lt_or_ge y k with z | z
        · exact h0 y h1 z
        · have z : y = k := by omega
          subst z
          exact p45
set_option maxRecDepth 20000 in
theorem s_X1_isStopped {f : Nat} {D : FD} (hF : XF f) (hC : FCS M f D) {P h : Nat} (hP : P < 2 ^ 24) (hh : h < dn D) : XC g l mX1_isStopped (d + 2) [xr f, xi (nI P), xi (nI h)] M (XB (stopH D P h) M M) := by
  have hC0 := hC
  obtain ⟨hn6, ⟨hT, hT2⟩, ⟨hB, hB2⟩, hN, hwl, hwl2, hpt, hpt2, hK, hY, hW, hH, hG⟩ := hC
  have hx := px_lt P h
  have hg := hG h hh
  show XW g l mX1_isStopped _ 0 [some (xr f), some (xi (nI P)), some (xi (nI h)), none, none] [] M _
  refine xw_aload_n dX1_isStopped_0 rfl ?_
  refine xw_iload_n dX1_isStopped_1 rfl ?_
  refine xw_iload_n dX1_isStopped_2 rfl ?_
  refine xw_cV2E dX1_isStopped_3 okX1_eastOf ml_X1_63 hF.1 rfl rfl rfl (s_X1_eastOf hF hC0 (by assumption) (by omega)) ?_
  refine xw_istore_n dX1_isStopped_6 rfl rfl ?_
  refine xw_iload_n dX1_isStopped_7 rfl ?_
  refine xw_bipush (v := 16) dX1_isStopped_8 (by decide) ?_
  refine xw_icmp_ltN (b := 16) (tgt := 15) dX1_isStopped_10 (by decide) (by omega) (fun c10 => ?_) (fun c10 => ?_)
  · refine xw_aload_n dX1_isStopped_15 rfl ?_
    refine xw_getR dX1_isStopped_16 fl_X1_34 hF.1 rfl ?_
    refine xw_iload_n dX1_isStopped_19 rfl ?_
    refine xw_ialN _ dX1_isStopped_20 hF.2.2.2.2.1 (rfl) (hY _ (by omega)) rfl ?_ ?_
    · omega
    refine xw_istore dX1_isStopped_21 rfl rfl ?_
    exact lp_X1_isStopped hF hC0 hP hh (by omega) (dH D h) (dY D h) rfl (Nat.le_refl _) (fun y h1 h2 => absurd h2 (by omega))
  · refine xw_iconst (v := 1) dX1_isStopped_13 (by decide) ?_
    refine xw_iretz dX1_isStopped_14 rfl (Or.inr rfl) (Or.inl ⟨?_, rfl, rfl⟩)
    exact Or.inl (by omega)
end FIELD
