section RFIELD
variable {g : XG} {l : Launch} {d : Nat} {M : XM}
set_option maxRecDepth 20000 in
theorem s_X8_has {s k : Nat} (hs : s < 2 ^ 31) (hk : k < 31) : XC g l mX8_has d [xi (nI s), xi (nI k)] M (XB (s.testBit k = true) M M) := by
  have ht := tb_div s k
  have hm := Nat.mod_lt (s / 2 ^ k) (show 2 > 0 by decide)
  show XW g l mX8_has _ 0 [some (xi (nI s)), some (xi (nI k))] [] M _
  refine xw_iload_n dX8_has_0 rfl ?_
  refine xw_iload_n dX8_has_1 rfl ?_
  refine xw_ishrN dX8_has_2 ?_ ?_ ?_
  · omega
  · omega
  refine xw_iconst (v := 1) dX8_has_3 (by decide) ?_
  refine xw_iandN (b := 1) dX8_has_4 ?_
  rw [and1]
  refine xw_iconst (v := 1) dX8_has_5 (by decide) ?_
  refine xw_icmp_neN (b := 1) (tgt := 13) dX8_has_6 (by decide) (by omega) (fun c6 => ?_) (fun c6 => ?_)
  · refine xw_iconst (v := 0) dX8_has_13 (by decide) ?_
    refine xw_iretz dX8_has_14 rfl (Or.inl rfl) (Or.inr ⟨?_, rfl, rfl⟩)
    first | exact ht.mp c6 | exact fun z => c6 (ht.mpr z)
  · refine xw_iconst (v := 1) dX8_has_9 (by decide) ?_
    refine xw_goto (tgt := 14) dX8_has_10 (by decide) ?_
    refine xw_iretz dX8_has_14 rfl (Or.inr rfl) (Or.inl ⟨?_, rfl, rfl⟩)
    first | exact ht.mp c6 | exact fun z => c6 (ht.mpr z)
set_option maxRecDepth 20000 in
theorem s_X8_isOf {a : Nat} {D : FD} (hs : xsh[a]? = some (.inr (0, 168))) (hC : FMS M a D) {P h y : Nat} {x : Int32} (hX : XMP M a P) (hh : h < dn D) (hy : y < 100) : XC g l mX8_isOf d [xr a, xi (nI h), xi x, xi (nI y)] M (XB (inH D P h x y) M M) := by
  have hC0 := hC
  obtain ⟨hn6, ⟨hT, hT2⟩, ⟨hB, hB2⟩, hN, hcl, hK, hY, hW, hH, hG⟩ := hC
  have hg := hG h hh
  have hx := px_lt P h
  show XW g l mX8_isOf _ 0 [some (xr a), some (xi (nI h)), some (xi x), some (xi (nI y))] [] M _
  refine xw_iload_n dX8_isOf_0 rfl ?_
  refine xw_aload_n dX8_isOf_1 rfl ?_
  refine xw_bipush (v := 10) dX8_isOf_2 (by decide) ?_
  refine xw_iload_n dX8_isOf_4 rfl ?_
  refine xw_iaddN (a := 10) dX8_isOf_5 ?_
  refine xw_ialN _ dX8_isOf_6 hs (rfl) (hX _ (by omega)) rfl ?_ ?_
  · omega
  refine xw_icmp_lt (tgt := 58) dX8_isOf_7 (by decide) (fun c7 => ?_) (fun c7 => ?_)
  · refine xw_iconst (v := 0) dX8_isOf_58 (by decide) ?_
    refine xw_iretz dX8_isOf_59 rfl (Or.inl rfl) (Or.inr ⟨?_, rfl, rfl⟩)
    first | exact ⟨by grind, by grind, by omega, by omega⟩ | (rintro ⟨q1, q2, q3, q4⟩; first | omega | grind)
  · refine xw_iload_n dX8_isOf_10 rfl ?_
    refine xw_aload_n dX8_isOf_11 rfl ?_
    refine xw_bipush (v := 10) dX8_isOf_12 (by decide) ?_
    refine xw_iload_n dX8_isOf_14 rfl ?_
    refine xw_iaddN (a := 10) dX8_isOf_15 ?_
    refine xw_ialN _ dX8_isOf_16 hs (rfl) (hX _ (by omega)) rfl ?_ ?_
    · omega
    refine xw_aload_n dX8_isOf_17 rfl ?_
    refine xw_bipush (v := 22) dX8_isOf_18 (by decide) ?_
    refine xw_iload_n dX8_isOf_20 rfl ?_
    refine xw_iaddN (a := 22) dX8_isOf_21 ?_
    refine xw_ialN _ dX8_isOf_22 hs (rfl) (hW _ (by omega)) rfl ?_ ?_
    · omega
    refine xw_iaddN dX8_isOf_23 ?_
    refine xw_icmp_ge (tgt := 58) dX8_isOf_24 (by decide) (fun c24 => ?_) (fun c24 => ?_)
    · refine xw_iconst (v := 0) dX8_isOf_58 (by decide) ?_
      refine xw_iretz dX8_isOf_59 rfl (Or.inl rfl) (Or.inr ⟨?_, rfl, rfl⟩)
      first | exact ⟨by grind, by grind, by omega, by omega⟩ | (rintro ⟨q1, q2, q3, q4⟩; first | omega | grind)
    · refine xw_iload_n dX8_isOf_27 rfl ?_
      refine xw_aload_n dX8_isOf_28 rfl ?_
      refine xw_bipush (v := 16) dX8_isOf_29 (by decide) ?_
      refine xw_iload_n dX8_isOf_31 rfl ?_
      refine xw_iaddN (a := 16) dX8_isOf_32 ?_
      refine xw_ialN _ dX8_isOf_33 hs (rfl) (hY _ (by omega)) rfl ?_ ?_
      · omega
      refine xw_icmp_ltN (tgt := 58) dX8_isOf_34 (by decide) (by omega) (fun c34 => ?_) (fun c34 => ?_)
      · refine xw_iconst (v := 0) dX8_isOf_58 (by decide) ?_
        refine xw_iretz dX8_isOf_59 rfl (Or.inl rfl) (Or.inr ⟨?_, rfl, rfl⟩)
        first | exact ⟨by grind, by grind, by omega, by omega⟩ | (rintro ⟨q1, q2, q3, q4⟩; first | omega | grind)
      · refine xw_iload_n dX8_isOf_37 rfl ?_
        refine xw_aload_n dX8_isOf_38 rfl ?_
        refine xw_bipush (v := 16) dX8_isOf_39 (by decide) ?_
        refine xw_iload_n dX8_isOf_41 rfl ?_
        refine xw_iaddN (a := 16) dX8_isOf_42 ?_
        refine xw_ialN _ dX8_isOf_43 hs (rfl) (hY _ (by omega)) rfl ?_ ?_
        · omega
        refine xw_aload_n dX8_isOf_44 rfl ?_
        refine xw_bipush (v := 28) dX8_isOf_45 (by decide) ?_
        refine xw_iload_n dX8_isOf_47 rfl ?_
        refine xw_iaddN (a := 28) dX8_isOf_48 ?_
        refine xw_ialN _ dX8_isOf_49 hs (rfl) (hH _ (by omega)) rfl ?_ ?_
        · omega
        refine xw_iaddN dX8_isOf_50 ?_
        refine xw_icmp_geN (tgt := 58) dX8_isOf_51 (by decide) (by omega) (fun c51 => ?_) (fun c51 => ?_)
        · refine xw_iconst (v := 0) dX8_isOf_58 (by decide) ?_
          refine xw_iretz dX8_isOf_59 rfl (Or.inl rfl) (Or.inr ⟨?_, rfl, rfl⟩)
          first | exact ⟨by grind, by grind, by omega, by omega⟩ | (rintro ⟨q1, q2, q3, q4⟩; first | omega | grind)
        · refine xw_iconst (v := 1) dX8_isOf_54 (by decide) ?_
          refine xw_goto (tgt := 59) dX8_isOf_55 (by decide) ?_
          refine xw_iretz dX8_isOf_59 rfl (Or.inr rfl) (Or.inl ⟨?_, rfl, rfl⟩)
          first | exact ⟨by grind, by grind, by omega, by omega⟩ | (rintro ⟨q1, q2, q3, q4⟩; first | omega | grind)
noncomputable def hW2 (D : FD) (P : Nat) (x : Int32) (y : Nat) : Int32 := if hAt D P x y < dn D then nI (hAt D P x y) else -1000000
theorem hW2_none {D : FD} {P y : Nat} {x : Int32} (hn : dn D ≤ 6) : hW2 D P x y = -1000000 ↔ ¬ hAt D P x y < dn D := by
  unfold hW2
  split
  · rename_i h
    exact ⟨fun q => absurd (q ▸ nI_pos' (n := hAt D P x y) (by omega)) (by decide), fun q => absurd h q⟩
  · rename_i h
    exact ⟨fun _ => h, fun _ => rfl⟩
set_option maxRecDepth 20000 in
theorem lp_X8_houseAt {a : Nat} {D : FD} (hs : xsh[a]? = some (.inr (0, 168))) (hC : FMS M a D) {P y : Nat} {x : Int32} (hX : XMP M a P) (hy : y < 100) : ∀ (q k : Nat), k + q = dn D → (∀ j, j < k → ¬ inH D P j x y) → XW g l mX8_houseAt (d + 1) 2 [some (xr a), some (xi x), some (xi (nI y)), some (xi (nI k))] [] M (XE (some (xi (hW2 D P x y))) M) := by
  have hC0 := hC
  obtain ⟨hn6, ⟨hT, hT2⟩, ⟨hB, hB2⟩, hN, hcl, hK, hY, hW, hH, hG⟩ := hC
  intro q
  induction q with
  | zero =>
    intro k hk h0
    have hk : k = dn D := by omega
    subst hk
    refine xw_iload_n dX8_houseAt_2 rfl ?_
    refine xw_aload_n dX8_houseAt_3 rfl ?_
    refine xw_iconst (v := 3) dX8_houseAt_4 (by decide) ?_
    refine xw_ialN 3 dX8_houseAt_5 hs (rfl) (hN) rfl ?_ ?_
    · omega
    refine xw_icmp_geN (tgt := 27) dX8_houseAt_6 (by decide) (by omega) (fun c6 => ?_) (fun c6 => ?_)
    · refine xw_ldc dX8_houseAt_27 kc_X8_50 ?_
      refine xw_ireti dX8_houseAt_29 rfl ?_
      exact ⟨by unfold hW2; rw [hAt_none h0, if_neg (by omega)], rfl⟩
    · exfalso; omega
  | succ q ih =>
    intro k hk h0
    refine xw_iload_n dX8_houseAt_2 rfl ?_
    refine xw_aload_n dX8_houseAt_3 rfl ?_
    refine xw_iconst (v := 3) dX8_houseAt_4 (by decide) ?_
    refine xw_ialN 3 dX8_houseAt_5 hs (rfl) (hN) rfl ?_ ?_
    · omega
    refine xw_icmp_geN (tgt := 27) dX8_houseAt_6 (by decide) (by omega) (fun c6 => ?_) (fun c6 => ?_)
    · exfalso; omega
    · refine xw_aload_n dX8_houseAt_9 rfl ?_
      refine xw_iload_n dX8_houseAt_10 rfl ?_
      refine xw_iload_n dX8_houseAt_11 rfl ?_
      refine xw_iload_n dX8_houseAt_12 rfl ?_
      refine xw_cS4B dX8_houseAt_13 okX8_isOf ml_X8_130 rfl rfl (s_X8_isOf hs hC0 hX (by omega) hy) (fun p13 => ?_) (fun p13 => ?_)
      · refine xw_if_eq (tgt := 21) dX8_houseAt_16 (by decide) (fun q9 => absurd q9 (by decide)) (fun _ => ?_)
        refine xw_iload_n dX8_houseAt_19 rfl ?_
        refine xw_ireti dX8_houseAt_20 rfl ?_
        exact ⟨by unfold hW2; rw [hAt_at h0 p13 (by omega), if_pos (by omega)], rfl⟩
      · refine xw_if_eq (tgt := 21) dX8_houseAt_16 (by decide) (fun _ => ?_) (fun q9 => absurd q9 (by decide))
        refine xw_iincN (v := 1) dX8_houseAt_21 (by decide) rfl rfl rfl ?_
        refine xw_goto (tgt := 2) dX8_houseAt_24 (by decide) ?_
        refine ih (k + 1) (by omega) (fun j hj => ?_)
        rcases Nat.lt_or_ge j k with z | z
        · exact h0 j z
        · have z : j = k := by omega
          subst z
          exact p13
set_option maxRecDepth 20000 in
theorem s_X8_houseAt {a : Nat} {D : FD} (hs : xsh[a]? = some (.inr (0, 168))) (hC : FMS M a D) {P y : Nat} {x : Int32} (hX : XMP M a P) (hy : y < 100) : XC g l mX8_houseAt (d + 1) [xr a, xi x, xi (nI y)] M (XE (some (xi (hW2 D P x y))) M) := by
  have hC0 := hC
  obtain ⟨hn6, ⟨hT, hT2⟩, ⟨hB, hB2⟩, hN, hcl, hK, hY, hW, hH, hG⟩ := hC
  show XW g l mX8_houseAt _ 0 [some (xr a), some (xi x), some (xi (nI y)), none] [] M _
  refine xw_iconst (v := 0) dX8_houseAt_0 (by decide) ?_
  refine xw_istore_n dX8_houseAt_1 rfl rfl ?_
  exact lp_X8_houseAt hs hC0 hX hy (dn D) 0 (by omega) (fun _ h => absurd h (by omega))
set_option maxRecDepth 20000 in
theorem s_X8_isWallAt {a : Nat} {D : FD} (hs : xsh[a]? = some (.inr (0, 168))) (hC : FMS M a D) {x y : Nat} (hx : x < 16) (hy : y < 8) : XC g l mX8_isWallAt d [xr a, xi (nI x), xi (nI y)] M (XB (wallAt D x y) M M) := by
  have hC0 := hC
  obtain ⟨hn6, ⟨hT, hT2⟩, ⟨hB, hB2⟩, hN, hcl, hK, hY, hW, hH, hG⟩ := hC
  have hm := Nat.mod_lt (dwl D y / 2 ^ x) (show 2 > 0 by decide)
  show XW g l mX8_isWallAt _ 0 [some (xr a), some (xi (nI x)), some (xi (nI y))] [] M _
  refine xw_aload_n dX8_isWallAt_0 rfl ?_
  refine xw_bipush (v := 40) dX8_isWallAt_1 (by decide) ?_
  refine xw_iload_n dX8_isWallAt_3 rfl ?_
  refine xw_iaddN (a := 40) dX8_isWallAt_4 ?_
  refine xw_bipush (v := 16) dX8_isWallAt_5 (by decide) ?_
  refine xw_iload_n dX8_isWallAt_7 rfl ?_
  refine xw_imulN (a := 16) dX8_isWallAt_8 ?_
  refine xw_iaddN dX8_isWallAt_9 ?_
  refine xw_ialN _ dX8_isWallAt_10 hs (rfl) (hcl _ _ (by omega) (by omega)) rfl ?_ ?_
  · omega
  refine xw_iconst (v := 1) dX8_isWallAt_11 (by decide) ?_
  refine xw_iandN (b := 1) dX8_isWallAt_12 ?_
  rw [mod2and]
  refine xw_iconst (v := 1) dX8_isWallAt_13 (by decide) ?_
  refine xw_icmp_neN (b := 1) (tgt := 21) dX8_isWallAt_14 (by decide) (by omega) (fun c14 => ?_) (fun c14 => ?_)
  · refine xw_iconst (v := 0) dX8_isWallAt_21 (by decide) ?_
    refine xw_iretz dX8_isWallAt_22 rfl (Or.inl rfl) (Or.inr ⟨?_, rfl, rfl⟩)
    first | (show ¬ (_ = 1); omega) | (show _ = 1; omega)
  · refine xw_iconst (v := 1) dX8_isWallAt_17 (by decide) ?_
    refine xw_goto (tgt := 22) dX8_isWallAt_18 (by decide) ?_
    refine xw_iretz dX8_isWallAt_22 rfl (Or.inr rfl) (Or.inl ⟨?_, rfl, rfl⟩)
    first | (show ¬ (_ = 1); omega) | (show _ = 1; omega)
set_option maxRecDepth 20000 in
theorem s_X8_meetsEast {D : FD} {P : Nat} (hC : FMS M 54 D) (hX : XMP M 54 P) {a b : Nat} (ha : a < dn D) (hb : b < dn D) : XC g l mX8_meetsEast d [xr 49, xi (nI a), xi (nI b)] M (XB (meetH D P a b) M M) := by
  have hC0 := hC
  obtain ⟨hn6, ⟨hT, hT2⟩, ⟨hB, hB2⟩, hN, hcl, hK, hY, hW, hH, hG⟩ := hC
  have h1 := hG a ha
  have h2 := hG b hb
  have h3 := px_lt P a
  have h4 := px_lt P b
  show XW g l mX8_meetsEast _ 0 [some (xr 49), some (xi (nI a)), some (xi (nI b)), none, none] [] M _
  refine xw_aload_n dX8_meetsEast_0 rfl ?_
  refine xw_getR dX8_meetsEast_1 fl_X8_22 rfl rfl ?_
  refine xw_bipush (v := 10) dX8_meetsEast_4 (by decide) ?_
  refine xw_iload_n dX8_meetsEast_6 rfl ?_
  refine xw_iaddN (a := 10) dX8_meetsEast_7 ?_
  refine xw_ialN _ dX8_meetsEast_8 rfl (rfl) (hX _ (by omega)) rfl ?_ ?_
  · omega
  refine xw_iconst (v := 1) dX8_meetsEast_9 (by decide) ?_
  refine xw_iaddN (b := 1) dX8_meetsEast_10 ?_
  refine xw_istore_n dX8_meetsEast_11 rfl rfl ?_
  refine xw_aload_n dX8_meetsEast_12 rfl ?_
  refine xw_getR dX8_meetsEast_13 fl_X8_22 rfl rfl ?_
  refine xw_bipush (v := 10) dX8_meetsEast_16 (by decide) ?_
  refine xw_iload_n dX8_meetsEast_18 rfl ?_
  refine xw_iaddN (a := 10) dX8_meetsEast_19 ?_
  refine xw_ialN _ dX8_meetsEast_20 rfl (rfl) (hX _ (by omega)) rfl ?_ ?_
  · omega
  refine xw_iload_n dX8_meetsEast_21 rfl ?_
  refine xw_aload_n dX8_meetsEast_22 rfl ?_
  refine xw_getR dX8_meetsEast_23 fl_X8_22 rfl rfl ?_
  refine xw_bipush (v := 22) dX8_meetsEast_26 (by decide) ?_
  refine xw_iload_n dX8_meetsEast_28 rfl ?_
  refine xw_iaddN (a := 22) dX8_meetsEast_29 ?_
  refine xw_ialN _ dX8_meetsEast_30 rfl (rfl) (hW _ (by omega)) rfl ?_ ?_
  · omega
  refine xw_iaddN dX8_meetsEast_31 ?_
  refine xw_icmp_geN (tgt := 62) dX8_meetsEast_32 (by decide) (by omega) (fun c32 => ?_) (fun c32 => ?_)
  · refine xw_iconst (v := 0) dX8_meetsEast_62 (by decide) ?_
    refine xw_istore dX8_meetsEast_63 rfl rfl ?_
    refine xw_iload dX8_meetsEast_65 rfl ?_
    refine xw_if_eq (tgt := 136) dX8_meetsEast_67 (by decide) (fun _ => ?_) (fun q9 => absurd q9 (by decide))
    refine xw_iconst (v := 0) dX8_meetsEast_136 (by decide) ?_
    refine xw_iretz dX8_meetsEast_137 rfl (Or.inl rfl) (Or.inr ⟨?_, rfl, rfl⟩)
    unfold meetH
    omega
  · refine xw_iload_n dX8_meetsEast_35 rfl ?_
    refine xw_aload_n dX8_meetsEast_36 rfl ?_
    refine xw_getR dX8_meetsEast_37 fl_X8_22 rfl rfl ?_
    refine xw_bipush (v := 10) dX8_meetsEast_40 (by decide) ?_
    refine xw_iload_n dX8_meetsEast_42 rfl ?_
    refine xw_iaddN (a := 10) dX8_meetsEast_43 ?_
    refine xw_ialN _ dX8_meetsEast_44 rfl (rfl) (hX _ (by omega)) rfl ?_ ?_
    · omega
    refine xw_aload_n dX8_meetsEast_45 rfl ?_
    refine xw_getR dX8_meetsEast_46 fl_X8_22 rfl rfl ?_
    refine xw_bipush (v := 22) dX8_meetsEast_49 (by decide) ?_
    refine xw_iload_n dX8_meetsEast_51 rfl ?_
    refine xw_iaddN (a := 22) dX8_meetsEast_52 ?_
    refine xw_ialN _ dX8_meetsEast_53 rfl (rfl) (hW _ (by omega)) rfl ?_ ?_
    · omega
    refine xw_iaddN dX8_meetsEast_54 ?_
    refine xw_icmp_geN (tgt := 62) dX8_meetsEast_55 (by decide) (by omega) (fun c55 => ?_) (fun c55 => ?_)
    · refine xw_iconst (v := 0) dX8_meetsEast_62 (by decide) ?_
      refine xw_istore dX8_meetsEast_63 rfl rfl ?_
      refine xw_iload dX8_meetsEast_65 rfl ?_
      refine xw_if_eq (tgt := 136) dX8_meetsEast_67 (by decide) (fun _ => ?_) (fun q9 => absurd q9 (by decide))
      refine xw_iconst (v := 0) dX8_meetsEast_136 (by decide) ?_
      refine xw_iretz dX8_meetsEast_137 rfl (Or.inl rfl) (Or.inr ⟨?_, rfl, rfl⟩)
      unfold meetH
      omega
    · refine xw_iconst (v := 1) dX8_meetsEast_58 (by decide) ?_
      refine xw_goto (tgt := 63) dX8_meetsEast_59 (by decide) ?_
      refine xw_istore dX8_meetsEast_63 rfl rfl ?_
      refine xw_iload dX8_meetsEast_65 rfl ?_
      refine xw_if_eq (tgt := 136) dX8_meetsEast_67 (by decide) (fun q9 => absurd q9 (by decide)) (fun _ => ?_)
      refine xw_aload_n dX8_meetsEast_70 rfl ?_
      refine xw_getR dX8_meetsEast_71 fl_X8_22 rfl rfl ?_
      refine xw_bipush (v := 16) dX8_meetsEast_74 (by decide) ?_
      refine xw_iload_n dX8_meetsEast_76 rfl ?_
      refine xw_iaddN (a := 16) dX8_meetsEast_77 ?_
      refine xw_ialN _ dX8_meetsEast_78 rfl (rfl) (hY _ (by omega)) rfl ?_ ?_
      · omega
      refine xw_aload_n dX8_meetsEast_79 rfl ?_
      refine xw_getR dX8_meetsEast_80 fl_X8_22 rfl rfl ?_
      refine xw_bipush (v := 16) dX8_meetsEast_83 (by decide) ?_
      refine xw_iload_n dX8_meetsEast_85 rfl ?_
      refine xw_iaddN (a := 16) dX8_meetsEast_86 ?_
      refine xw_ialN _ dX8_meetsEast_87 rfl (rfl) (hY _ (by omega)) rfl ?_ ?_
      · omega
      refine xw_aload_n dX8_meetsEast_88 rfl ?_
      refine xw_getR dX8_meetsEast_89 fl_X8_22 rfl rfl ?_
      refine xw_bipush (v := 28) dX8_meetsEast_92 (by decide) ?_
      refine xw_iload_n dX8_meetsEast_94 rfl ?_
      refine xw_iaddN (a := 28) dX8_meetsEast_95 ?_
      refine xw_ialN _ dX8_meetsEast_96 rfl (rfl) (hH _ (by omega)) rfl ?_ ?_
      · omega
      refine xw_iaddN dX8_meetsEast_97 ?_
      refine xw_icmp_geN (tgt := 136) dX8_meetsEast_98 (by decide) (by omega) (fun c98 => ?_) (fun c98 => ?_)
      · refine xw_iconst (v := 0) dX8_meetsEast_136 (by decide) ?_
        refine xw_iretz dX8_meetsEast_137 rfl (Or.inl rfl) (Or.inr ⟨?_, rfl, rfl⟩)
        unfold meetH
        omega
      · refine xw_aload_n dX8_meetsEast_101 rfl ?_
        refine xw_getR dX8_meetsEast_102 fl_X8_22 rfl rfl ?_
        refine xw_bipush (v := 16) dX8_meetsEast_105 (by decide) ?_
        refine xw_iload_n dX8_meetsEast_107 rfl ?_
        refine xw_iaddN (a := 16) dX8_meetsEast_108 ?_
        refine xw_ialN _ dX8_meetsEast_109 rfl (rfl) (hY _ (by omega)) rfl ?_ ?_
        · omega
        refine xw_aload_n dX8_meetsEast_110 rfl ?_
        refine xw_getR dX8_meetsEast_111 fl_X8_22 rfl rfl ?_
        refine xw_bipush (v := 16) dX8_meetsEast_114 (by decide) ?_
        refine xw_iload_n dX8_meetsEast_116 rfl ?_
        refine xw_iaddN (a := 16) dX8_meetsEast_117 ?_
        refine xw_ialN _ dX8_meetsEast_118 rfl (rfl) (hY _ (by omega)) rfl ?_ ?_
        · omega
        refine xw_aload_n dX8_meetsEast_119 rfl ?_
        refine xw_getR dX8_meetsEast_120 fl_X8_22 rfl rfl ?_
        refine xw_bipush (v := 28) dX8_meetsEast_123 (by decide) ?_
        refine xw_iload_n dX8_meetsEast_125 rfl ?_
        refine xw_iaddN (a := 28) dX8_meetsEast_126 ?_
        refine xw_ialN _ dX8_meetsEast_127 rfl (rfl) (hH _ (by omega)) rfl ?_ ?_
        · omega
        refine xw_iaddN dX8_meetsEast_128 ?_
        refine xw_icmp_geN (tgt := 136) dX8_meetsEast_129 (by decide) (by omega) (fun c129 => ?_) (fun c129 => ?_)
        · refine xw_iconst (v := 0) dX8_meetsEast_136 (by decide) ?_
          refine xw_iretz dX8_meetsEast_137 rfl (Or.inl rfl) (Or.inr ⟨?_, rfl, rfl⟩)
          unfold meetH
          omega
        · refine xw_iconst (v := 1) dX8_meetsEast_132 (by decide) ?_
          refine xw_goto (tgt := 137) dX8_meetsEast_133 (by decide) ?_
          refine xw_iretz dX8_meetsEast_137 rfl (Or.inr rfl) (Or.inl ⟨?_, rfl, rfl⟩)
          unfold meetH
          omega
set_option maxRecDepth 20000 in
theorem s_X8_isDrowned {D : FD} {P : Nat} (hC : FMS M 54 D) (hX : XMP M 54 P) {h : Nat} (hh : h < dn D) : XC g l mX8_isDrowned d [xr 49, xi (nI h)] M (XB (drowned D P h) M M) := by
  have hC0 := hC
  obtain ⟨hn6, ⟨hT, hT2⟩, ⟨hB, hB2⟩, hN, hcl, hK, hY, hW, hH, hG⟩ := hC
  have h1 := hG h hh
  have h3 := px_lt P h
  show XW g l mX8_isDrowned _ 0 [some (xr 49), some (xi (nI h))] [] M _
  refine xw_aload_n dX8_isDrowned_0 rfl ?_
  refine xw_getR dX8_isDrowned_1 fl_X8_22 rfl rfl ?_
  refine xw_bipush (v := 10) dX8_isDrowned_4 (by decide) ?_
  refine xw_iload_n dX8_isDrowned_6 rfl ?_
  refine xw_iaddN (a := 10) dX8_isDrowned_7 ?_
  refine xw_ialN _ dX8_isDrowned_8 rfl (rfl) (hX _ (by omega)) rfl ?_ ?_
  · omega
  refine xw_aload_n dX8_isDrowned_9 rfl ?_
  refine xw_getR dX8_isDrowned_10 fl_X8_22 rfl rfl ?_
  refine xw_bipush (v := 22) dX8_isDrowned_13 (by decide) ?_
  refine xw_iload_n dX8_isDrowned_15 rfl ?_
  refine xw_iaddN (a := 22) dX8_isDrowned_16 ?_
  refine xw_ialN _ dX8_isDrowned_17 rfl (rfl) (hW _ (by omega)) rfl ?_ ?_
  · omega
  refine xw_iaddN dX8_isDrowned_18 ?_
  refine xw_aload_n dX8_isDrowned_19 rfl ?_
  refine xw_getR dX8_isDrowned_20 fl_X8_22 rfl rfl ?_
  refine xw_iconst (v := 2) dX8_isDrowned_23 (by decide) ?_
  refine xw_ialN 2 dX8_isDrowned_24 rfl (rfl) (hB) rfl ?_ ?_
  · omega
  refine xw_icmp_leN (tgt := 32) dX8_isDrowned_25 (by decide) (by omega) (fun c25 => ?_) (fun c25 => ?_)
  · refine xw_iconst (v := 0) dX8_isDrowned_32 (by decide) ?_
    refine xw_iretz dX8_isDrowned_33 rfl (Or.inl rfl) (Or.inr ⟨?_, rfl, rfl⟩)
    unfold drowned
    omega
  · refine xw_iconst (v := 1) dX8_isDrowned_28 (by decide) ?_
    refine xw_goto (tgt := 33) dX8_isDrowned_29 (by decide) ?_
    refine xw_iretz dX8_isDrowned_33 rfl (Or.inr rfl) (Or.inl ⟨?_, rfl, rfl⟩)
    unfold drowned
    omega
set_option maxRecDepth 20000 in
theorem lp_X8_isStopped {D : FD} {P : Nat} (hC : FMS M 54 D) (hX : XMP M 54 P) {h : Nat} (hh : h < dn D) (he : px P h + dW D h < 16) : ∀ (q k : Nat) (v : Int32), k + q = dY D h + dH D h → dY D h ≤ k → ((v = 0 ∧ ∀ y, dY D h ≤ y → y < k → ¬ wallAt D (px P h + dW D h) y) ∨ (v = 1 ∧ ∃ y, dY D h ≤ y ∧ y < k ∧ wallAt D (px P h + dW D h) y)) → XW g l mX8_isStopped (d + 1) 41 [some (xr 49), some (xi (nI h)), some (xi (nI (px P h + dW D h))), some (xi v), some (xi (nI k))] [] M (XB (stopH D P h) M M) := by
  have hC0 := hC
  obtain ⟨hn6, ⟨hT, hT2⟩, ⟨hB, hB2⟩, hN, hcl, hK, hY, hW, hH, hG⟩ := hC
  have hg := hG h hh
  intro q
  induction q with
  | zero =>
    intro k v hk hk2 h0
    refine xw_iload dX8_isStopped_41 rfl ?_
    refine xw_aload_n dX8_isStopped_43 rfl ?_
    refine xw_getR dX8_isStopped_44 fl_X8_22 rfl rfl ?_
    refine xw_bipush (v := 16) dX8_isStopped_47 (by decide) ?_
    refine xw_iload_n dX8_isStopped_49 rfl ?_
    refine xw_iaddN (a := 16) dX8_isStopped_50 ?_
    refine xw_ialN _ dX8_isStopped_51 rfl (rfl) (hY _ (by omega)) rfl ?_ ?_
    · omega
    refine xw_aload_n dX8_isStopped_52 rfl ?_
    refine xw_getR dX8_isStopped_53 fl_X8_22 rfl rfl ?_
    refine xw_bipush (v := 28) dX8_isStopped_56 (by decide) ?_
    refine xw_iload_n dX8_isStopped_58 rfl ?_
    refine xw_iaddN (a := 28) dX8_isStopped_59 ?_
    refine xw_ialN _ dX8_isStopped_60 rfl (rfl) (hH _ (by omega)) rfl ?_ ?_
    · omega
    refine xw_iaddN dX8_isStopped_61 ?_
    refine xw_icmp_geN (tgt := 94) dX8_isStopped_62 (by decide) (by omega) (fun c62 => ?_) (fun c62 => ?_)
    · refine xw_iload_n dX8_isStopped_94 rfl ?_
      refine xw_iretz dX8_isStopped_95 rfl ?_ ?_
      · rcases h0 with z | z
        · exact Or.inl z.1
        · exact Or.inr z.1
      · rcases h0 with ⟨rfl, z⟩ | ⟨rfl, y, z1, z2, z3⟩
        · refine Or.inr ⟨?_, rfl, rfl⟩
          rintro (w | ⟨y, h1, h2, h3⟩)
          · omega
          · exact z y h1 (by omega) h3
        · exact Or.inl ⟨Or.inr ⟨y, z1, by omega, z3⟩, rfl, rfl⟩
    · exfalso; omega
  | succ q ih =>
    intro k v hk hk2 h0
    rcases h0 with ⟨rfl, h0⟩ | ⟨rfl, h0⟩
    · refine xw_iload dX8_isStopped_41 rfl ?_
      refine xw_aload_n dX8_isStopped_43 rfl ?_
      refine xw_getR dX8_isStopped_44 fl_X8_22 rfl rfl ?_
      refine xw_bipush (v := 16) dX8_isStopped_47 (by decide) ?_
      refine xw_iload_n dX8_isStopped_49 rfl ?_
      refine xw_iaddN (a := 16) dX8_isStopped_50 ?_
      refine xw_ialN _ dX8_isStopped_51 rfl (rfl) (hY _ (by omega)) rfl ?_ ?_
      · omega
      refine xw_aload_n dX8_isStopped_52 rfl ?_
      refine xw_getR dX8_isStopped_53 fl_X8_22 rfl rfl ?_
      refine xw_bipush (v := 28) dX8_isStopped_56 (by decide) ?_
      refine xw_iload_n dX8_isStopped_58 rfl ?_
      refine xw_iaddN (a := 28) dX8_isStopped_59 ?_
      refine xw_ialN _ dX8_isStopped_60 rfl (rfl) (hH _ (by omega)) rfl ?_ ?_
      · omega
      refine xw_iaddN dX8_isStopped_61 ?_
      refine xw_icmp_geN (tgt := 94) dX8_isStopped_62 (by decide) (by omega) (fun c62 => ?_) (fun c62 => ?_)
      · exfalso; omega
      · refine xw_iload_n dX8_isStopped_65 rfl ?_
        refine xw_if_ne (tgt := 82) dX8_isStopped_66 (by decide) (fun q9 => absurd q9 (by decide)) (fun _ => ?_)
        refine xw_aload_n dX8_isStopped_69 rfl ?_
        refine xw_getR dX8_isStopped_70 fl_X8_22 rfl rfl ?_
        refine xw_iload_n dX8_isStopped_73 rfl ?_
        refine xw_iload dX8_isStopped_74 rfl ?_
        refine xw_cS3B dX8_isStopped_76 okX8_isWallAt ml_X8_144 rfl rfl (s_X8_isWallAt rfl hC0 (by omega) (by omega)) (fun p76 => ?_) (fun p76 => ?_)
        · refine xw_if_eq (tgt := 86) dX8_isStopped_79 (by decide) (fun q9 => absurd q9 (by decide)) (fun _ => ?_)
          refine xw_iconst (v := 1) dX8_isStopped_82 (by decide) ?_
          refine xw_goto (tgt := 87) dX8_isStopped_83 (by decide) ?_
          refine xw_istore_n dX8_isStopped_87 rfl rfl ?_
          refine xw_iincN (v := 1) dX8_isStopped_88 (by decide) rfl rfl rfl ?_
          refine xw_goto (tgt := 41) dX8_isStopped_91 (by decide) ?_
          exact ih (k + 1) 1 (by omega) (by omega) (Or.inr ⟨rfl, k, hk2, by omega, p76⟩)
        · refine xw_if_eq (tgt := 86) dX8_isStopped_79 (by decide) (fun _ => ?_) (fun q9 => absurd q9 (by decide))
          refine xw_iconst (v := 0) dX8_isStopped_86 (by decide) ?_
          refine xw_istore_n dX8_isStopped_87 rfl rfl ?_
          refine xw_iincN (v := 1) dX8_isStopped_88 (by decide) rfl rfl rfl ?_
          refine xw_goto (tgt := 41) dX8_isStopped_91 (by decide) ?_
          refine ih (k + 1) 0 (by omega) (by omega) (Or.inl ⟨rfl, fun y h1 h2 => ?_⟩)
          rcases Nat.lt_or_ge y k with z | z
          · exact h0 y h1 z
          · have z : y = k := by omega
            subst z
            exact p76
    · refine xw_iload dX8_isStopped_41 rfl ?_
      refine xw_aload_n dX8_isStopped_43 rfl ?_
      refine xw_getR dX8_isStopped_44 fl_X8_22 rfl rfl ?_
      refine xw_bipush (v := 16) dX8_isStopped_47 (by decide) ?_
      refine xw_iload_n dX8_isStopped_49 rfl ?_
      refine xw_iaddN (a := 16) dX8_isStopped_50 ?_
      refine xw_ialN _ dX8_isStopped_51 rfl (rfl) (hY _ (by omega)) rfl ?_ ?_
      · omega
      refine xw_aload_n dX8_isStopped_52 rfl ?_
      refine xw_getR dX8_isStopped_53 fl_X8_22 rfl rfl ?_
      refine xw_bipush (v := 28) dX8_isStopped_56 (by decide) ?_
      refine xw_iload_n dX8_isStopped_58 rfl ?_
      refine xw_iaddN (a := 28) dX8_isStopped_59 ?_
      refine xw_ialN _ dX8_isStopped_60 rfl (rfl) (hH _ (by omega)) rfl ?_ ?_
      · omega
      refine xw_iaddN dX8_isStopped_61 ?_
      refine xw_icmp_geN (tgt := 94) dX8_isStopped_62 (by decide) (by omega) (fun c62 => ?_) (fun c62 => ?_)
      · exfalso; omega
      · refine xw_iload_n dX8_isStopped_65 rfl ?_
        refine xw_if_ne (tgt := 82) dX8_isStopped_66 (by decide) (fun _ => ?_) (fun q9 => absurd q9 (by decide))
        refine xw_iconst (v := 1) dX8_isStopped_82 (by decide) ?_
        refine xw_goto (tgt := 87) dX8_isStopped_83 (by decide) ?_
        refine xw_istore_n dX8_isStopped_87 rfl rfl ?_
        refine xw_iincN (v := 1) dX8_isStopped_88 (by decide) rfl rfl rfl ?_
        refine xw_goto (tgt := 41) dX8_isStopped_91 (by decide) ?_
        obtain ⟨y, z1, z2, z3⟩ := h0
        exact ih (k + 1) 1 (by omega) (by omega) (Or.inr ⟨rfl, y, z1, by omega, z3⟩)
set_option maxRecDepth 20000 in
theorem s_X8_isStopped {D : FD} {P : Nat} (hC : FMS M 54 D) (hX : XMP M 54 P) {h : Nat} (hh : h < dn D) : XC g l mX8_isStopped (d + 1) [xr 49, xi (nI h)] M (XB (stopH D P h) M M) := by
  have hC0 := hC
  obtain ⟨hn6, ⟨hT, hT2⟩, ⟨hB, hB2⟩, hN, hcl, hK, hY, hW, hH, hG⟩ := hC
  have hg := hG h hh
  have hx := px_lt P h
  show XW g l mX8_isStopped _ 0 [some (xr 49), some (xi (nI h)), none, none, none] [] M _
  refine xw_aload_n dX8_isStopped_0 rfl ?_
  refine xw_getR dX8_isStopped_1 fl_X8_22 rfl rfl ?_
  refine xw_bipush (v := 10) dX8_isStopped_4 (by decide) ?_
  refine xw_iload_n dX8_isStopped_6 rfl ?_
  refine xw_iaddN (a := 10) dX8_isStopped_7 ?_
  refine xw_ialN _ dX8_isStopped_8 rfl (rfl) (hX _ (by omega)) rfl ?_ ?_
  · omega
  refine xw_aload_n dX8_isStopped_9 rfl ?_
  refine xw_getR dX8_isStopped_10 fl_X8_22 rfl rfl ?_
  refine xw_bipush (v := 22) dX8_isStopped_13 (by decide) ?_
  refine xw_iload_n dX8_isStopped_15 rfl ?_
  refine xw_iaddN (a := 22) dX8_isStopped_16 ?_
  refine xw_ialN _ dX8_isStopped_17 rfl (rfl) (hW _ (by omega)) rfl ?_ ?_
  · omega
  refine xw_iaddN dX8_isStopped_18 ?_
  refine xw_istore_n dX8_isStopped_19 rfl rfl ?_
  refine xw_iload_n dX8_isStopped_20 rfl ?_
  refine xw_bipush (v := 15) dX8_isStopped_21 (by decide) ?_
  refine xw_icmp_leN (b := 15) (tgt := 28) dX8_isStopped_23 (by decide) (by omega) (fun c23 => ?_) (fun c23 => ?_)
  · refine xw_iconst (v := 0) dX8_isStopped_28 (by decide) ?_
    refine xw_istore_n dX8_isStopped_29 rfl rfl ?_
    refine xw_aload_n dX8_isStopped_30 rfl ?_
    refine xw_getR dX8_isStopped_31 fl_X8_22 rfl rfl ?_
    refine xw_bipush (v := 16) dX8_isStopped_34 (by decide) ?_
    refine xw_iload_n dX8_isStopped_36 rfl ?_
    refine xw_iaddN (a := 16) dX8_isStopped_37 ?_
    refine xw_ialN _ dX8_isStopped_38 rfl (rfl) (hY _ (by omega)) rfl ?_ ?_
    · omega
    refine xw_istore dX8_isStopped_39 rfl rfl ?_
    exact lp_X8_isStopped hC0 hX hh (by omega) (dH D h) (dY D h) 0 rfl (Nat.le_refl _) (Or.inl ⟨rfl, fun y h1 h2 => absurd h2 (by omega)⟩)
  · refine xw_iconst (v := 1) dX8_isStopped_26 (by decide) ?_
    refine xw_iretz dX8_isStopped_27 rfl (Or.inr rfl) (Or.inl ⟨?_, rfl, rfl⟩)
    exact Or.inl (by omega)
def mvK (M : XM) (s k : Nat) : XM := xum M 54 (fun i => if 10 ≤ i ∧ i < 10 + k then M.1 54 i + (if s.testBit (i - 10) = true then 1 else 0) else M.1 54 i)
theorem mvK_succ (M : XM) (s k : Nat) : xup (mvK M s k) 54 (10 + k) (M.1 54 (10 + k) + (if s.testBit k = true then 1 else 0)) = mvK M s (k + 1) := by
  refine xm_ext (fun a b => ?_) (fun _ _ => rfl)
  unfold mvK
  rw [xup_at, xum_at, xum_at]
  by_cases e : a = 54
  · subst e
    by_cases q : b = 10 + k
    · subst q
      rw [if_pos ⟨rfl, rfl⟩, if_pos rfl, if_pos (show 10 ≤ 10 + k ∧ 10 + k < 10 + (k + 1) by omega), show 10 + k - 10 = k by omega]
    · rw [if_neg (fun z => q z.2), if_pos rfl, if_pos rfl]
      by_cases w : 10 ≤ b ∧ b < 10 + k
      · rw [if_pos w, if_pos (show 10 ≤ b ∧ b < 10 + (k + 1) by omega)]
      · rw [if_neg w, if_neg (by omega)]
  · rw [if_neg (fun z => e z.1), if_neg e, if_neg e]
theorem mvK_at {M : XM} {s k a b : Nat} (h : b < 10 ∨ 10 + k ≤ b) : (mvK M s k).1 a b = M.1 a b := by
  unfold mvK
  rw [xum_at]
  split
  · rename_i e; subst e; rw [if_neg (by omega)]
  · rfl
set_option maxRecDepth 20000 in
theorem lpC_X8_slide {D : FD} {P : Nat} (hC : FMS M 54 D) (hX : XMP M 54 P) {h s : Nat} {v4 v5 : Option XV} (hs : s < 64) : ∀ (q k : Nat), k + q = dn D → XW g l mX8_slide (d + 2) 136 [some (xr 49), some (xi (nI h)), some (xi (nI s)), some (xi (nI k)), v4, v5] [] (mvK M s k) (XE (some (xi (nI s))) (mvX M s (dn D))) := by
  have hC0 := hC
  obtain ⟨hn6, ⟨hT, hT2⟩, ⟨hB, hB2⟩, hN, hcl, hK, hY, hW, hH, hG⟩ := hC
  intro q
  induction q with
  | zero =>
    intro k hk
    have hk : k = dn D := by omega
    subst hk
    have hN2 : (mvK M s (dn D)).1 54 3 = nI (dn D) := by rw [mvK_at (by omega)]; exact hN
    refine xw_iload_n dX8_slide_136 rfl ?_
    refine xw_aload_n dX8_slide_137 rfl ?_
    refine xw_getR dX8_slide_138 fl_X8_22 rfl rfl ?_
    refine xw_iconst (v := 3) dX8_slide_141 (by decide) ?_
    refine xw_ialN 3 dX8_slide_142 rfl (rfl) (hN2) rfl ?_ ?_
    · omega
    refine xw_icmp_geN (tgt := 177) dX8_slide_143 (by decide) (by omega) (fun c143 => ?_) (fun c143 => ?_)
    · refine xw_iload_n dX8_slide_177 rfl ?_
      refine xw_ireti dX8_slide_178 rfl ?_
      first | exact ⟨rfl, rfl⟩ | exact ⟨by simp_all, rfl⟩ | grind [XE]
    · exfalso; omega
  | succ q ih =>
    intro k hk
    have ih2 := ih (k + 1) (by omega)
    rw [← mvK_succ] at ih2
    have hN2 : (mvK M s k).1 54 3 = nI (dn D) := by rw [mvK_at (by omega)]; exact hN
    have hX2 : (mvK M s k).1 54 (10 + k) = nI (px P k) := by rw [mvK_at (by omega)]; exact hX k (by omega)
    rw [hX k (by omega)] at ih2
    refine xw_iload_n dX8_slide_136 rfl ?_
    refine xw_aload_n dX8_slide_137 rfl ?_
    refine xw_getR dX8_slide_138 fl_X8_22 rfl rfl ?_
    refine xw_iconst (v := 3) dX8_slide_141 (by decide) ?_
    refine xw_ialN 3 dX8_slide_142 rfl (rfl) (hN2) rfl ?_ ?_
    · omega
    refine xw_icmp_geN (tgt := 177) dX8_slide_143 (by decide) (by omega) (fun c143 => ?_) (fun c143 => ?_)
    · exfalso; omega
    · refine xw_aload_n dX8_slide_146 rfl ?_
      refine xw_getR dX8_slide_147 fl_X8_22 rfl rfl ?_
      refine xw_bipush (v := 10) dX8_slide_150 (by decide) ?_
      refine xw_iload_n dX8_slide_152 rfl ?_
      refine xw_iaddN (a := 10) dX8_slide_153 ?_
      refine xw_dup2 dX8_slide_154 rfl rfl ?_
      refine xw_ialN _ dX8_slide_155 rfl (rfl) (hX2) rfl ?_ ?_
      · omega
      refine xw_iload_n dX8_slide_156 rfl ?_
      refine xw_iload_n dX8_slide_157 rfl ?_
      refine xw_cS2B dX8_slide_158 okX8_has ml_X8_184 rfl rfl (s_X8_has (by omega) (by omega)) (fun p158 => ?_) (fun p158 => ?_)
      · rw [if_pos p158] at ih2
        refine xw_if_eq (tgt := 168) dX8_slide_161 (by decide) (fun q9 => absurd q9 (by decide)) (fun _ => ?_)
        refine xw_iconst (v := 1) dX8_slide_164 (by decide) ?_
        refine xw_goto (tgt := 169) dX8_slide_165 (by decide) ?_
        refine xw_iadd dX8_slide_169 ?_
        refine xw_iasN _ dX8_slide_170 rfl (rfl) rfl ?_ ?_
        · omega
        refine xw_iincN (v := 1) dX8_slide_171 (by decide) rfl rfl rfl ?_
        refine xw_goto (tgt := 136) dX8_slide_174 (by decide) ?_
        exact ih2
      · rw [if_neg p158] at ih2
        refine xw_if_eq (tgt := 168) dX8_slide_161 (by decide) (fun _ => ?_) (fun q9 => absurd q9 (by decide))
        refine xw_iconst (v := 0) dX8_slide_168 (by decide) ?_
        refine xw_iadd dX8_slide_169 ?_
        refine xw_iasN _ dX8_slide_170 rfl (rfl) rfl ?_ ?_
        · omega
        refine xw_iincN (v := 1) dX8_slide_171 (by decide) rfl rfl rfl ?_
        refine xw_goto (tgt := 136) dX8_slide_174 (by decide) ?_
        exact ih2
set_option maxRecDepth 20000 in
theorem lpB_X8_slide {D : FD} {P : Nat} (hC : FMS M 54 D) (hX : XMP M 54 P) {h s : Nat} {v4 v5 : Option XV} (hh : h < dn D) (hK : Ksl D P h s) (hA : ∀ i, Rch D P h i → s.testBit i = true) : ∀ (q k : Nat), k + q = dn D → (∀ i, i < k → s.testBit i = true → ¬ stopH D P i) → XW g l mX8_slide (d + 2) 100 [some (xr 49), some (xi (nI h)), some (xi (nI s)), some (xi (nI k)), v4, v5] [] M (XE (some (xi (nI (slV D P h)))) (mvX M (slV D P h) (dn D))) := by
  have hC0 := hC
  obtain ⟨hn6, ⟨hT, hT2⟩, ⟨hB, hB2⟩, hN, hcl, hKd, hY, hW, hH, hG⟩ := hC
  have hlt := hK.lt hn6
  intro q
  induction q with
  | zero =>
    intro k hk h0
    have e9 : slV D P h = s := by
      rw [slV_go (fun z => by obtain ⟨a, z1, z2, z3⟩ := z; exact h0 a (by omega) (hA a z2) z3)]
      exact (hK.all hA).symm
    rw [e9]
    refine xw_iload_n dX8_slide_100 rfl ?_
    refine xw_aload_n dX8_slide_101 rfl ?_
    refine xw_getR dX8_slide_102 fl_X8_22 rfl rfl ?_
    refine xw_iconst (v := 3) dX8_slide_105 (by decide) ?_
    refine xw_ialN 3 dX8_slide_106 rfl (rfl) (hN) rfl ?_ ?_
    · omega
    refine xw_icmp_geN (tgt := 134) dX8_slide_107 (by decide) (by omega) (fun c107 => ?_) (fun c107 => ?_)
    · refine xw_iconst (v := 0) dX8_slide_134 (by decide) ?_
      refine xw_istore_n dX8_slide_135 rfl rfl ?_
      have e8 := lpC_X8_slide (g := g) (l := l) (d := d) (h := h) (v4 := v4) (v5 := v5) hC0 hX hlt (dn D) 0 (by omega)
      rwa [show mvK M s 0 = M from xm_ext (fun a b => mvK_at (by omega)) (fun _ _ => rfl)] at e8
    · exfalso; omega
  | succ q ih =>
    intro k hk h0
    refine xw_iload_n dX8_slide_100 rfl ?_
    refine xw_aload_n dX8_slide_101 rfl ?_
    refine xw_getR dX8_slide_102 fl_X8_22 rfl rfl ?_
    refine xw_iconst (v := 3) dX8_slide_105 (by decide) ?_
    refine xw_ialN 3 dX8_slide_106 rfl (rfl) (hN) rfl ?_ ?_
    · omega
    refine xw_icmp_geN (tgt := 134) dX8_slide_107 (by decide) (by omega) (fun c107 => ?_) (fun c107 => ?_)
    · exfalso; omega
    · refine xw_iload_n dX8_slide_110 rfl ?_
      refine xw_iload_n dX8_slide_111 rfl ?_
      refine xw_cS2B dX8_slide_112 okX8_has ml_X8_184 rfl rfl (s_X8_has (by omega) (by omega)) (fun p112 => ?_) (fun p112 => ?_)
      · refine xw_if_eq (tgt := 128) dX8_slide_115 (by decide) (fun q9 => absurd q9 (by decide)) (fun _ => ?_)
        refine xw_aload_n dX8_slide_118 rfl ?_
        refine xw_iload_n dX8_slide_119 rfl ?_
        refine xw_cV1B dX8_slide_120 okX8_isStopped ml_X8_190 rfl rfl rfl rfl (s_X8_isStopped hC0 hX (by omega)) (fun p120 => ?_) (fun p120 => ?_)
        · refine xw_if_eq (tgt := 128) dX8_slide_123 (by decide) (fun q9 => absurd q9 (by decide)) (fun _ => ?_)
          refine xw_iconst (v := 0) dX8_slide_126 (by decide) ?_
          refine xw_ireti dX8_slide_127 rfl ?_
          have e9 : isStp D P h := ⟨k, by omega, (hK.1 k p112).2, p120⟩
          exact ⟨by rw [slV_stop e9]; rfl, by rw [slV_stop e9, mvX_0]⟩
        · refine xw_if_eq (tgt := 128) dX8_slide_123 (by decide) (fun _ => ?_) (fun q9 => absurd q9 (by decide))
          refine xw_iincN (v := 1) dX8_slide_128 (by decide) rfl rfl rfl ?_
          refine xw_goto (tgt := 100) dX8_slide_131 (by decide) ?_
          refine ih (k + 1) (by omega) (fun i hi hb => ?_)
          rcases Nat.lt_or_ge i k with z | z
          · exact h0 i z hb
          · have z : i = k := by omega
            subst z
            first | exact p120 | exact absurd hb p112
      · refine xw_if_eq (tgt := 128) dX8_slide_115 (by decide) (fun _ => ?_) (fun q9 => absurd q9 (by decide))
        refine xw_iincN (v := 1) dX8_slide_128 (by decide) rfl rfl rfl ?_
        refine xw_goto (tgt := 100) dX8_slide_131 (by decide) ?_
        refine ih (k + 1) (by omega) (fun i hi hb => ?_)
        rcases Nat.lt_or_ge i k with z | z
        · exact h0 i z hb
        · have z : i = k := by omega
          subst z
          first | exact p120 | exact absurd hb p112
set_option maxRecDepth 20000 in
theorem lpb_X8_slide {D : FD} {P : Nat} (hC : FMS M 54 D) (hX : XMP M 54 P) {h r a s1 : Nat} (hg : GW D P) (hh : h < dn D) (ha : a < dn D) (hr : r < 6)
    (hk : ∀ s, Ksl D P h s → (∀ i, s1.testBit i = true → s.testBit i = true) → (∀ b, b < dn D → s1.testBit a = true → meetH D P a b → s.testBit b = true) → XW g l mX8_slide (d + 2) 15 [some (xr 49), some (xi (nI h)), some (xi (nI s)), some (xi (nI r)), some (xi (nI (a + 1))), some (xi (nI (dn D)))] [] M (XE (some (xi (nI (slV D P h)))) (mvX M (slV D P h) (dn D)))) : ∀ (q b s : Nat), b + q = dn D → Ksl D P h s → (∀ i, s1.testBit i = true → s.testBit i = true) → (∀ b2, b2 < b → s1.testBit a = true → meetH D P a b2 → s.testBit b2 = true) → XW g l mX8_slide (d + 2) 29 [some (xr 49), some (xi (nI h)), some (xi (nI s)), some (xi (nI r)), some (xi (nI a)), some (xi (nI b))] [] M (XE (some (xi (nI (slV D P h)))) (mvX M (slV D P h) (dn D))) := by
  have hC0 := hC
  obtain ⟨hn6, ⟨hT, hT2⟩, ⟨hB, hB2⟩, hN, hcl, hK, hY, hW, hH, hG⟩ := hC
  intro q
  induction q with
  | zero =>
    intro b s hb hKs h1 h2
    have hb : b = dn D := by omega
    subst hb
    refine xw_iload dX8_slide_29 rfl ?_
    refine xw_aload_n dX8_slide_31 rfl ?_
    refine xw_getR dX8_slide_32 fl_X8_22 rfl rfl ?_
    refine xw_iconst (v := 3) dX8_slide_35 (by decide) ?_
    refine xw_ialN 3 dX8_slide_36 rfl (rfl) (hN) rfl ?_ ?_
    · omega
    refine xw_icmp_geN (tgt := 86) dX8_slide_37 (by decide) (by omega) (fun c37 => ?_) (fun c37 => ?_)
    · refine xw_iincN (v := 1) dX8_slide_86 (by decide) rfl rfl rfl ?_
      refine xw_goto (tgt := 15) dX8_slide_89 (by decide) ?_
      exact hk s hKs h1 h2
    · exfalso; omega
  | succ q ih =>
    intro b s hb hKs h1 h2
    have hlt := hKs.lt hn6
    have hp2 := p2_lt (k := b) (by omega)
    have st : (s1.testBit a = true → meetH D P a b → s.testBit b = true) → ∀ b2, b2 < b + 1 → s1.testBit a = true → meetH D P a b2 → s.testBit b2 = true := fun z b2 hb2 w1 w2 => by
      rcases Nat.lt_or_ge b2 b with y | y
      · exact h2 b2 y w1 w2
      · have y : b2 = b := by omega
        subst y
        exact z w1 w2
    refine xw_iload dX8_slide_29 rfl ?_
    refine xw_aload_n dX8_slide_31 rfl ?_
    refine xw_getR dX8_slide_32 fl_X8_22 rfl rfl ?_
    refine xw_iconst (v := 3) dX8_slide_35 (by decide) ?_
    refine xw_ialN 3 dX8_slide_36 rfl (rfl) (hN) rfl ?_ ?_
    · omega
    refine xw_icmp_geN (tgt := 86) dX8_slide_37 (by decide) (by omega) (fun c37 => ?_) (fun c37 => ?_)
    · exfalso; omega
    · refine xw_iload_n dX8_slide_40 rfl ?_
      refine xw_iload_n dX8_slide_41 rfl ?_
      refine xw_iload dX8_slide_42 rfl ?_
      refine xw_cS2B dX8_slide_44 okX8_has ml_X8_184 rfl rfl (s_X8_has (by omega) (by omega)) (fun p44 => ?_) (fun p44 => ?_)
      · refine xw_if_eq (tgt := 77) dX8_slide_47 (by decide) (fun q9 => absurd q9 (by decide)) (fun _ => ?_)
        refine xw_iload_n dX8_slide_50 rfl ?_
        refine xw_iload dX8_slide_51 rfl ?_
        refine xw_cS2B dX8_slide_53 okX8_has ml_X8_184 rfl rfl (s_X8_has (by omega) (by omega)) (fun p53 => ?_) (fun p53 => ?_)
        · have e9 := st (fun _ _ => p53)
          refine xw_if_ne (tgt := 77) dX8_slide_56 (by decide) (fun _ => ?_) (fun q9 => absurd q9 (by decide))
          refine xw_iconst (v := 0) dX8_slide_77 (by decide) ?_
          refine xw_iorN (b := 0) dX8_slide_78 ?_
          refine xw_istore_n dX8_slide_79 rfl rfl ?_
          refine xw_iincN (v := 1) dX8_slide_80 (by decide) rfl rfl rfl ?_
          refine xw_goto (tgt := 29) dX8_slide_83 (by decide) ?_
          first
          | (rw [Nat.or_zero]; exact ih (b + 1) s (by omega) hKs h1 e9)
          | (refine ih (b + 1) _ (by omega) (hKs.add p44 (by omega) hpu) (fun i hi => by rw [tb_or, h1 i hi]; rfl) (fun b2 hb2 w1 w2 => ?_)
             rw [tb_or]
             rcases Nat.lt_or_ge b2 b with y | y
             · rw [h2 b2 y w1 w2]; rfl
             · rw [show b2 = b by omega]; simp)
        · refine xw_if_ne (tgt := 77) dX8_slide_56 (by decide) (fun q9 => absurd q9 (by decide)) (fun _ => ?_)
          refine xw_aload_n dX8_slide_59 rfl ?_
          refine xw_iload dX8_slide_60 rfl ?_
          refine xw_iload dX8_slide_62 rfl ?_
          refine xw_cV2B dX8_slide_64 okX8_meetsEast ml_X8_187 rfl rfl rfl rfl (s_X8_meetsEast hC0 hX (by omega) (by omega)) (fun p64 => ?_) (fun p64 => ?_)
          · have hab : a ≠ b := fun z => p53 (z ▸ p44)
            have hpu := (push_meet hg ha (by omega) hab (hG b (by omega)).2.1 (hG a ha).2.1).mpr p64
            refine xw_if_eq (tgt := 77) dX8_slide_67 (by decide) (fun q9 => absurd q9 (by decide)) (fun _ => ?_)
            refine xw_iconst (v := 1) dX8_slide_70 (by decide) ?_
            refine xw_iload dX8_slide_71 rfl ?_
            refine xw_ishlN (a := 1) dX8_slide_73 ?_ ?_ ?_
            · omega
            · omega
            refine xw_goto (tgt := 78) dX8_slide_74 (by decide) ?_
            refine xw_iorN dX8_slide_78 ?_
            refine xw_istore_n dX8_slide_79 rfl rfl ?_
            refine xw_iincN (v := 1) dX8_slide_80 (by decide) rfl rfl rfl ?_
            refine xw_goto (tgt := 29) dX8_slide_83 (by decide) ?_
            first
            | (rw [Nat.or_zero]; exact ih (b + 1) s (by omega) hKs h1 e9)
            | (refine ih (b + 1) _ (by omega) (hKs.add p44 (by omega) hpu) (fun i hi => by rw [tb_or, h1 i hi]; rfl) (fun b2 hb2 w1 w2 => ?_)
               rw [tb_or]
               rcases Nat.lt_or_ge b2 b with y | y
               · rw [h2 b2 y w1 w2]; rfl
               · rw [show b2 = b by omega]; simp)
          · have e9 := st (fun _ w => absurd w p64)
            refine xw_if_eq (tgt := 77) dX8_slide_67 (by decide) (fun _ => ?_) (fun q9 => absurd q9 (by decide))
            refine xw_iconst (v := 0) dX8_slide_77 (by decide) ?_
            refine xw_iorN (b := 0) dX8_slide_78 ?_
            refine xw_istore_n dX8_slide_79 rfl rfl ?_
            refine xw_iincN (v := 1) dX8_slide_80 (by decide) rfl rfl rfl ?_
            refine xw_goto (tgt := 29) dX8_slide_83 (by decide) ?_
            first
            | (rw [Nat.or_zero]; exact ih (b + 1) s (by omega) hKs h1 e9)
            | (refine ih (b + 1) _ (by omega) (hKs.add p44 (by omega) hpu) (fun i hi => by rw [tb_or, h1 i hi]; rfl) (fun b2 hb2 w1 w2 => ?_)
               rw [tb_or]
               rcases Nat.lt_or_ge b2 b with y | y
               · rw [h2 b2 y w1 w2]; rfl
               · rw [show b2 = b by omega]; simp)
      · have e9 := st (fun w _ => absurd (h1 a w) p44)
        refine xw_if_eq (tgt := 77) dX8_slide_47 (by decide) (fun _ => ?_) (fun q9 => absurd q9 (by decide))
        refine xw_iconst (v := 0) dX8_slide_77 (by decide) ?_
        refine xw_iorN (b := 0) dX8_slide_78 ?_
        refine xw_istore_n dX8_slide_79 rfl rfl ?_
        refine xw_iincN (v := 1) dX8_slide_80 (by decide) rfl rfl rfl ?_
        refine xw_goto (tgt := 29) dX8_slide_83 (by decide) ?_
        first
        | (rw [Nat.or_zero]; exact ih (b + 1) s (by omega) hKs h1 e9)
        | (refine ih (b + 1) _ (by omega) (hKs.add p44 (by omega) hpu) (fun i hi => by rw [tb_or, h1 i hi]; rfl) (fun b2 hb2 w1 w2 => ?_)
           rw [tb_or]
           rcases Nat.lt_or_ge b2 b with y | y
           · rw [h2 b2 y w1 w2]; rfl
           · rw [show b2 = b by omega]; simp)
set_option maxRecDepth 20000 in
theorem lpa_X8_slide {D : FD} {P : Nat} (hC : FMS M 54 D) (hX : XMP M 54 P) {h r s0 : Nat} (hg : GW D P) (hh : h < dn D) (hr : r < 6)
    (hk : ∀ s (v4 v5 : Option XV), Ksl D P h s → (∀ i, s0.testBit i = true → s.testBit i = true) → (∀ a b, a < dn D → b < dn D → s0.testBit a = true → meetH D P a b → s.testBit b = true) → XW g l mX8_slide (d + 2) 6 [some (xr 49), some (xi (nI h)), some (xi (nI s)), some (xi (nI (r + 1))), v4, v5] [] M (XE (some (xi (nI (slV D P h)))) (mvX M (slV D P h) (dn D)))) : ∀ (q a s : Nat) (v5 : Option XV), a + q = dn D → Ksl D P h s → (∀ i, s0.testBit i = true → s.testBit i = true) → (∀ a2 b, a2 < a → b < dn D → s0.testBit a2 = true → meetH D P a2 b → s.testBit b = true) → XW g l mX8_slide (d + 2) 15 [some (xr 49), some (xi (nI h)), some (xi (nI s)), some (xi (nI r)), some (xi (nI a)), v5] [] M (XE (some (xi (nI (slV D P h)))) (mvX M (slV D P h) (dn D))) := by
  have hC0 := hC
  obtain ⟨hn6, ⟨hT, hT2⟩, ⟨hB, hB2⟩, hN, hcl, hK, hY, hW, hH, hG⟩ := hC
  intro q
  induction q with
  | zero =>
    intro a s v5 ha hKs h1 h2
    have ha : a = dn D := by omega
    subst ha
    refine xw_iload dX8_slide_15 rfl ?_
    refine xw_aload_n dX8_slide_17 rfl ?_
    refine xw_getR dX8_slide_18 fl_X8_22 rfl rfl ?_
    refine xw_iconst (v := 3) dX8_slide_21 (by decide) ?_
    refine xw_ialN 3 dX8_slide_22 rfl (rfl) (hN) rfl ?_ ?_
    · omega
    refine xw_icmp_geN (tgt := 92) dX8_slide_23 (by decide) (by omega) (fun c23 => ?_) (fun c23 => ?_)
    · refine xw_iincN (v := 1) dX8_slide_92 (by decide) rfl rfl rfl ?_
      refine xw_goto (tgt := 6) dX8_slide_95 (by decide) ?_
      exact hk s _ _ hKs h1 h2
    · exfalso; omega
  | succ q ih =>
    intro a s v5 ha hKs h1 h2
    refine xw_iload dX8_slide_15 rfl ?_
    refine xw_aload_n dX8_slide_17 rfl ?_
    refine xw_getR dX8_slide_18 fl_X8_22 rfl rfl ?_
    refine xw_iconst (v := 3) dX8_slide_21 (by decide) ?_
    refine xw_ialN 3 dX8_slide_22 rfl (rfl) (hN) rfl ?_ ?_
    · omega
    refine xw_icmp_geN (tgt := 92) dX8_slide_23 (by decide) (by omega) (fun c23 => ?_) (fun c23 => ?_)
    · exfalso; omega
    · refine xw_iconst (v := 0) dX8_slide_26 (by decide) ?_
      refine xw_istore dX8_slide_27 rfl rfl ?_
      refine lpb_X8_slide hC0 hX (s1 := s) hg hh (by omega) hr (fun s2 hK2 w1 w2 => ?_) (dn D) 0 s (by omega) hKs (fun _ z => z) (fun _ z => absurd z (by omega))
      refine ih (a + 1) s2 _ (by omega) hK2 (fun i hi => w1 i (h1 i hi)) (fun a2 b ha2 hb x1 x2 => ?_)
      rcases Nat.lt_or_ge a2 a with y | y
      · exact w1 b (h2 a2 b y hb x1 x2)
      · have y : a2 = a := by omega
        subst y
        exact w2 b hb (h1 a2 x1) x2
set_option maxRecDepth 20000 in
theorem lpr_X8_slide {D : FD} {P : Nat} (hC : FMS M 54 D) (hX : XMP M 54 P) {h : Nat} (hg : GW D P) (hh : h < dn D)  : ∀ (q r s : Nat) (v4 v5 : Option XV), r + q = 6 → Ksl D P h s → (r + 1 ≤ cntB s (dn D) ∨ ∀ i, Rch D P h i → s.testBit i = true) → XW g l mX8_slide (d + 2) 6 [some (xr 49), some (xi (nI h)), some (xi (nI s)), some (xi (nI r)), v4, v5] [] M (XE (some (xi (nI (slV D P h)))) (mvX M (slV D P h) (dn D))) := by
  have hC0 := hC
  obtain ⟨hn6, ⟨hT, hT2⟩, ⟨hB, hB2⟩, hN, hcl, hK, hY, hW, hH, hG⟩ := hC
  intro q
  induction q with
  | zero =>
    intro r s v4 v5 hq hKs h1
    have h9 := cntB_le s (dn D)
    have hA : ∀ i, Rch D P h i → s.testBit i = true := by
      rcases h1 with z | z
      · omega
      · exact z
    refine xw_iload_n dX8_slide_6 rfl ?_
    refine xw_bipush (v := 6) dX8_slide_7 (by decide) ?_
    refine xw_icmp_geN (b := 6) (tgt := 98) dX8_slide_9 (by decide) (by omega) (fun c9 => ?_) (fun c9 => ?_)
    · refine xw_iconst (v := 0) dX8_slide_98 (by decide) ?_
      refine xw_istore_n dX8_slide_99 rfl rfl ?_
      exact lpB_X8_slide hC0 hX hh hKs hA (dn D) 0 (by omega) (fun _ z => absurd z (by omega))
    · exfalso; omega
  | succ q ih =>
    intro r s v4 v5 hq hKs h1
    refine xw_iload_n dX8_slide_6 rfl ?_
    refine xw_bipush (v := 6) dX8_slide_7 (by decide) ?_
    refine xw_icmp_geN (b := 6) (tgt := 98) dX8_slide_9 (by decide) (by omega) (fun c9 => ?_) (fun c9 => ?_)
    · exfalso; omega
    · refine xw_iconst (v := 0) dX8_slide_12 (by decide) ?_
      refine xw_istore dX8_slide_13 rfl rfl ?_
      refine lpa_X8_slide hC0 hX (s0 := s) hg hh (by omega) (fun s2 u4 u5 hK2 w1 w2 => ?_) (dn D) 0 s _ (by omega) hKs (fun _ z => z) (fun _ _ z => absurd z (by omega))
      refine ih (r + 1) s2 u4 u5 (by omega) hK2 ?_
      rcases h1 with z | z
      · by_cases e9 : ∃ i, i < dn D ∧ s.testBit i = false ∧ s2.testBit i = true
        · obtain ⟨i, i1, i2, i3⟩ := e9
          have := cntB_lt (s := s) (t := s2) (i := i) (n := dn D) (fun j _ w => w1 j w) i1 i2 i3
          exact Or.inl (by omega)
        · refine Or.inr (fun i hi => w1 i (hi (fun i => s.testBit i = true) hKs.2 (fun a b ha hb x1 x2 => ?_)))
          have hab : a ≠ b := fun y => push_self (y ▸ x2)
          have x3 := w2 a b ha hb x1 ((push_meet hg ha hb hab (hG b hb).2.1 (hG a ha).2.1).mp x2)
          rcases hb2 : s.testBit b with _ | _
          · exact absurd ⟨b, hb, hb2, x3⟩ e9
          · rfl
      · exact Or.inr (fun i hi => w1 i (z i hi))
set_option maxRecDepth 20000 in
theorem s_X8_slide {D : FD} {P : Nat} (hC : FMS M 54 D) (hX : XMP M 54 P) {h : Nat} (hg : GW D P) (hh : h < dn D)  : XC g l mX8_slide (d + 2) [xr 49, xi (nI h)] M (XE (some (xi (nI (slV D P h)))) (mvX M (slV D P h) (dn D))) := by
  have hC0 := hC
  obtain ⟨hn6, ⟨hT, hT2⟩, ⟨hB, hB2⟩, hN, hcl, hK, hY, hW, hH, hG⟩ := hC
  have hp2 := p2_lt (k := h) (by omega)
  show XW g l mX8_slide _ 0 [some (xr 49), some (xi (nI h)), none, none, none, none] [] M _
  refine xw_iconst (v := 1) dX8_slide_0 (by decide) ?_
  refine xw_iload_n dX8_slide_1 rfl ?_
  refine xw_ishlN (a := 1) dX8_slide_2 ?_ ?_ ?_
  · omega
  · omega
  refine xw_istore_n dX8_slide_3 rfl rfl ?_
  refine xw_iconst (v := 0) dX8_slide_4 (by decide) ?_
  refine xw_istore_n dX8_slide_5 rfl rfl ?_
  have hKs : Ksl D P h (1 * 2 ^ h) := ⟨fun i hi => by rw [Nat.one_mul, Nat.testBit_two_pow, decide_eq_true_eq] at hi; subst hi; exact ⟨hh, Rch.self⟩, by rw [Nat.one_mul, Nat.testBit_two_pow]; simp⟩
  refine lpr_X8_slide hC0 hX hg hh 6 0 (1 * 2 ^ h) none none (by omega) hKs (Or.inl ?_)
  rw [show 0 + 1 = cntB 0 (dn D) + 1 by rw [show cntB 0 (dn D) = 0 from cntB_0 _]]
  exact cntB_lt (s := 0) (i := h) (fun j _ w => by simp at w) hh (by simp) hKs.2
end RFIELD
