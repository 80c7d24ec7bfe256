section SAYC
variable {g : XG} {l : Launch} {d : Nat} {M : XM}
def kpM (M : XM) (nx K P : Nat) (v : Int32) : XM := xup (xup (xup (xup M 41 nx (nI P)) 42 nx v) 40 2 (nI ((nx + 1) % 24))) 40 3 (nI (min (K + 1) 24))
theorem mmin24 {K : Nat} (hK : K ≤ 24) : (if (24 : Int32) < nI (K + 1) then 24 else nI (K + 1)) = nI (min (K + 1) 24) := by
  have e : ((24 : Int32) < nI (K + 1)) ↔ 24 < K + 1 := nI_ltI (a := 24) (b := K + 1) (by decide) (by omega)
  by_cases h : 24 < K + 1
  · rw [if_pos (e.mpr h), Nat.min_eq_right (by omega)]; rfl
  · rw [if_neg (fun z => h (e.mp z)), Nat.min_eq_left (by omega)]
set_option maxRecDepth 20000 in
theorem s_X3_keep {nx K : Nat} (hnx : nx < 24) (h2 : M.1 40 2 = nI nx) (h3 : M.1 40 3 = nI K) (hK : K ≤ 24) {P : Nat} {v : Int32} : XC g l mX3_keep (d + 1) [xr 40, xi (nI P), xi v] M (XE none (kpM M nx K P v)) := by
  show XW g l mX3_keep _ 0 [some (xr 40), some (xi (nI P)), some (xi v)] [] M _
  refine xw_aload_n dX3_keep_0 rfl ?_
  refine xw_getR dX3_keep_1 fl_X3_9 rfl rfl ?_
  refine xw_aload_n dX3_keep_4 rfl ?_
  refine xw_getV dX3_keep_5 fl_X3_16 rfl rfl (h2) ?_
  refine xw_iload_n dX3_keep_8 rfl ?_
  refine xw_iasN _ dX3_keep_9 rfl (rfl) rfl ?_ ?_
  · omega
  refine xw_aload_n dX3_keep_10 rfl ?_
  refine xw_getR dX3_keep_11 fl_X3_13 rfl rfl ?_
  refine xw_aload_n dX3_keep_14 rfl ?_
  refine xw_getV dX3_keep_15 fl_X3_16 rfl rfl (show _ = nI nx by rw [xup_cell _ _ (by decide)]; exact h2) ?_
  refine xw_iload_n dX3_keep_18 rfl ?_
  refine xw_iasN _ dX3_keep_19 rfl (rfl) rfl ?_ ?_
  · omega
  refine xw_aload_n dX3_keep_20 rfl ?_
  refine xw_aload_n dX3_keep_21 rfl ?_
  refine xw_getV dX3_keep_22 fl_X3_16 rfl rfl (show _ = nI nx by rw [xup_cell _ _ (by decide), xup_cell _ _ (by decide)]; exact h2) ?_
  refine xw_iconst (v := 1) dX3_keep_25 (by decide) ?_
  refine xw_iaddN (b := 1) dX3_keep_26 ?_
  refine xw_bipush (v := 24) dX3_keep_27 (by decide) ?_
  refine xw_iremN (b := 24) dX3_keep_29 (by omega) ?_
  refine xw_putI dX3_keep_30 fp_X3_16 rfl rfl ?_
  refine xw_aload_n dX3_keep_33 rfl ?_
  refine xw_aload_n dX3_keep_34 rfl ?_
  refine xw_getV dX3_keep_35 fl_X3_20 rfl rfl (show _ = nI K by rw [xup_place _ _ (by decide), xup_cell _ _ (by decide), xup_cell _ _ (by decide)]; exact h3) ?_
  refine xw_iconst (v := 1) dX3_keep_38 (by decide) ?_
  refine xw_iaddN (b := 1) dX3_keep_39 ?_
  refine xw_bipush (v := 24) dX3_keep_40 (by decide) ?_
  refine xw_mmin dX3_keep_42 ml_X3_23 kz_min rfl ?_
  refine xw_putI dX3_keep_45 fp_X3_20 rfl rfl ?_
  refine xw_ret dX3_keep_48 rfl ?_
  exact ⟨rfl, by rw [mmin24 hK]; rfl⟩
def unM (M : XM) (nx K P : Nat) : XM := xup (xup (xup M 40 2 (nI ((nx + 23) % 24))) 40 3 (nI (K - 1))) 8 3 (nI P)
set_option maxRecDepth 20000 in
theorem s_X3_undo0 {nx K : Nat} (hnx : nx < 24) (h2 : M.1 40 2 = nI nx) (h3 : M.1 40 3 = nI K) (hK : K ≤ 24) {PP : Nat} (hK0 : 0 < K) (hE : M.1 41 ((nx + 24 - 1) % 24) = nI PP) (hU : M.1 42 ((nx + 24 - 1) % 24) = -1) : XC g l mX3_undoLatest d [xr 40, xr 8] M (XE none (unM M nx K PP)) := by
  have e1 : nx + 24 - 1 = nx + 23 := by omega
  have e2 := Nat.mod_lt (nx + 24 - 1) (show 24 > 0 by decide)
  show XW g l mX3_undoLatest _ 0 [some (xr 40), some (xr 8)] [] M _
  refine xw_aload_n dX3_undoLatest_0 rfl ?_
  refine xw_aload_n dX3_undoLatest_1 rfl ?_
  refine xw_getV dX3_undoLatest_2 fl_X3_16 rfl rfl (h2) ?_
  refine xw_bipush (v := 24) dX3_undoLatest_5 (by decide) ?_
  refine xw_iaddN (b := 24) dX3_undoLatest_7 ?_
  refine xw_iconst (v := 1) dX3_undoLatest_8 (by decide) ?_
  refine xw_isubN (b := 1) dX3_undoLatest_9 ?_ ?_
  · omega
  refine xw_bipush (v := 24) dX3_undoLatest_10 (by decide) ?_
  refine xw_iremN (b := 24) dX3_undoLatest_12 (by omega) ?_
  refine xw_putI dX3_undoLatest_13 fp_X3_16 rfl rfl ?_
  refine xw_aload_n dX3_undoLatest_16 rfl ?_
  refine xw_dup dX3_undoLatest_17 rfl ?_
  refine xw_getV dX3_undoLatest_18 fl_X3_20 rfl rfl (show _ = nI K by rw [xup_place _ _ (by decide)]; exact h3) ?_
  refine xw_iconst (v := 1) dX3_undoLatest_21 (by decide) ?_
  refine xw_isubN (b := 1) dX3_undoLatest_22 ?_ ?_
  · omega
  refine xw_putI dX3_undoLatest_23 fp_X3_20 rfl rfl ?_
  refine xw_aload_n dX3_undoLatest_26 rfl ?_
  refine xw_aload_n dX3_undoLatest_27 rfl ?_
  refine xw_getR dX3_undoLatest_28 fl_X3_9 rfl rfl ?_
  refine xw_aload_n dX3_undoLatest_31 rfl ?_
  refine xw_getV dX3_undoLatest_32 fl_X3_16 rfl rfl (show _ = nI ((nx + 24 - 1) % 24) by rw [xup_place _ _ (by decide), xup_same]) ?_
  refine xw_ialN _ dX3_undoLatest_35 rfl (rfl) (show _ = nI PP by rw [xup_cell _ _ (by decide), xup_cell _ _ (by decide)]; exact hE) rfl ?_ ?_
  · omega
  refine xw_putI dX3_undoLatest_36 fp_X3_29 rfl rfl ?_
  refine xw_aload_n dX3_undoLatest_39 rfl ?_
  refine xw_getR dX3_undoLatest_40 fl_X3_13 rfl rfl ?_
  refine xw_aload_n dX3_undoLatest_43 rfl ?_
  refine xw_getV dX3_undoLatest_44 fl_X3_16 rfl rfl (show _ = nI ((nx + 24 - 1) % 24) by rw [xup_cell _ _ (by decide), xup_place _ _ (by decide), xup_same]) ?_
  refine xw_ialN _ dX3_undoLatest_47 rfl (rfl) (rfl) rfl ?_ ?_
  · omega
  refine xw_iconst (v := (-1)) dX3_undoLatest_48 (by decide) ?_
  refine xw_icmp_eq (tgt := 70) dX3_undoLatest_49 (by decide) (fun c49 => ?_) (fun c49 => ?_)
  · refine xw_ret dX3_undoLatest_70 rfl ?_
    exact ⟨rfl, by unfold unM; rw [e1]⟩
  · exact absurd (by rw [xup_cell _ _ (by decide), xup_cell _ _ (by decide), xup_cell _ _ (by decide)]; exact hU) c49
set_option maxRecDepth 20000 in
theorem s_X3_undo1 {nx K : Nat} (hnx : nx < 24) (h2 : M.1 40 2 = nI nx) (h3 : M.1 40 3 = nI K) (hK : K ≤ 24) {PP : Nat} (hK0 : 0 < K) (hE : M.1 41 ((nx + 24 - 1) % 24) = nI PP) {u : Nat} (hu : u < 6) (hU : M.1 42 ((nx + 24 - 1) % 24) = nI u) : XC g l mX3_undoLatest d [xr 40, xr 8] M (XE none (xup (unM M nx K PP) 15 u (M.1 15 u - 1))) := by
  have e1 : nx + 24 - 1 = nx + 23 := by omega
  have e2 := Nat.mod_lt (nx + 24 - 1) (show 24 > 0 by decide)
  show XW g l mX3_undoLatest _ 0 [some (xr 40), some (xr 8)] [] M _
  refine xw_aload_n dX3_undoLatest_0 rfl ?_
  refine xw_aload_n dX3_undoLatest_1 rfl ?_
  refine xw_getV dX3_undoLatest_2 fl_X3_16 rfl rfl (h2) ?_
  refine xw_bipush (v := 24) dX3_undoLatest_5 (by decide) ?_
  refine xw_iaddN (b := 24) dX3_undoLatest_7 ?_
  refine xw_iconst (v := 1) dX3_undoLatest_8 (by decide) ?_
  refine xw_isubN (b := 1) dX3_undoLatest_9 ?_ ?_
  · omega
  refine xw_bipush (v := 24) dX3_undoLatest_10 (by decide) ?_
  refine xw_iremN (b := 24) dX3_undoLatest_12 (by omega) ?_
  refine xw_putI dX3_undoLatest_13 fp_X3_16 rfl rfl ?_
  refine xw_aload_n dX3_undoLatest_16 rfl ?_
  refine xw_dup dX3_undoLatest_17 rfl ?_
  refine xw_getV dX3_undoLatest_18 fl_X3_20 rfl rfl (show _ = nI K by rw [xup_place _ _ (by decide)]; exact h3) ?_
  refine xw_iconst (v := 1) dX3_undoLatest_21 (by decide) ?_
  refine xw_isubN (b := 1) dX3_undoLatest_22 ?_ ?_
  · omega
  refine xw_putI dX3_undoLatest_23 fp_X3_20 rfl rfl ?_
  refine xw_aload_n dX3_undoLatest_26 rfl ?_
  refine xw_aload_n dX3_undoLatest_27 rfl ?_
  refine xw_getR dX3_undoLatest_28 fl_X3_9 rfl rfl ?_
  refine xw_aload_n dX3_undoLatest_31 rfl ?_
  refine xw_getV dX3_undoLatest_32 fl_X3_16 rfl rfl (show _ = nI ((nx + 24 - 1) % 24) by rw [xup_place _ _ (by decide), xup_same]) ?_
  refine xw_ialN _ dX3_undoLatest_35 rfl (rfl) (show _ = nI PP by rw [xup_cell _ _ (by decide), xup_cell _ _ (by decide)]; exact hE) rfl ?_ ?_
  · omega
  refine xw_putI dX3_undoLatest_36 fp_X3_29 rfl rfl ?_
  refine xw_aload_n dX3_undoLatest_39 rfl ?_
  refine xw_getR dX3_undoLatest_40 fl_X3_13 rfl rfl ?_
  refine xw_aload_n dX3_undoLatest_43 rfl ?_
  refine xw_getV dX3_undoLatest_44 fl_X3_16 rfl rfl (show _ = nI ((nx + 24 - 1) % 24) by rw [xup_cell _ _ (by decide), xup_place _ _ (by decide), xup_same]) ?_
  refine xw_ialN _ dX3_undoLatest_47 rfl (rfl) (show _ = nI u by rw [xup_cell _ _ (by decide), xup_cell _ _ (by decide), xup_cell _ _ (by decide)]; exact hU) rfl ?_ ?_
  · omega
  refine xw_iconst (v := (-1)) dX3_undoLatest_48 (by decide) ?_
  refine xw_icmp_eq (tgt := 70) dX3_undoLatest_49 (by decide) (fun c49 => ?_) (fun c49 => ?_)
  · exact absurd c49 (fun z => absurd (z ▸ nI_pos' (n := u) (by omega)) (by decide))
  · refine xw_aload_n dX3_undoLatest_52 rfl ?_
    refine xw_getR dX3_undoLatest_53 fl_X3_34 rfl rfl ?_
    refine xw_aload_n dX3_undoLatest_56 rfl ?_
    refine xw_getR dX3_undoLatest_57 fl_X3_13 rfl rfl ?_
    refine xw_aload_n dX3_undoLatest_60 rfl ?_
    refine xw_getV dX3_undoLatest_61 fl_X3_16 rfl rfl (show _ = nI ((nx + 24 - 1) % 24) by rw [xup_cell _ _ (by decide), xup_place _ _ (by decide), xup_same]) ?_
    refine xw_ialN _ dX3_undoLatest_64 rfl (rfl) (show _ = nI u by rw [xup_cell _ _ (by decide), xup_cell _ _ (by decide), xup_cell _ _ (by decide)]; exact hU) rfl ?_ ?_
    · omega
    refine xw_dup2 dX3_undoLatest_65 rfl rfl ?_
    refine xw_ialN _ dX3_undoLatest_66 rfl (rfl) (rfl) rfl ?_ ?_
    · omega
    refine xw_iconst (v := 1) dX3_undoLatest_67 (by decide) ?_
    refine xw_isub dX3_undoLatest_68 ?_
    refine xw_iasN _ dX3_undoLatest_69 rfl (rfl) rfl ?_ ?_
    · omega
    refine xw_ret dX3_undoLatest_70 rfl ?_
    exact ⟨rfl, by unfold unM; rw [e1, xup_cell _ _ (by decide), xup_cell _ _ (by decide), xup_cell _ _ (by decide)]⟩
def lieM (M : XM) (nx K P h P2 : Nat) : XM := xup (xup (kpM M nx K P (nI h)) 15 h (M.1 15 h + 1)) 8 3 (nI P2)
theorem kpM_at {M : XM} {nx K P : Nat} {v : Int32} {a b : Nat} (h : a ≠ 40 ∧ a ≠ 41 ∧ a ≠ 42) : (kpM M nx K P v).1 a b = M.1 a b := by
  unfold kpM
  rw [xup_cell _ _ h.1, xup_cell _ _ h.1, xup_cell _ _ h.2.2, xup_cell _ _ h.2.1]
set_option maxRecDepth 20000 in
theorem k_X7_sayIn_true {nx K : Nat} (hnx : nx < 24) (h2 : M.1 40 2 = nI nx) (h3 : M.1 40 3 = nI K) (hK : K ≤ 24) {D : FD} {P h c : Nat} (hC : FCS M 8 D) (hX : M.1 8 3 = nI P) (hP : P < 2 ^ 24) (hh : h < dn D) (hc : c < 16) (hl : ¬ isLieN D c) : XC g l mX7_sayIn (d + 4) [xr 0, xi (nI h), xi (nI c)] M (XE (some (xi 0)) (kpM M nx K P (-1))) := by
  show XW g l mX7_sayIn _ 0 [some (xr 0), some (xi (nI h)), some (xi (nI c)), none, none] [] M _
  refine xw_aload_n dX7_sayIn_0 rfl ?_
  refine xw_getR dX7_sayIn_1 fl_X7_26 rfl rfl ?_
  refine xw_iload_n dX7_sayIn_4 rfl ?_
  refine xw_cV1B dX7_sayIn_5 okX1_isLie ml_X7_252 rfl rfl rfl rfl (s_X1_isLie xf_8 hC hc) (fun p5 => ?_) (fun p5 => ?_)
  · exact absurd p5 hl
  · refine xw_istore_n dX7_sayIn_8 rfl rfl ?_
    refine xw_iload_n dX7_sayIn_9 rfl ?_
    refine xw_if_eq (tgt := 31) dX7_sayIn_10 (by decide) (fun _ => ?_) (fun q9 => absurd q9 (by decide))
    refine xw_iconst (v := 0) dX7_sayIn_31 (by decide) ?_
    refine xw_istore dX7_sayIn_32 rfl rfl ?_
    refine xw_aload_n dX7_sayIn_34 rfl ?_
    refine xw_getR dX7_sayIn_35 fl_X7_37 rfl rfl ?_
    refine xw_aload_n dX7_sayIn_38 rfl ?_
    refine xw_getR dX7_sayIn_39 fl_X7_26 rfl rfl ?_
    refine xw_getV dX7_sayIn_42 fl_X7_136 rfl rfl (hX) ?_
    refine xw_iload_n dX7_sayIn_45 rfl ?_
    refine xw_if_eq (tgt := 53) dX7_sayIn_46 (by decide) (fun _ => ?_) (fun q9 => absurd q9 (by decide))
    refine xw_iconst (v := (-1)) dX7_sayIn_53 (by decide) ?_
    refine xw_cV2N dX7_sayIn_54 okX3_keep ml_X7_258 rfl rfl rfl rfl (s_X3_keep hnx h2 h3 hK) ?_
    refine xw_iload_n dX7_sayIn_57 rfl ?_
    refine xw_if_eq (tgt := 97) dX7_sayIn_58 (by decide) (fun _ => ?_) (fun q9 => absurd q9 (by decide))
    refine xw_iload dX7_sayIn_97 rfl ?_
    refine xw_ireti dX7_sayIn_99 rfl ?_
    first | exact ⟨rfl, rfl⟩ | exact ⟨by simp_all, rfl⟩ | grind [XE]
set_option maxRecDepth 20000 in
theorem k_X7_sayIn_lie {nx K : Nat} (hnx : nx < 24) (h2 : M.1 40 2 = nI nx) (h3 : M.1 40 3 = nI K) (hK : K ≤ 24) {D : FD} {P h c : Nat} (hC : FCS M 8 D) (hX : M.1 8 3 = nI P) (hP : P < 2 ^ 24) (hh : h < dn D) (hc : c < 16) (hl : isLieN D c) : XC g l mX7_sayIn (d + 4) [xr 0, xi (nI h), xi (nI c)] M (XE (some (xi (nI (slV D P h)))) (lieM M nx K P h (slP D P h))) := by
  have hs6 := slV_lt D P h hC.1
  have hn6 := hC.1
  have hX2 : (kpM M nx K P (nI h)).1 8 3 = nI P := by rw [kpM_at (by decide)]; exact hX
  have hC2 : FCS (xup (kpM M nx K P (nI h)) 15 h ((kpM M nx K P (nI h)).1 15 h + 1)) 8 D := hC.keep (fun b _ => by rw [xup_cell _ _ (by decide), kpM_at (by decide)]) (fun c2 b h1 h2 => by rw [xup_cell _ _ (by omega), kpM_at (by omega)])
  show XW g l mX7_sayIn _ 0 [some (xr 0), some (xi (nI h)), some (xi (nI c)), none, none] [] M _
  refine xw_aload_n dX7_sayIn_0 rfl ?_
  refine xw_getR dX7_sayIn_1 fl_X7_26 rfl rfl ?_
  refine xw_iload_n dX7_sayIn_4 rfl ?_
  refine xw_cV1B dX7_sayIn_5 okX1_isLie ml_X7_252 rfl rfl rfl rfl (s_X1_isLie xf_8 hC hc) (fun p5 => ?_) (fun p5 => ?_)
  · refine xw_istore_n dX7_sayIn_8 rfl rfl ?_
    refine xw_iload_n dX7_sayIn_9 rfl ?_
    refine xw_if_eq (tgt := 31) dX7_sayIn_10 (by decide) (fun q9 => absurd q9 (by decide)) (fun _ => ?_)
    refine xw_aload_n dX7_sayIn_13 rfl ?_
    refine xw_getR dX7_sayIn_14 fl_X7_26 rfl rfl ?_
    refine xw_aload_n dX7_sayIn_17 rfl ?_
    refine xw_getR dX7_sayIn_18 fl_X7_26 rfl rfl ?_
    refine xw_getV dX7_sayIn_21 fl_X7_136 rfl rfl (hX) ?_
    refine xw_iload_n dX7_sayIn_24 rfl ?_
    refine xw_cV2E dX7_sayIn_25 okX1_slidBy ml_X7_255 rfl rfl rfl rfl (s_X1_slidBy xf_8 hC hP hh) ?_
    refine xw_goto (tgt := 32) dX7_sayIn_28 (by decide) ?_
    refine xw_istore dX7_sayIn_32 rfl rfl ?_
    refine xw_aload_n dX7_sayIn_34 rfl ?_
    refine xw_getR dX7_sayIn_35 fl_X7_37 rfl rfl ?_
    refine xw_aload_n dX7_sayIn_38 rfl ?_
    refine xw_getR dX7_sayIn_39 fl_X7_26 rfl rfl ?_
    refine xw_getV dX7_sayIn_42 fl_X7_136 rfl rfl (hX) ?_
    refine xw_iload_n dX7_sayIn_45 rfl ?_
    refine xw_if_eq (tgt := 53) dX7_sayIn_46 (by decide) (fun q9 => absurd q9 (by decide)) (fun _ => ?_)
    refine xw_iload_n dX7_sayIn_49 rfl ?_
    refine xw_goto (tgt := 54) dX7_sayIn_50 (by decide) ?_
    refine xw_cV2N dX7_sayIn_54 okX3_keep ml_X7_258 rfl rfl rfl rfl (s_X3_keep hnx h2 h3 hK) ?_
    refine xw_iload_n dX7_sayIn_57 rfl ?_
    refine xw_if_eq (tgt := 97) dX7_sayIn_58 (by decide) (fun q9 => absurd q9 (by decide)) (fun _ => ?_)
    refine xw_aload_n dX7_sayIn_61 rfl ?_
    refine xw_getR dX7_sayIn_62 fl_X7_26 rfl rfl ?_
    refine xw_getR dX7_sayIn_65 fl_X7_185 rfl rfl ?_
    refine xw_iload_n dX7_sayIn_68 rfl ?_
    refine xw_dup2 dX7_sayIn_69 rfl rfl ?_
    refine xw_ialN _ dX7_sayIn_70 rfl (rfl) (rfl) rfl ?_ ?_
    · omega
    refine xw_iconst (v := 1) dX7_sayIn_71 (by decide) ?_
    refine xw_iadd dX7_sayIn_72 ?_
    refine xw_iasN _ dX7_sayIn_73 rfl (rfl) rfl ?_ ?_
    · omega
    refine xw_aload_n dX7_sayIn_74 rfl ?_
    refine xw_getR dX7_sayIn_75 fl_X7_26 rfl rfl ?_
    refine xw_aload_n dX7_sayIn_78 rfl ?_
    refine xw_getR dX7_sayIn_79 fl_X7_26 rfl rfl ?_
    refine xw_aload_n dX7_sayIn_82 rfl ?_
    refine xw_getR dX7_sayIn_83 fl_X7_26 rfl rfl ?_
    refine xw_getV dX7_sayIn_86 fl_X7_136 rfl rfl (show _ = nI P by rw [xup_cell _ _ (by decide)]; exact hX2) ?_
    refine xw_iload dX7_sayIn_89 rfl ?_
    refine xw_cV2E dX7_sayIn_91 okX1_afterSlide ml_X7_262 rfl rfl rfl rfl (s_X1_afterSlide xf_8 hC2 hs6) ?_
    refine xw_putI dX7_sayIn_94 fp_X7_136 rfl rfl ?_
    refine xw_iload dX7_sayIn_97 rfl ?_
    refine xw_ireti dX7_sayIn_99 rfl ?_
    exact ⟨rfl, by unfold lieM slP; rw [kpM_at (by decide)]⟩
  · exact absurd hl p5
theorem CRep.houses {D : FD} {A : FA} (h : CRep M D A) : dn D ≤ 6 ∧ ∀ h, h < dn D → 1 ≤ dW D h := ⟨h.1.1, fun k hk => (h.1.2.2.2.2.2.2.2.2.2.2.2.2 k hk).2.1⟩
theorem min_lit {K : Nat} : (if K + 1 ≤ 24 then K + 1 else 24) = min (K + 1) 24 := by rw [Nat.min_def]
/-- a saying of the class -/
theorem c_sayIn {D : FD} {A : FA} {h c : Nat} (hR : CRep M D A) (hg : GW D A.1) (hh : h < dn D) (hc : c < 16) : XC g l mX7_sayIn (d + 4) [xr 0, xi (nI h), xi (nI c)] M (fun r M' => r = some (xi (nI (sayV D A h c))) ∧ CRep M' D (stepSay D A h c) ∧ FrC M M') := by
  have hhs := hR.houses
  obtain ⟨hC, hX, hP, hL, nx, hnx, h2, h3, hK, hH⟩ := hR
  by_cases hl : isLieN D c
  · refine (k_X7_sayIn_lie hnx h2 h3 hK hC hX hP hh hc hl).mono (fun r M' hq => ?_)
    obtain ⟨rfl, rfl⟩ := hq
    refine ⟨by unfold sayV; rw [if_pos (decP_t hl)], ?_, ?_⟩
    · unfold stepSay
      rw [if_pos (decP_t hl)]
      refine ⟨hC.keep (fun b hb => ?_) (fun c2 b q1 q2 => ?_), by unfold lieM; rw [xup_same]; rfl, ?_, fun k hk => ?_, ?_⟩
      · unfold lieM; rw [xup_place _ _ (by omega), xup_cell _ _ (by decide), kpM_at (by decide)]
      · unfold lieM; rw [xup_cell _ _ (by omega), xup_cell _ _ (by omega), kpM_at (by omega)]
      · exact (slP_px hP hhs.1 hg hhs.2).1
      · show _ = upL A.2.1 h _ k
        unfold lieM upL
        rw [xup_cell _ _ (by decide), xup_at]
        by_cases e : k = h
        · subst e; rw [if_pos ⟨rfl, rfl⟩, if_pos rfl, hL k hk]
        · rw [if_neg (fun z => e z.2), if_neg e, kpM_at (by decide)]; exact hL k hk
      · refine HC.keep (u := h + 1) hnx hK hH ?_ ?_ (fun b => ?_) (fun b => ?_)
        · unfold lieM kpM; rw [xup_cell _ _ (by decide), xup_cell _ _ (by decide), xup_place _ _ (by decide), xup_same]
        · unfold lieM kpM; rw [xup_cell _ _ (by decide), xup_cell _ _ (by decide), xup_same]
        · unfold lieM kpM; rw [xup_cell _ _ (by decide), xup_cell _ _ (by decide), xup_cell _ _ (by decide), xup_cell _ _ (by decide), xup_cell _ _ (by decide), xup_at]; simp
        · unfold lieM kpM; rw [xup_cell _ _ (by decide), xup_cell _ _ (by decide), xup_cell _ _ (by decide), xup_cell _ _ (by decide), xup_at, xup_cell _ _ (by decide)]; simp [liarC]
    · refine ⟨fun a b q1 q2 q3 q4 q5 => ?_, rfl⟩
      unfold lieM
      rw [xup_at, if_neg q1, xup_cell _ _ q2, kpM_at ⟨q3, q4, q5⟩]
  · refine (k_X7_sayIn_true hnx h2 h3 hK hC hX hP hh hc hl).mono (fun r M' hq => ?_)
    obtain ⟨rfl, rfl⟩ := hq
    refine ⟨by unfold sayV; rw [decP_f hl]; rfl, ?_, ?_⟩
    · unfold stepSay
      rw [decP_f hl, if_neg (by decide)]
      refine ⟨hC.keep (fun b hb => kpM_at (by decide)) (fun c2 b q1 q2 => kpM_at (by omega)), by rw [kpM_at (by decide)]; exact hX, hP, fun k hk => by rw [kpM_at (by decide)]; exact hL k hk, ?_⟩
      refine HC.keep (u := 0) hnx hK hH ?_ ?_ (fun b => ?_) (fun b => ?_)
      · unfold kpM; rw [xup_place _ _ (by decide), xup_same]
      · unfold kpM; rw [xup_same]
      · unfold kpM; rw [xup_cell _ _ (by decide), xup_cell _ _ (by decide), xup_cell _ _ (by decide), xup_at]; simp
      · unfold kpM; rw [xup_cell _ _ (by decide), xup_cell _ _ (by decide), xup_at, xup_cell _ _ (by decide)]; simp [liarC]
    · exact ⟨fun a b q1 q2 q3 q4 q5 => kpM_at ⟨q3, q4, q5⟩, rfl⟩
theorem liarC_0 : liarC 0 = -1 := rfl
/-- undo of the class -/
theorem c_undoLatest {D : FD} {A : FA} (hR : CRep M D A) (hW : WFA D A) (hK0 : 0 < A.2.2.1) : XC g l mX3_undoLatest d [xr 40, xr 8] M (fun r M' => r = none ∧ CRep M' D (stepUndo A) ∧ FrC M M') := by
  have hhs := hR.houses
  obtain ⟨hC, hX, hP, hL, nx, hnx, h2, h3, hK, hH⟩ := hR
  have e0 := hH 0 hK0
  have w0 := hW.2.2.2 0 hK0
  rw [show nx + 23 - 0 = nx + 24 - 1 by omega] at e0
  have key : ∀ (M' : XM), (∀ a b, ¬ (a = 8 ∧ b = 3) → ¬ (a = 40 ∧ (b = 2 ∨ b = 3)) → a ≠ 15 → M'.1 a b = M.1 a b) → M'.2 = M.2 → M'.1 8 3 = nI (A.2.2.2 0).1 → M'.1 40 2 = nI ((nx + 23) % 24) → M'.1 40 3 = nI (A.2.2.1 - 1) → (∀ h, h < dn D → M'.1 15 h = (stepUndo A).2.1 h) → CRep M' D (stepUndo A) ∧ FrC M M' := by
    intro M' q1 q1b q2 q3 q4 q5
    refine ⟨⟨hC.keep (fun b hb => q1 8 b (by omega) (by omega) (by omega)) (fun c2 b z1 z2 => q1 c2 b (by omega) (by omega) (by omega)), q2, w0.1, q5, ?_⟩, fun a b z1 z2 z3 z4 z5 => q1 a b z1 (by omega) z2, q1b⟩
    exact HC.undo hnx hK hK0 hH q3 q4 (fun b => q1 41 b (by omega) (by omega) (by omega)) (fun b => q1 42 b (by omega) (by omega) (by omega))
  have un : ∀ a b, (unM M nx A.2.2.1 (A.2.2.2 0).1).1 a b = if a = 8 ∧ b = 3 then nI (A.2.2.2 0).1 else if a = 40 ∧ b = 3 then nI (A.2.2.1 - 1) else if a = 40 ∧ b = 2 then nI ((nx + 23) % 24) else M.1 a b := by
    intro a b
    unfold unM
    rw [xup_at, xup_at, xup_at]
  by_cases hu : (A.2.2.2 0).2 = 0
  · have eu : M.1 42 ((nx + 24 - 1) % 24) = -1 := by rw [e0.2, hu]; rfl
    refine (s_X3_undo0 hnx h2 h3 hK hK0 e0.1 eu).mono (fun r M' hq => ?_)
    obtain ⟨rfl, rfl⟩ := hq
    refine ⟨rfl, key _ (fun a b z1 z2 z3 => by rw [un, if_neg z1, if_neg (by omega), if_neg (by omega)]) rfl (by rw [un, if_pos ⟨rfl, rfl⟩]) (by rw [un]; rfl) (by rw [un]; rfl) (fun h hh => ?_)⟩
    rw [un, if_neg (by omega), if_neg (by omega), if_neg (by omega), hL h hh]
    unfold stepUndo
    simp [hu]
  · have eu : M.1 42 ((nx + 24 - 1) % 24) = nI ((A.2.2.2 0).2 - 1) := by rw [e0.2]; unfold liarC; rw [if_neg hu]
    have w2 := w0.2.2
    refine (s_X3_undo1 hnx h2 h3 hK hK0 e0.1 (by omega) eu).mono (fun r M' hq => ?_)
    obtain ⟨rfl, rfl⟩ := hq
    refine ⟨rfl, key _ (fun a b z1 z2 z3 => by rw [xup_cell _ _ z3, un, if_neg z1, if_neg (by omega), if_neg (by omega)]) rfl (by rw [xup_cell _ _ (by decide), un, if_pos ⟨rfl, rfl⟩]) (by rw [xup_cell _ _ (by decide), un]; rfl) (by rw [xup_cell _ _ (by decide), un]; rfl) (fun h hh => ?_)⟩
    rw [xup_at]
    unfold stepUndo upL
    simp only [hu, if_false]
    by_cases e : h = (A.2.2.2 0).2 - 1
    · rw [if_pos ⟨trivial, e⟩, if_pos e, hL _ (by omega)]
    · rw [if_neg (fun z => e z.2), if_neg e, un, if_neg (by omega), if_neg (by omega), if_neg (by omega), hL h hh]
set_option maxRecDepth 20000 in
theorem k_X7_undo_none (h3 : M.1 40 3 = nI 0) : XC g l mX7_undo (d + 1) [xr 0] M (XE (some (xi (-1000002))) M) := by
  show XW g l mX7_undo _ 0 [some (xr 0)] [] M _
  refine xw_aload_n dX7_undo_0 rfl ?_
  refine xw_getR dX7_undo_1 fl_X7_37 rfl rfl ?_
  refine xw_cV0E dX7_undo_4 okX3_size ml_X7_157 rfl rfl rfl rfl ((s_X3_size).eqv (by rw [h3]) rfl) ?_
  refine xw_if_neN (tgt := 13) dX7_undo_7 (by decide) (by omega) (fun c7 => ?_) (fun c7 => ?_)
  · exact absurd rfl c7
  · refine xw_ldc dX7_undo_10 kc_X7_143 ?_
    refine xw_ireti dX7_undo_12 rfl ?_
    first | exact ⟨rfl, rfl⟩ | exact ⟨by simp_all, rfl⟩ | grind [XE]
set_option maxRecDepth 20000 in
theorem c_undo {D : FD} {A : FA} (hR : CRep M D A) (hW : WFA D A) (hK0 : 0 < A.2.2.1) : XC g l mX7_undo (d + 1) [xr 0] M (fun r M' => r = some (xi (nI (A.2.2.1 - 1))) ∧ CRep M' D (stepUndo A) ∧ FrC M M') := by
  have hKc := hR.2.2.2.2
  obtain ⟨nx, hnx, h2, h3, hK, hH⟩ := hKc
  show XW g l mX7_undo _ 0 [some (xr 0)] [] M _
  refine xw_aload_n dX7_undo_0 rfl ?_
  refine xw_getR dX7_undo_1 fl_X7_37 rfl rfl ?_
  refine xw_cV0E dX7_undo_4 okX3_size ml_X7_157 rfl rfl rfl rfl ((s_X3_size).eqv (by rw [h3]) rfl) ?_
  refine xw_if_neN (tgt := 13) dX7_undo_7 (by decide) (by omega) (fun c7 => ?_) (fun c7 => ?_)
  · refine xw_aload_n dX7_undo_13 rfl ?_
    refine xw_getR dX7_undo_14 fl_X7_37 rfl rfl ?_
    refine xw_aload_n dX7_undo_17 rfl ?_
    refine xw_getR dX7_undo_18 fl_X7_26 rfl rfl ?_
    refine xw_cV1Q dX7_undo_21 okX3_undoLatest ml_X7_160 rfl rfl rfl rfl (c_undoLatest hR hW hK0) ?_
    rintro _ M' ⟨rfl, hR2, hF2⟩
    obtain ⟨nx2, hnx2, h22, h32, hK2, hH2⟩ := hR2.2.2.2.2
    refine xw_aload_n dX7_undo_24 rfl ?_
    refine xw_getR dX7_undo_25 fl_X7_37 rfl rfl ?_
    refine xw_cV0E dX7_undo_28 okX3_size ml_X7_157 rfl rfl rfl rfl ((s_X3_size).eqv (by rw [h32]) rfl) ?_
    refine xw_ireti dX7_undo_31 rfl ?_
    exact ⟨rfl, hR2, hF2⟩
  · exfalso; omega
set_option maxRecDepth 20000 in
theorem k_X7_say_bad {a c : Int32} (h : ¬ ((0 ≤ a ∧ a < M.1 8 2) ∧ 0 ≤ c ∧ c ≤ 15)) : XC g l mX7_say (d + 5) [xr 0, xi a, xi c] M (XE (some (xi (-1000001))) M) := by
  show XW g l mX7_say _ 0 [some (xr 0), some (xi a), some (xi c)] [] M _
  refine xw_aload_n dX7_say_0 rfl ?_
  refine xw_getR dX7_say_1 fl_X7_26 rfl rfl ?_
  refine xw_iload_n dX7_say_4 rfl ?_
  refine xw_cV1B dX7_say_5 okX1_isHouse ml_X7_133 rfl rfl rfl rfl (s_X1_isHouse xf_8 _) (fun p5 => ?_) (fun p5 => ?_)
  · refine xw_if_eq (tgt := 21) dX7_say_8 (by decide) (fun q9 => absurd q9 (by decide)) (fun _ => ?_)
    refine xw_iload_n dX7_say_11 rfl ?_
    refine xw_if_lt (tgt := 21) dX7_say_12 (by decide) (fun c12 => ?_) (fun c12 => ?_)
    · refine xw_ldc dX7_say_21 kc_X7_66 ?_
      refine xw_ireti dX7_say_23 rfl ?_
      first | exact ⟨rfl, rfl⟩ | exact ⟨by simp_all, rfl⟩ | grind [XE]
    · refine xw_iload_n dX7_say_15 rfl ?_
      refine xw_bipush (v := 15) dX7_say_16 (by decide) ?_
      refine xw_icmp_le (tgt := 24) dX7_say_18 (by decide) (fun c18 => ?_) (fun c18 => ?_)
      · exfalso; grind
      · refine xw_ldc dX7_say_21 kc_X7_66 ?_
        refine xw_ireti dX7_say_23 rfl ?_
        first | exact ⟨rfl, rfl⟩ | exact ⟨by simp_all, rfl⟩ | grind [XE]
  · refine xw_if_eq (tgt := 21) dX7_say_8 (by decide) (fun _ => ?_) (fun q9 => absurd q9 (by decide))
    refine xw_ldc dX7_say_21 kc_X7_66 ?_
    refine xw_ireti dX7_say_23 rfl ?_
    first | exact ⟨rfl, rfl⟩ | exact ⟨by simp_all, rfl⟩ | grind [XE]
set_option maxRecDepth 20000 in
theorem k_X7_say_state {D : FD} {A : FA} {h c : Nat} (hR : CRep M D A) (hh : h < dn D) (hc : c < 16) (hd : drowned D A.1 h) : XC g l mX7_say (d + 5) [xr 0, xi (nI h), xi (nI c)] M (XE (some (xi (-1000002))) M) := by
  obtain ⟨hC, hX, hP, hL, hHC⟩ := id hR
  have hn6 := hC.1
  have hN := hC.2.2.2.1
  have e0 : 0 ≤ nI h ∧ nI h < M.1 8 2 := by rw [hN]; exact nI_in0 (by omega) hh
  show XW g l mX7_say _ 0 [some (xr 0), some (xi (nI h)), some (xi (nI c))] [] M _
  refine xw_aload_n dX7_say_0 rfl ?_
  refine xw_getR dX7_say_1 fl_X7_26 rfl rfl ?_
  refine xw_iload_n dX7_say_4 rfl ?_
  refine xw_cV1B dX7_say_5 okX1_isHouse ml_X7_133 rfl rfl rfl rfl (s_X1_isHouse xf_8 _) (fun p5 => ?_) (fun p5 => ?_)
  · refine xw_if_eq (tgt := 21) dX7_say_8 (by decide) (fun q9 => absurd q9 (by decide)) (fun _ => ?_)
    refine xw_iload_n dX7_say_11 rfl ?_
    refine xw_if_ltN (tgt := 21) dX7_say_12 (by decide) (by omega) ?_
    refine xw_iload_n dX7_say_15 rfl ?_
    refine xw_bipush (v := 15) dX7_say_16 (by decide) ?_
    refine xw_icmp_leN (b := 15) (tgt := 24) dX7_say_18 (by decide) (by omega) (fun c18 => ?_) (fun c18 => ?_)
    · refine xw_aload_n dX7_say_24 rfl ?_
      refine xw_getR dX7_say_25 fl_X7_26 rfl rfl ?_
      refine xw_aload_n dX7_say_28 rfl ?_
      refine xw_getR dX7_say_29 fl_X7_26 rfl rfl ?_
      refine xw_getV dX7_say_32 fl_X7_136 rfl rfl (hX) ?_
      refine xw_iload_n dX7_say_35 rfl ?_
      refine xw_cV2B dX7_say_36 okX1_isDrowned ml_X7_139 rfl rfl rfl rfl (s_X1_isDrowned xf_8 hC hP hh) (fun p36 => ?_) (fun p36 => ?_)
      · refine xw_if_eq (tgt := 47) dX7_say_39 (by decide) (fun q9 => absurd q9 (by decide)) (fun _ => ?_)
        refine xw_ldc dX7_say_42 kc_X7_143 ?_
        refine xw_goto (tgt := 53) dX7_say_44 (by decide) ?_
        refine xw_ireti dX7_say_53 rfl ?_
        first | exact ⟨rfl, rfl⟩ | exact ⟨by simp_all, rfl⟩ | grind [XE]
      · exfalso; first | contradiction | omega
    · exfalso; first | contradiction | omega
  · exfalso; first | contradiction | omega
set_option maxRecDepth 20000 in
theorem c_say {D : FD} {A : FA} {h c : Nat} (hR : CRep M D A) (hh : h < dn D) (hc : c < 16) (hg : GW D A.1) (hd : ¬ drowned D A.1 h) : XC g l mX7_say (d + 5) [xr 0, xi (nI h), xi (nI c)] M (fun r M' => r = some (xi (nI (sayV D A h c))) ∧ CRep M' D (stepSay D A h c) ∧ FrC M M') := by
  obtain ⟨hC, hX, hP, hL, hHC⟩ := id hR
  have hn6 := hC.1
  have hN := hC.2.2.2.1
  have e0 : 0 ≤ nI h ∧ nI h < M.1 8 2 := by rw [hN]; exact nI_in0 (by omega) hh
  show XW g l mX7_say _ 0 [some (xr 0), some (xi (nI h)), some (xi (nI c))] [] M _
  refine xw_aload_n dX7_say_0 rfl ?_
  refine xw_getR dX7_say_1 fl_X7_26 rfl rfl ?_
  refine xw_iload_n dX7_say_4 rfl ?_
  refine xw_cV1B dX7_say_5 okX1_isHouse ml_X7_133 rfl rfl rfl rfl (s_X1_isHouse xf_8 _) (fun p5 => ?_) (fun p5 => ?_)
  · refine xw_if_eq (tgt := 21) dX7_say_8 (by decide) (fun q9 => absurd q9 (by decide)) (fun _ => ?_)
    refine xw_iload_n dX7_say_11 rfl ?_
    refine xw_if_ltN (tgt := 21) dX7_say_12 (by decide) (by omega) ?_
    refine xw_iload_n dX7_say_15 rfl ?_
    refine xw_bipush (v := 15) dX7_say_16 (by decide) ?_
    refine xw_icmp_leN (b := 15) (tgt := 24) dX7_say_18 (by decide) (by omega) (fun c18 => ?_) (fun c18 => ?_)
    · refine xw_aload_n dX7_say_24 rfl ?_
      refine xw_getR dX7_say_25 fl_X7_26 rfl rfl ?_
      refine xw_aload_n dX7_say_28 rfl ?_
      refine xw_getR dX7_say_29 fl_X7_26 rfl rfl ?_
      refine xw_getV dX7_say_32 fl_X7_136 rfl rfl (hX) ?_
      refine xw_iload_n dX7_say_35 rfl ?_
      refine xw_cV2B dX7_say_36 okX1_isDrowned ml_X7_139 rfl rfl rfl rfl (s_X1_isDrowned xf_8 hC hP hh) (fun p36 => ?_) (fun p36 => ?_)
      · exfalso; first | contradiction | omega
      · refine xw_if_eq (tgt := 47) dX7_say_39 (by decide) (fun _ => ?_) (fun q9 => absurd q9 (by decide))
        refine xw_aload_n dX7_say_47 rfl ?_
        refine xw_iload_n dX7_say_48 rfl ?_
        refine xw_iload_n dX7_say_49 rfl ?_
        refine xw_cV2Q dX7_say_50 okX7_sayIn ml_X7_144 rfl rfl rfl rfl (c_sayIn hR hg hh hc) ?_
        rintro _ M' ⟨rfl, hR2, hF2⟩
        refine xw_ireti dX7_say_53 rfl ?_
        exact ⟨rfl, hR2, hF2⟩
    · exfalso; first | contradiction | omega
  · exfalso; first | contradiction | omega
end SAYC
