section ASKS
variable {g : XG} {l : Launch} {d : Nat} {M : XM}
/-- the trace, more numbers behind it: the class's, the reference's -/
def wrC : XM → Nat → List Nat → XM
  | M, _, [] => M
  | M, n, b :: bs => wrC (xup (xup M 48 n (nI b)) 47 1 (nI (n + 1))) (n + 1) bs
def wrM : XM → Nat → List Nat → XM
  | M, _, [] => M
  | M, n, b :: bs => wrM (xup (xup M 60 n (nI b)) 49 20 (nI (n + 1))) (n + 1) bs
theorem wrC_at : ∀ (l : List Nat) (M : XM) (n a b : Nat), (a ≠ 48 ∧ ¬ (a = 47 ∧ b = 1)) → (wrC M n l).1 a b = M.1 a b
  | [], _, _, _, _, _ => rfl
  | c :: l, M, n, a, b, h => by rw [wrC, wrC_at l _ _ a b h, xup_at, if_neg h.2, xup_cell _ _ h.1]
theorem wrM_at : ∀ (l : List Nat) (M : XM) (n a b : Nat), (a ≠ 60 ∧ ¬ (a = 49 ∧ b = 20)) → (wrM M n l).1 a b = M.1 a b
  | [], _, _, _, _, _ => rfl
  | c :: l, M, n, a, b, h => by rw [wrM, wrM_at l _ _ a b h, xup_at, if_neg h.2, xup_cell _ _ h.1]
theorem wrC_app : ∀ (l1 l2 : List Nat) (M : XM) (n : Nat), wrC (wrC M n l1) (n + l1.length) l2 = wrC M n (l1 ++ l2)
  | [], _, _, _ => rfl
  | c :: l1, l2, M, n => by rw [wrC, List.length_cons, show n + (l1.length + 1) = n + 1 + l1.length by omega, wrC_app l1 l2]; rfl
theorem wrM_app : ∀ (l1 l2 : List Nat) (M : XM) (n : Nat), wrM (wrM M n l1) (n + l1.length) l2 = wrM M n (l1 ++ l2)
  | [], _, _, _ => rfl
  | c :: l1, l2, M, n => by rw [wrM, List.length_cons, show n + (l1.length + 1) = n + 1 + l1.length by omega, wrM_app l1 l2]; rfl
theorem wrC_n : ∀ (l : List Nat) (M : XM) (n : Nat), M.1 47 1 = nI n → (wrC M n l).1 47 1 = nI (n + l.length)
  | [], _, _, h => h
  | c :: l, M, n, _ => by rw [wrC, wrC_n l _ _ (xup_same _ _ _ _), List.length_cons, show n + 1 + l.length = n + (l.length + 1) by omega]
theorem wrM_n : ∀ (l : List Nat) (M : XM) (n : Nat), M.1 49 20 = nI n → (wrM M n l).1 49 20 = nI (n + l.length)
  | [], _, _, h => h
  | c :: l, M, n, _ => by rw [wrM, wrM_n l _ _ (xup_same _ _ _ _), List.length_cons, show n + 1 + l.length = n + (l.length + 1) by omega]
theorem wrC_2 : ∀ (l : List Nat) (M : XM) (n : Nat), (wrC M n l).2 = M.2 | [], _, _ => rfl | c :: l, M, n => by rw [wrC, wrC_2 l]; rfl
theorem wrM_2 : ∀ (l : List Nat) (M : XM) (n : Nat), (wrM M n l).2 = M.2 | [], _, _ => rfl | c :: l, M, n => by rw [wrM, wrM_2 l]; rfl
/-- what a body gives, and which bodies begin with it -/
def s10 (D : FD) (h : Nat) : Int32 := nI (dW D h * dH D h)
def m21 (P h : Nat) : Int32 := nI h + nI (px P h)
def m22 (P h : Nat) : Int32 := m21 P h - 1000
def m24 (P h : Nat) : Int32 := 2 * m22 P h
def s13 (D : FD) (h : Nat) : Int32 := s10 D h - 100
def m23 (D : FD) (h : Nat) : Int32 := nI h - s13 D h
def markV (D : FD) (P h : Nat) : Int32 := if dK D h = 1 then m23 D h else if dK D h = 4 then m22 P h else if dK D h = 5 then m24 P h else m21 P h
def markT (k : Nat) : List Nat := if k = 1 then [23, 20, 13, 10] else if k = 4 then [22, 21, 20] else if k = 5 then [24, 22, 21, 20] else [21, 20]
def s11 (D : FD) (P h : Nat) : Int32 := s10 D h + markV D P h
def sizeV (D : FD) (P h : Nat) : Int32 := if dK D h = 1 then s13 D h else if dK D h = 3 then - s11 D P h else if dK D h = 5 then 2 * s11 D P h else s11 D P h
def sizeT (k : Nat) : List Nat := if k = 1 then [13, 10] else if k = 3 then 12 :: 11 :: 10 :: markT k else if k = 5 then 14 :: 11 :: 10 :: markT k else 11 :: 10 :: markT k
theorem markT_len (k : Nat) : (markT k).length ≤ 4 := by unfold markT; split <;> (try split) <;> (try split) <;> simp
theorem FCS.wr {M : XM} {D : FD} (h : FCS M 8 D) (n : Nat) (l : List Nat) : FCS (wrC M n l) 8 D := h.keep (fun b _ => wrC_at l M n 8 b (by omega)) (fun c b h1 h2 => wrC_at l M n c b (by omega))
theorem FMS.wr {M : XM} {D : FD} (h : FMS M 54 D) (n : Nat) (l : List Nat) : FMS (wrM M n l) 54 D := h.keep2 (fun b _ _ => wrM_at l M n 54 b (by omega))
theorem XMP.wr {M : XM} {P : Nat} (h : XMP M 54 P) (n : Nat) (l : List Nat) : XMP (wrM M n l) 54 P := fun k hk => by rw [wrM_at l M n 54 _ (by omega)]; exact h k hk
/-- which body is told for a kind -/
def bodyN (k what : Nat) : Nat := if what = 0 then (if k = 0 then 10 else if k = 1 then 13 else if k = 3 then 12 else if k = 5 then 14 else 11) else (if k = 0 then 20 else if k = 1 then 23 else if k = 4 then 22 else if k = 5 then 24 else 21)
set_option maxRecDepth 20000 in
theorem s_X0_leaveTrace {n b : Nat} (hn : M.1 47 1 = nI n) (h : n < 16) : XC g l mX0_leaveTrace d [xr 47, xi (nI b)] M (XE none (wrC M n [b])) := by
  show XW g l mX0_leaveTrace _ 0 [some (xr 47), some (xi (nI b))] [] M _
  refine xw_aload_n dX0_leaveTrace_0 rfl ?_
  refine xw_getV dX0_leaveTrace_1 fl_X0_15 rfl rfl (hn) ?_
  refine xw_bipush (v := 16) dX0_leaveTrace_4 (by decide) ?_
  refine xw_icmp_geN (b := 16) (tgt := 29) dX0_leaveTrace_6 (by decide) (by omega) (fun c6 => ?_) (fun c6 => ?_)
  · exfalso; omega
  · refine xw_aload_n dX0_leaveTrace_9 rfl ?_
    refine xw_getR dX0_leaveTrace_10 fl_X0_11 rfl rfl ?_
    refine xw_aload_n dX0_leaveTrace_13 rfl ?_
    refine xw_getV dX0_leaveTrace_14 fl_X0_15 rfl rfl (hn) ?_
    refine xw_iload_n dX0_leaveTrace_17 rfl ?_
    refine xw_iasN _ dX0_leaveTrace_18 rfl (rfl) rfl ?_ ?_
    · omega
    refine xw_aload_n dX0_leaveTrace_19 rfl ?_
    refine xw_dup dX0_leaveTrace_20 rfl ?_
    refine xw_getV dX0_leaveTrace_21 fl_X0_15 rfl rfl (show _ = nI n by rw [xup_cell _ _ (by decide)]; exact hn) ?_
    refine xw_iconst (v := 1) dX0_leaveTrace_24 (by decide) ?_
    refine xw_iaddN (b := 1) dX0_leaveTrace_25 ?_
    refine xw_putI dX0_leaveTrace_26 fp_X0_15 rfl rfl ?_
    refine xw_ret dX0_leaveTrace_29 rfl ?_
    first | exact ⟨rfl, rfl⟩ | exact ⟨rfl, by simp_all⟩
set_option maxRecDepth 20000 in
theorem s_X8_leave {n b : Nat} (hn : M.1 49 20 = nI n) (h : n < 16) : XC g l mX8_leave d [xr 49, xi (nI b)] M (XE none (wrM M n [b])) := by
  show XW g l mX8_leave _ 0 [some (xr 49), some (xi (nI b))] [] M _
  refine xw_aload_n dX8_leave_0 rfl ?_
  refine xw_getV dX8_leave_1 fl_X8_252 rfl rfl (hn) ?_
  refine xw_bipush (v := 16) dX8_leave_4 (by decide) ?_
  refine xw_icmp_geN (b := 16) (tgt := 29) dX8_leave_6 (by decide) (by omega) (fun c6 => ?_) (fun c6 => ?_)
  · exfalso; omega
  · refine xw_aload_n dX8_leave_9 rfl ?_
    refine xw_getR dX8_leave_10 fl_X8_41 rfl rfl ?_
    refine xw_aload_n dX8_leave_13 rfl ?_
    refine xw_getV dX8_leave_14 fl_X8_252 rfl rfl (hn) ?_
    refine xw_iload_n dX8_leave_17 rfl ?_
    refine xw_iasN _ dX8_leave_18 rfl (rfl) rfl ?_ ?_
    · omega
    refine xw_aload_n dX8_leave_19 rfl ?_
    refine xw_dup dX8_leave_20 rfl ?_
    refine xw_getV dX8_leave_21 fl_X8_252 rfl rfl (show _ = nI n by rw [xup_cell _ _ (by decide)]; exact hn) ?_
    refine xw_iconst (v := 1) dX8_leave_24 (by decide) ?_
    refine xw_iaddN (b := 1) dX8_leave_25 ?_
    refine xw_putI dX8_leave_26 fp_X8_252 rfl rfl ?_
    refine xw_ret dX8_leave_29 rfl ?_
    first | exact ⟨rfl, rfl⟩ | exact ⟨rfl, by simp_all⟩
def tbN (what cur : Nat) : Nat := if what = 0 then [10, 13, 11, 12, 0, 14].getD cur 0 else [20, 23, 21, 0, 22, 24].getD cur 0
theorem tb_1 {c : Nat} (h : c < 6) : xtab 1 c = nI (tbN 0 c) := by rcases k6 h with rfl | rfl | rfl | rfl | rfl | rfl <;> rfl
theorem tb_2 {c : Nat} (h : c < 6) : xtab 2 c = nI (tbN 1 c) := by rcases k6 h with rfl | rfl | rfl | rfl | rfl | rfl <;> rfl
theorem tb_lt (w : Nat) {c : Nat} (h : c < 6) : tbN w c < 100 := by unfold tbN; split <;> rcases k6 h with rfl | rfl | rfl | rfl | rfl | rfl <;> decide
theorem bodyN_no {w c : Nat} (hw : w < 2) (h : c < 6) (h0 : tbN w c = 0) : bodyN c w = bodyN (abv c) w ∧ dep (abv c) < dep c := by
  rcases (show w = 0 ∨ w = 1 by omega) with rfl | rfl <;> rcases k6 h with rfl | rfl | rfl | rfl | rfl | rfl <;> first | exact absurd h0 (by decide) | decide
theorem bodyN_yes {w c : Nat} (hw : w < 2) (h : c < 6) (h0 : ¬ tbN w c = 0) : bodyN c w = tbN w c := by
  rcases (show w = 0 ∨ w = 1 by omega) with rfl | rfl <;> rcases k6 h with rfl | rfl | rfl | rfl | rfl | rfl <;> first | rfl | exact absurd rfl h0
set_option maxRecDepth 20000 in
theorem lp_X0_bodyFor_0 {k : Nat} : ∀ (p q c : Nat) (v5 : Option XV), q + p = 6 → c < 6 → dep c < p → XW g l mX0_bodyFor (d + 1) 5 [some (xr 47), some (xi (nI k)), some (xi (nI 0)), some (xi (nI c)), some (xi (nI q)), v5] [] M (XE (some (xi (nI (bodyN c 0)))) M) := by
  intro p
  induction p with
  | zero =>
    intro q c v5 hq hc h0
    omega
  | succ p ih =>
    intro q c v5 hq hc h0
    have ht := tb_lt 0 hc
    refine xw_iload dX0_bodyFor_5 rfl ?_
    refine xw_bipush (v := 6) dX0_bodyFor_7 (by decide) ?_
    refine xw_icmp_geN (b := 6) (tgt := 50) dX0_bodyFor_9 (by decide) (by omega) (fun c9 => ?_) (fun c9 => ?_)
    · exfalso; omega
    · refine xw_iload_n dX0_bodyFor_12 rfl ?_
      refine xw_if_ne (tgt := 24) dX0_bodyFor_13 (by decide) (fun q9 => absurd q9 (by decide)) (fun _ => ?_)
      refine xw_getsT (j := 1) dX0_bodyFor_16 (by decide) fs_X0_38 ?_
      refine xw_iload_n dX0_bodyFor_19 rfl ?_
      refine xw_ialTN (j := 1) _ dX0_bodyFor_20 rfl (by decide) (rfl) (tb_1 hc) ?_ ?_
      · omega
      refine xw_goto (tgt := 29) dX0_bodyFor_21 (by decide) ?_
      refine xw_istore dX0_bodyFor_29 rfl rfl ?_
      refine xw_iload dX0_bodyFor_31 rfl ?_
      refine xw_if_eqN (tgt := 39) dX0_bodyFor_33 (by decide) (by omega) (fun c33 => ?_) (fun c33 => ?_)
      · refine xw_iload_n dX0_bodyFor_39 rfl ?_
        refine xw_cS1E dX0_bodyFor_40 okX4_parentOf ml_X0_44 rfl rfl (s_X4_parentOf hc) ?_
        refine xw_istore_n dX0_bodyFor_43 rfl rfl ?_
        refine xw_iincN (v := 1) dX0_bodyFor_44 (by decide) rfl rfl rfl ?_
        refine xw_goto (tgt := 5) dX0_bodyFor_47 (by decide) ?_
        obtain ⟨e8, e9⟩ := bodyN_no (w := 0) (by decide) hc c33
        rw [e8]
        exact ih (q + 1) (abv c) _ (by omega) (abv_lt c) (by omega)
      · refine xw_iload dX0_bodyFor_36 rfl ?_
        refine xw_ireti dX0_bodyFor_38 rfl ?_
        exact ⟨by rw [bodyN_yes (by decide) hc c33], rfl⟩
set_option maxRecDepth 20000 in
theorem s_X0_bodyFor_0 {k : Nat} (hk : k < 6) : XC g l mX0_bodyFor (d + 1) [xr 47, xi (nI k), xi (nI 0)] M (XE (some (xi (nI (bodyN k 0)))) M) := by
  have e0 : dep k < 6 := by rcases k6 hk with rfl | rfl | rfl | rfl | rfl | rfl <;> decide
  show XW g l mX0_bodyFor _ 0 [some (xr 47), some (xi (nI k)), some (xi (nI 0)), none, none, none] [] M _
  refine xw_iload_n dX0_bodyFor_0 rfl ?_
  refine xw_istore_n dX0_bodyFor_1 rfl rfl ?_
  refine xw_iconst (v := 0) dX0_bodyFor_2 (by decide) ?_
  refine xw_istore dX0_bodyFor_3 rfl rfl ?_
  exact lp_X0_bodyFor_0 6 0 k none (by omega) hk e0
set_option maxRecDepth 20000 in
theorem lp_X0_bodyFor_1 {k : Nat} : ∀ (p q c : Nat) (v5 : Option XV), q + p = 6 → c < 6 → dep c < p → XW g l mX0_bodyFor (d + 1) 5 [some (xr 47), some (xi (nI k)), some (xi (nI 1)), some (xi (nI c)), some (xi (nI q)), v5] [] M (XE (some (xi (nI (bodyN c 1)))) M) := by
  intro p
  induction p with
  | zero =>
    intro q c v5 hq hc h0
    omega
  | succ p ih =>
    intro q c v5 hq hc h0
    have ht := tb_lt 1 hc
    refine xw_iload dX0_bodyFor_5 rfl ?_
    refine xw_bipush (v := 6) dX0_bodyFor_7 (by decide) ?_
    refine xw_icmp_geN (b := 6) (tgt := 50) dX0_bodyFor_9 (by decide) (by omega) (fun c9 => ?_) (fun c9 => ?_)
    · exfalso; omega
    · refine xw_iload_n dX0_bodyFor_12 rfl ?_
      refine xw_if_ne (tgt := 24) dX0_bodyFor_13 (by decide) (fun _ => ?_) (fun q9 => absurd q9 (by decide))
      refine xw_getsT (j := 2) dX0_bodyFor_24 (by decide) fs_X0_41 ?_
      refine xw_iload_n dX0_bodyFor_27 rfl ?_
      refine xw_ialTN (j := 2) _ dX0_bodyFor_28 rfl (by decide) (rfl) (tb_2 hc) ?_ ?_
      · omega
      refine xw_istore dX0_bodyFor_29 rfl rfl ?_
      refine xw_iload dX0_bodyFor_31 rfl ?_
      refine xw_if_eqN (tgt := 39) dX0_bodyFor_33 (by decide) (by omega) (fun c33 => ?_) (fun c33 => ?_)
      · refine xw_iload_n dX0_bodyFor_39 rfl ?_
        refine xw_cS1E dX0_bodyFor_40 okX4_parentOf ml_X0_44 rfl rfl (s_X4_parentOf hc) ?_
        refine xw_istore_n dX0_bodyFor_43 rfl rfl ?_
        refine xw_iincN (v := 1) dX0_bodyFor_44 (by decide) rfl rfl rfl ?_
        refine xw_goto (tgt := 5) dX0_bodyFor_47 (by decide) ?_
        obtain ⟨e8, e9⟩ := bodyN_no (w := 1) (by decide) hc c33
        rw [e8]
        exact ih (q + 1) (abv c) _ (by omega) (abv_lt c) (by omega)
      · refine xw_iload dX0_bodyFor_36 rfl ?_
        refine xw_ireti dX0_bodyFor_38 rfl ?_
        exact ⟨by rw [bodyN_yes (by decide) hc c33], rfl⟩
set_option maxRecDepth 20000 in
theorem s_X0_bodyFor_1 {k : Nat} (hk : k < 6) : XC g l mX0_bodyFor (d + 1) [xr 47, xi (nI k), xi (nI 1)] M (XE (some (xi (nI (bodyN k 1)))) M) := by
  have e0 : dep k < 6 := by rcases k6 hk with rfl | rfl | rfl | rfl | rfl | rfl <;> decide
  show XW g l mX0_bodyFor _ 0 [some (xr 47), some (xi (nI k)), some (xi (nI 1)), none, none, none] [] M _
  refine xw_iload_n dX0_bodyFor_0 rfl ?_
  refine xw_istore_n dX0_bodyFor_1 rfl rfl ?_
  refine xw_iconst (v := 0) dX0_bodyFor_2 (by decide) ?_
  refine xw_istore dX0_bodyFor_3 rfl rfl ?_
  exact lp_X0_bodyFor_1 6 0 k none (by omega) hk e0
set_option maxRecDepth 20000 in
theorem s_given_10 {D : FD} {P h n e : Nat} (hC : FCS M 8 D) (hX : M.1 8 3 = nI P) (hP : P < 2 ^ 24) (hh : h < dn D) (hn : M.1 47 1 = nI n) (hn2 : n ≤ 15) (he : e ≤ 40)  : XC g l mX0_given (d + 1) [xr 47, xr 8, xi (nI h), xi (nI 10), xi (nI e)] M (XE (some (xi (s10 D h))) (wrC M n ([10]))) := by
  have hn6 := hC.1
  have hK := hC.2.2.2.2.2.2.2.2.1
  have hW := hC.2.2.2.2.2.2.2.2.2.2.1
  have hH := hC.2.2.2.2.2.2.2.2.2.2.2.1
  have hG := hC.2.2.2.2.2.2.2.2.2.2.2.2 h hh
  show XW g l mX0_given _ 0 [some (xr 47), some (xr 8), some (xi (nI h)), some (xi (nI 10)), some (xi (nI e))] [] M _
  refine xw_iload dX0_given_0 rfl ?_
  refine xw_bipush (v := 40) dX0_given_2 (by decide) ?_
  refine xw_icmp_leN (b := 40) (tgt := 9) dX0_given_4 (by decide) (by omega) (fun c4 => ?_) (fun c4 => ?_)
  · refine xw_aload_n dX0_given_9 rfl ?_
    refine xw_iload_n dX0_given_10 rfl ?_
    refine xw_cV1N dX0_given_11 okX0_leaveTrace ml_X0_48 rfl rfl rfl rfl (s_X0_leaveTrace (b := 10) hn (by omega)) ?_
    refine xw_iload_n dX0_given_14 rfl ?_
    refine xw_tabIn (off := 73) (tgt := 88) dX0_given_15 (by decide) (by decide) (by decide) (by decide) ?_
    refine xw_aload_n dX0_given_88 rfl ?_
    refine xw_getR dX0_given_89 fl_X0_52 rfl rfl ?_
    refine xw_iload_n dX0_given_92 rfl ?_
    refine xw_ialN _ dX0_given_93 rfl (rfl) (show _ = nI (dW D h) by rw [wrC_at _ _ _ _ _ (by omega)]; exact hW h hh) rfl ?_ ?_
    · omega
    refine xw_aload_n dX0_given_94 rfl ?_
    refine xw_getR dX0_given_95 fl_X0_55 rfl rfl ?_
    refine xw_iload_n dX0_given_98 rfl ?_
    refine xw_ialN _ dX0_given_99 rfl (rfl) (show _ = nI (dH D h) by rw [wrC_at _ _ _ _ _ (by omega)]; exact hH h hh) rfl ?_ ?_
    · omega
    refine xw_imulN dX0_given_100 ?_
    refine xw_ireti dX0_given_101 rfl ?_
    first | exact ⟨rfl, rfl⟩ | exact ⟨by simp_all, rfl⟩ | grind [XE]
  · exfalso; omega
set_option maxRecDepth 20000 in
theorem s_given_20 {D : FD} {P h n e : Nat} (hC : FCS M 8 D) (hX : M.1 8 3 = nI P) (hP : P < 2 ^ 24) (hh : h < dn D) (hn : M.1 47 1 = nI n) (hn2 : n ≤ 15) (he : e ≤ 40)  : XC g l mX0_given (d + 1) [xr 47, xr 8, xi (nI h), xi (nI 20), xi (nI e)] M (XE (some (xi (nI h))) (wrC M n ([20]))) := by
  have hn6 := hC.1
  have hK := hC.2.2.2.2.2.2.2.2.1
  have hW := hC.2.2.2.2.2.2.2.2.2.2.1
  have hH := hC.2.2.2.2.2.2.2.2.2.2.2.1
  have hG := hC.2.2.2.2.2.2.2.2.2.2.2.2 h hh
  show XW g l mX0_given _ 0 [some (xr 47), some (xr 8), some (xi (nI h)), some (xi (nI 20)), some (xi (nI e))] [] M _
  refine xw_iload dX0_given_0 rfl ?_
  refine xw_bipush (v := 40) dX0_given_2 (by decide) ?_
  refine xw_icmp_leN (b := 40) (tgt := 9) dX0_given_4 (by decide) (by omega) (fun c4 => ?_) (fun c4 => ?_)
  · refine xw_aload_n dX0_given_9 rfl ?_
    refine xw_iload_n dX0_given_10 rfl ?_
    refine xw_cV1N dX0_given_11 okX0_leaveTrace ml_X0_48 rfl rfl rfl rfl (s_X0_leaveTrace (b := 20) hn (by omega)) ?_
    refine xw_iload_n dX0_given_14 rfl ?_
    refine xw_tabIn (off := 155) (tgt := 170) dX0_given_15 (by decide) (by decide) (by decide) (by decide) ?_
    refine xw_iload_n dX0_given_170 rfl ?_
    refine xw_ireti dX0_given_171 rfl ?_
    first | exact ⟨rfl, rfl⟩ | exact ⟨by simp_all, rfl⟩ | grind [XE]
  · exfalso; omega
set_option maxRecDepth 20000 in
theorem s_given_21 {D : FD} {P h n e : Nat} (hC : FCS M 8 D) (hX : M.1 8 3 = nI P) (hP : P < 2 ^ 24) (hh : h < dn D) (hn : M.1 47 1 = nI n) (hn2 : n ≤ 14) (he : e ≤ 39)  : XC g l mX0_given (d + 2) [xr 47, xr 8, xi (nI h), xi (nI 21), xi (nI e)] M (XE (some (xi (m21 P h))) (wrC M n ([21, 20]))) := by
  have hn6 := hC.1
  have hK := hC.2.2.2.2.2.2.2.2.1
  have hW := hC.2.2.2.2.2.2.2.2.2.2.1
  have hH := hC.2.2.2.2.2.2.2.2.2.2.2.1
  have hG := hC.2.2.2.2.2.2.2.2.2.2.2.2 h hh
  show XW g l mX0_given _ 0 [some (xr 47), some (xr 8), some (xi (nI h)), some (xi (nI 21)), some (xi (nI e))] [] M _
  refine xw_iload dX0_given_0 rfl ?_
  refine xw_bipush (v := 40) dX0_given_2 (by decide) ?_
  refine xw_icmp_leN (b := 40) (tgt := 9) dX0_given_4 (by decide) (by omega) (fun c4 => ?_) (fun c4 => ?_)
  · refine xw_aload_n dX0_given_9 rfl ?_
    refine xw_iload_n dX0_given_10 rfl ?_
    refine xw_cV1N dX0_given_11 okX0_leaveTrace ml_X0_48 rfl rfl rfl rfl (s_X0_leaveTrace (b := 21) hn (by omega)) ?_
    refine xw_iload_n dX0_given_14 rfl ?_
    refine xw_tabIn (off := 157) (tgt := 172) dX0_given_15 (by decide) (by decide) (by decide) (by decide) ?_
    refine xw_aload_n dX0_given_172 rfl ?_
    refine xw_aload_n dX0_given_173 rfl ?_
    refine xw_iload_n dX0_given_174 rfl ?_
    refine xw_bipush (v := 20) dX0_given_175 (by decide) ?_
    refine xw_iload dX0_given_177 rfl ?_
    refine xw_iconst (v := 1) dX0_given_179 (by decide) ?_
    refine xw_iaddN (b := 1) dX0_given_180 ?_
    refine xw_cV4E dX0_given_181 okX0_given ml_X0_33 rfl rfl rfl rfl (s_given_20 (hC.wr _ _) ((wrC_at _ _ _ _ _ (by omega)).trans hX) hP hh (wrC_n _ _ _ hn) (by simp only [List.length]; omega) (by omega)) ?_
    refine xw_aload_n dX0_given_184 rfl ?_
    refine xw_aload_n dX0_given_185 rfl ?_
    refine xw_getV dX0_given_186 fl_X0_58 rfl rfl (show _ = nI P by rw [wrC_at _ _ _ _ _ (by omega), wrC_at _ _ _ _ _ (by omega)]; exact hX) ?_
    refine xw_iload_n dX0_given_189 rfl ?_
    refine xw_cV2E dX0_given_190 okX1_xOf ml_X0_61 rfl rfl rfl rfl (s_X1_xOf hP (by omega)) ?_
    refine xw_iadd dX0_given_193 ?_
    refine xw_ireti dX0_given_194 rfl ?_
    first | exact ⟨rfl, rfl⟩ | exact ⟨by simp_all, rfl⟩ | grind [XE]
  · exfalso; omega
set_option maxRecDepth 20000 in
theorem s_given_22 {D : FD} {P h n e : Nat} (hC : FCS M 8 D) (hX : M.1 8 3 = nI P) (hP : P < 2 ^ 24) (hh : h < dn D) (hn : M.1 47 1 = nI n) (hn2 : n ≤ 13) (he : e ≤ 38)  : XC g l mX0_given (d + 3) [xr 47, xr 8, xi (nI h), xi (nI 22), xi (nI e)] M (XE (some (xi (m22 P h))) (wrC M n ([22, 21, 20]))) := by
  have hn6 := hC.1
  have hK := hC.2.2.2.2.2.2.2.2.1
  have hW := hC.2.2.2.2.2.2.2.2.2.2.1
  have hH := hC.2.2.2.2.2.2.2.2.2.2.2.1
  have hG := hC.2.2.2.2.2.2.2.2.2.2.2.2 h hh
  show XW g l mX0_given _ 0 [some (xr 47), some (xr 8), some (xi (nI h)), some (xi (nI 22)), some (xi (nI e))] [] M _
  refine xw_iload dX0_given_0 rfl ?_
  refine xw_bipush (v := 40) dX0_given_2 (by decide) ?_
  refine xw_icmp_leN (b := 40) (tgt := 9) dX0_given_4 (by decide) (by omega) (fun c4 => ?_) (fun c4 => ?_)
  · refine xw_aload_n dX0_given_9 rfl ?_
    refine xw_iload_n dX0_given_10 rfl ?_
    refine xw_cV1N dX0_given_11 okX0_leaveTrace ml_X0_48 rfl rfl rfl rfl (s_X0_leaveTrace (b := 22) hn (by omega)) ?_
    refine xw_iload_n dX0_given_14 rfl ?_
    refine xw_tabIn (off := 180) (tgt := 195) dX0_given_15 (by decide) (by decide) (by decide) (by decide) ?_
    refine xw_aload_n dX0_given_195 rfl ?_
    refine xw_aload_n dX0_given_196 rfl ?_
    refine xw_iload_n dX0_given_197 rfl ?_
    refine xw_bipush (v := 21) dX0_given_198 (by decide) ?_
    refine xw_iload dX0_given_200 rfl ?_
    refine xw_iconst (v := 1) dX0_given_202 (by decide) ?_
    refine xw_iaddN (b := 1) dX0_given_203 ?_
    refine xw_cV4E dX0_given_204 okX0_given ml_X0_33 rfl rfl rfl rfl (s_given_21 (hC.wr _ _) ((wrC_at _ _ _ _ _ (by omega)).trans hX) hP hh (wrC_n _ _ _ hn) (by simp only [List.length]; omega) (by omega)) ?_
    refine xw_sipush (v := 1000) dX0_given_207 (by decide) ?_
    refine xw_isub dX0_given_210 ?_
    refine xw_ireti dX0_given_211 rfl ?_
    first | exact ⟨rfl, rfl⟩ | exact ⟨by simp_all, rfl⟩ | grind [XE]
  · exfalso; omega
set_option maxRecDepth 20000 in
theorem s_given_24 {D : FD} {P h n e : Nat} (hC : FCS M 8 D) (hX : M.1 8 3 = nI P) (hP : P < 2 ^ 24) (hh : h < dn D) (hn : M.1 47 1 = nI n) (hn2 : n ≤ 12) (he : e ≤ 37)  : XC g l mX0_given (d + 4) [xr 47, xr 8, xi (nI h), xi (nI 24), xi (nI e)] M (XE (some (xi (m24 P h))) (wrC M n ([24, 22, 21, 20]))) := by
  have hn6 := hC.1
  have hK := hC.2.2.2.2.2.2.2.2.1
  have hW := hC.2.2.2.2.2.2.2.2.2.2.1
  have hH := hC.2.2.2.2.2.2.2.2.2.2.2.1
  have hG := hC.2.2.2.2.2.2.2.2.2.2.2.2 h hh
  show XW g l mX0_given _ 0 [some (xr 47), some (xr 8), some (xi (nI h)), some (xi (nI 24)), some (xi (nI e))] [] M _
  refine xw_iload dX0_given_0 rfl ?_
  refine xw_bipush (v := 40) dX0_given_2 (by decide) ?_
  refine xw_icmp_leN (b := 40) (tgt := 9) dX0_given_4 (by decide) (by omega) (fun c4 => ?_) (fun c4 => ?_)
  · refine xw_aload_n dX0_given_9 rfl ?_
    refine xw_iload_n dX0_given_10 rfl ?_
    refine xw_cV1N dX0_given_11 okX0_leaveTrace ml_X0_48 rfl rfl rfl rfl (s_X0_leaveTrace (b := 24) hn (by omega)) ?_
    refine xw_iload_n dX0_given_14 rfl ?_
    refine xw_tabIn (off := 220) (tgt := 235) dX0_given_15 (by decide) (by decide) (by decide) (by decide) ?_
    refine xw_iconst (v := 2) dX0_given_235 (by decide) ?_
    refine xw_aload_n dX0_given_236 rfl ?_
    refine xw_aload_n dX0_given_237 rfl ?_
    refine xw_iload_n dX0_given_238 rfl ?_
    refine xw_bipush (v := 22) dX0_given_239 (by decide) ?_
    refine xw_iload dX0_given_241 rfl ?_
    refine xw_iconst (v := 1) dX0_given_243 (by decide) ?_
    refine xw_iaddN (b := 1) dX0_given_244 ?_
    refine xw_cV4E dX0_given_245 okX0_given ml_X0_33 rfl rfl rfl rfl (s_given_22 (hC.wr _ _) ((wrC_at _ _ _ _ _ (by omega)).trans hX) hP hh (wrC_n _ _ _ hn) (by simp only [List.length]; omega) (by omega)) ?_
    refine xw_imul dX0_given_248 ?_
    refine xw_ireti dX0_given_249 rfl ?_
    first | exact ⟨rfl, rfl⟩ | exact ⟨by simp_all, rfl⟩ | grind [XE]
  · exfalso; omega
set_option maxRecDepth 20000 in
theorem s_given_13 {D : FD} {P h n e : Nat} (hC : FCS M 8 D) (hX : M.1 8 3 = nI P) (hP : P < 2 ^ 24) (hh : h < dn D) (hn : M.1 47 1 = nI n) (hn2 : n ≤ 14) (he : e ≤ 39)  : XC g l mX0_given (d + 2) [xr 47, xr 8, xi (nI h), xi (nI 13), xi (nI e)] M (XE (some (xi (s13 D h))) (wrC M n ([13, 10]))) := by
  have hn6 := hC.1
  have hK := hC.2.2.2.2.2.2.2.2.1
  have hW := hC.2.2.2.2.2.2.2.2.2.2.1
  have hH := hC.2.2.2.2.2.2.2.2.2.2.2.1
  have hG := hC.2.2.2.2.2.2.2.2.2.2.2.2 h hh
  show XW g l mX0_given _ 0 [some (xr 47), some (xr 8), some (xi (nI h)), some (xi (nI 13)), some (xi (nI e))] [] M _
  refine xw_iload dX0_given_0 rfl ?_
  refine xw_bipush (v := 40) dX0_given_2 (by decide) ?_
  refine xw_icmp_leN (b := 40) (tgt := 9) dX0_given_4 (by decide) (by omega) (fun c4 => ?_) (fun c4 => ?_)
  · refine xw_aload_n dX0_given_9 rfl ?_
    refine xw_iload_n dX0_given_10 rfl ?_
    refine xw_cV1N dX0_given_11 okX0_leaveTrace ml_X0_48 rfl rfl rfl rfl (s_X0_leaveTrace (b := 13) hn (by omega)) ?_
    refine xw_iload_n dX0_given_14 rfl ?_
    refine xw_tabIn (off := 124) (tgt := 139) dX0_given_15 (by decide) (by decide) (by decide) (by decide) ?_
    refine xw_aload_n dX0_given_139 rfl ?_
    refine xw_aload_n dX0_given_140 rfl ?_
    refine xw_iload_n dX0_given_141 rfl ?_
    refine xw_bipush (v := 10) dX0_given_142 (by decide) ?_
    refine xw_iload dX0_given_144 rfl ?_
    refine xw_iconst (v := 1) dX0_given_146 (by decide) ?_
    refine xw_iaddN (b := 1) dX0_given_147 ?_
    refine xw_cV4E dX0_given_148 okX0_given ml_X0_33 rfl rfl rfl rfl (s_given_10 (hC.wr _ _) ((wrC_at _ _ _ _ _ (by omega)).trans hX) hP hh (wrC_n _ _ _ hn) (by simp only [List.length]; omega) (by omega)) ?_
    refine xw_bipush (v := 100) dX0_given_151 (by decide) ?_
    refine xw_isub dX0_given_153 ?_
    refine xw_ireti dX0_given_154 rfl ?_
    first | exact ⟨rfl, rfl⟩ | exact ⟨by simp_all, rfl⟩ | grind [XE]
  · exfalso; omega
set_option maxRecDepth 20000 in
theorem s_asked_s1 {D : FD} {P h n e : Nat} (hC : FCS M 8 D) (hX : M.1 8 3 = nI P) (hP : P < 2 ^ 24) (hh : h < dn D) (hn : M.1 47 1 = nI n) (hn2 : n ≤ 14) (he : e ≤ 38) (hk : dK D h = 1) : XC g l mX0_asked (d + 3) [xr 47, xr 8, xi (nI h), xi (nI 0), xi (nI e)] M (XE (some (xi (s13 D h))) (wrC M n ([13, 10]))) := by
  have hn6 := hC.1
  have hK := hC.2.2.2.2.2.2.2.2.1
  have hW := hC.2.2.2.2.2.2.2.2.2.2.1
  have hH := hC.2.2.2.2.2.2.2.2.2.2.2.1
  have hG := hC.2.2.2.2.2.2.2.2.2.2.2.2 h hh
  show XW g l mX0_asked _ 0 [some (xr 47), some (xr 8), some (xi (nI h)), some (xi (nI 0)), some (xi (nI e))] [] M _
  refine xw_aload_n dX0_asked_0 rfl ?_
  refine xw_aload_n dX0_asked_1 rfl ?_
  refine xw_iload_n dX0_asked_2 rfl ?_
  refine xw_aload_n dX0_asked_3 rfl ?_
  refine xw_aload_n dX0_asked_4 rfl ?_
  refine xw_getR dX0_asked_5 fl_X0_24 rfl rfl ?_
  refine xw_iload_n dX0_asked_8 rfl ?_
  refine xw_ialN _ dX0_asked_9 rfl (rfl) (hK h hh) rfl ?_ ?_
  · omega
  refine xw_iload_n dX0_asked_10 rfl ?_
  refine xw_cV2E dX0_asked_11 okX0_bodyFor ml_X0_29 rfl rfl rfl rfl (s_X0_bodyFor_0 (by omega)) ?_
  rw [show bodyN (dK D h) 0 = 13 by rw [hk]; rfl]
  refine xw_iload dX0_asked_14 rfl ?_
  refine xw_iconst (v := 1) dX0_asked_16 (by decide) ?_
  refine xw_iaddN (b := 1) dX0_asked_17 ?_
  refine xw_cV4E dX0_asked_18 okX0_given ml_X0_33 rfl rfl rfl rfl (s_given_13 hC hX hP hh hn (by omega) (by omega)) ?_
  refine xw_ireti dX0_asked_21 rfl ?_
  first | exact ⟨rfl, rfl⟩ | exact ⟨by simp_all, rfl⟩ | grind [XE]
set_option maxRecDepth 20000 in
theorem s_given_23 {D : FD} {P h n e : Nat} (hC : FCS M 8 D) (hX : M.1 8 3 = nI P) (hP : P < 2 ^ 24) (hh : h < dn D) (hn : M.1 47 1 = nI n) (hn2 : n ≤ 12) (he : e ≤ 37) (hk : dK D h = 1) : XC g l mX0_given (d + 4) [xr 47, xr 8, xi (nI h), xi (nI 23), xi (nI e)] M (XE (some (xi (m23 D h))) (wrC M n ([23, 20, 13, 10]))) := by
  have hn6 := hC.1
  have hK := hC.2.2.2.2.2.2.2.2.1
  have hW := hC.2.2.2.2.2.2.2.2.2.2.1
  have hH := hC.2.2.2.2.2.2.2.2.2.2.2.1
  have hG := hC.2.2.2.2.2.2.2.2.2.2.2.2 h hh
  show XW g l mX0_given _ 0 [some (xr 47), some (xr 8), some (xi (nI h)), some (xi (nI 23)), some (xi (nI e))] [] M _
  refine xw_iload dX0_given_0 rfl ?_
  refine xw_bipush (v := 40) dX0_given_2 (by decide) ?_
  refine xw_icmp_leN (b := 40) (tgt := 9) dX0_given_4 (by decide) (by omega) (fun c4 => ?_) (fun c4 => ?_)
  · refine xw_aload_n dX0_given_9 rfl ?_
    refine xw_iload_n dX0_given_10 rfl ?_
    refine xw_cV1N dX0_given_11 okX0_leaveTrace ml_X0_48 rfl rfl rfl rfl (s_X0_leaveTrace (b := 23) hn (by omega)) ?_
    refine xw_iload_n dX0_given_14 rfl ?_
    refine xw_tabIn (off := 197) (tgt := 212) dX0_given_15 (by decide) (by decide) (by decide) (by decide) ?_
    refine xw_aload_n dX0_given_212 rfl ?_
    refine xw_aload_n dX0_given_213 rfl ?_
    refine xw_iload_n dX0_given_214 rfl ?_
    refine xw_bipush (v := 20) dX0_given_215 (by decide) ?_
    refine xw_iload dX0_given_217 rfl ?_
    refine xw_iconst (v := 1) dX0_given_219 (by decide) ?_
    refine xw_iaddN (b := 1) dX0_given_220 ?_
    refine xw_cV4E dX0_given_221 okX0_given ml_X0_33 rfl rfl rfl rfl (s_given_20 (hC.wr _ _) ((wrC_at _ _ _ _ _ (by omega)).trans hX) hP hh (wrC_n _ _ _ hn) (by simp only [List.length]; omega) (by omega)) ?_
    refine xw_aload_n dX0_given_224 rfl ?_
    refine xw_aload_n dX0_given_225 rfl ?_
    refine xw_iload_n dX0_given_226 rfl ?_
    refine xw_iconst (v := 0) dX0_given_227 (by decide) ?_
    refine xw_iload dX0_given_228 rfl ?_
    refine xw_cV4E dX0_given_230 okX0_asked ml_X0_19 rfl rfl rfl rfl (s_asked_s1 ((hC.wr _ _).wr _ _) ((wrC_at _ _ _ _ _ (by omega)).trans ((wrC_at _ _ _ _ _ (by omega)).trans hX)) hP hh (wrC_n _ _ _ (wrC_n _ _ _ hn)) (by simp only [List.length]; omega) (by omega) hk) ?_
    refine xw_isub dX0_given_233 ?_
    refine xw_ireti dX0_given_234 rfl ?_
    first | exact ⟨rfl, rfl⟩ | exact ⟨by simp_all, rfl⟩ | grind [XE]
  · exfalso; omega
set_option maxRecDepth 20000 in
theorem s_asked_m1 {D : FD} {P h n e : Nat} (hC : FCS M 8 D) (hX : M.1 8 3 = nI P) (hP : P < 2 ^ 24) (hh : h < dn D) (hn : M.1 47 1 = nI n) (hn2 : n ≤ 12) (he : e ≤ 36) (hk : dK D h = 1) : XC g l mX0_asked (d + 5) [xr 47, xr 8, xi (nI h), xi (nI 1), xi (nI e)] M (XE (some (xi (markV D P h))) (wrC M n (markT (dK D h)))) := by
  have hn6 := hC.1
  have hK := hC.2.2.2.2.2.2.2.2.1
  have hW := hC.2.2.2.2.2.2.2.2.2.2.1
  have hH := hC.2.2.2.2.2.2.2.2.2.2.2.1
  have hG := hC.2.2.2.2.2.2.2.2.2.2.2.2 h hh
  show XW g l mX0_asked _ 0 [some (xr 47), some (xr 8), some (xi (nI h)), some (xi (nI 1)), some (xi (nI e))] [] M _
  refine xw_aload_n dX0_asked_0 rfl ?_
  refine xw_aload_n dX0_asked_1 rfl ?_
  refine xw_iload_n dX0_asked_2 rfl ?_
  refine xw_aload_n dX0_asked_3 rfl ?_
  refine xw_aload_n dX0_asked_4 rfl ?_
  refine xw_getR dX0_asked_5 fl_X0_24 rfl rfl ?_
  refine xw_iload_n dX0_asked_8 rfl ?_
  refine xw_ialN _ dX0_asked_9 rfl (rfl) (hK h hh) rfl ?_ ?_
  · omega
  refine xw_iload_n dX0_asked_10 rfl ?_
  refine xw_cV2E dX0_asked_11 okX0_bodyFor ml_X0_29 rfl rfl rfl rfl (s_X0_bodyFor_1 (by omega)) ?_
  rw [show bodyN (dK D h) 1 = 23 by rw [hk]; rfl, show markV D P h = m23 D h by unfold markV; rw [hk]; rfl, show markT (dK D h) = markT 1 by rw [hk]]
  refine xw_iload dX0_asked_14 rfl ?_
  refine xw_iconst (v := 1) dX0_asked_16 (by decide) ?_
  refine xw_iaddN (b := 1) dX0_asked_17 ?_
  refine xw_cV4E dX0_asked_18 okX0_given ml_X0_33 rfl rfl rfl rfl (s_given_23 hC hX hP hh hn (by omega) (by omega) hk) ?_
  refine xw_ireti dX0_asked_21 rfl ?_
  first | exact ⟨rfl, rfl⟩ | exact ⟨by simp_all, rfl⟩ | grind [XE]
set_option maxRecDepth 20000 in
theorem s_asked_m4 {D : FD} {P h n e : Nat} (hC : FCS M 8 D) (hX : M.1 8 3 = nI P) (hP : P < 2 ^ 24) (hh : h < dn D) (hn : M.1 47 1 = nI n) (hn2 : n ≤ 12) (he : e ≤ 36) (hk : dK D h = 4) : XC g l mX0_asked (d + 5) [xr 47, xr 8, xi (nI h), xi (nI 1), xi (nI e)] M (XE (some (xi (markV D P h))) (wrC M n (markT (dK D h)))) := by
  have hn6 := hC.1
  have hK := hC.2.2.2.2.2.2.2.2.1
  have hW := hC.2.2.2.2.2.2.2.2.2.2.1
  have hH := hC.2.2.2.2.2.2.2.2.2.2.2.1
  have hG := hC.2.2.2.2.2.2.2.2.2.2.2.2 h hh
  show XW g l mX0_asked _ 0 [some (xr 47), some (xr 8), some (xi (nI h)), some (xi (nI 1)), some (xi (nI e))] [] M _
  refine xw_aload_n dX0_asked_0 rfl ?_
  refine xw_aload_n dX0_asked_1 rfl ?_
  refine xw_iload_n dX0_asked_2 rfl ?_
  refine xw_aload_n dX0_asked_3 rfl ?_
  refine xw_aload_n dX0_asked_4 rfl ?_
  refine xw_getR dX0_asked_5 fl_X0_24 rfl rfl ?_
  refine xw_iload_n dX0_asked_8 rfl ?_
  refine xw_ialN _ dX0_asked_9 rfl (rfl) (hK h hh) rfl ?_ ?_
  · omega
  refine xw_iload_n dX0_asked_10 rfl ?_
  refine xw_cV2E dX0_asked_11 okX0_bodyFor ml_X0_29 rfl rfl rfl rfl (s_X0_bodyFor_1 (by omega)) ?_
  rw [show bodyN (dK D h) 1 = 22 by rw [hk]; rfl, show markV D P h = m22 P h by unfold markV; rw [hk]; rfl, show markT (dK D h) = markT 4 by rw [hk]]
  refine xw_iload dX0_asked_14 rfl ?_
  refine xw_iconst (v := 1) dX0_asked_16 (by decide) ?_
  refine xw_iaddN (b := 1) dX0_asked_17 ?_
  refine xw_cV4E dX0_asked_18 okX0_given ml_X0_33 rfl rfl rfl rfl (s_given_22 hC hX hP hh hn (by omega) (by omega)) ?_
  refine xw_ireti dX0_asked_21 rfl ?_
  first | exact ⟨rfl, rfl⟩ | exact ⟨by simp_all, rfl⟩ | grind [XE]
set_option maxRecDepth 20000 in
theorem s_asked_m5 {D : FD} {P h n e : Nat} (hC : FCS M 8 D) (hX : M.1 8 3 = nI P) (hP : P < 2 ^ 24) (hh : h < dn D) (hn : M.1 47 1 = nI n) (hn2 : n ≤ 12) (he : e ≤ 36) (hk : dK D h = 5) : XC g l mX0_asked (d + 5) [xr 47, xr 8, xi (nI h), xi (nI 1), xi (nI e)] M (XE (some (xi (markV D P h))) (wrC M n (markT (dK D h)))) := by
  have hn6 := hC.1
  have hK := hC.2.2.2.2.2.2.2.2.1
  have hW := hC.2.2.2.2.2.2.2.2.2.2.1
  have hH := hC.2.2.2.2.2.2.2.2.2.2.2.1
  have hG := hC.2.2.2.2.2.2.2.2.2.2.2.2 h hh
  show XW g l mX0_asked _ 0 [some (xr 47), some (xr 8), some (xi (nI h)), some (xi (nI 1)), some (xi (nI e))] [] M _
  refine xw_aload_n dX0_asked_0 rfl ?_
  refine xw_aload_n dX0_asked_1 rfl ?_
  refine xw_iload_n dX0_asked_2 rfl ?_
  refine xw_aload_n dX0_asked_3 rfl ?_
  refine xw_aload_n dX0_asked_4 rfl ?_
  refine xw_getR dX0_asked_5 fl_X0_24 rfl rfl ?_
  refine xw_iload_n dX0_asked_8 rfl ?_
  refine xw_ialN _ dX0_asked_9 rfl (rfl) (hK h hh) rfl ?_ ?_
  · omega
  refine xw_iload_n dX0_asked_10 rfl ?_
  refine xw_cV2E dX0_asked_11 okX0_bodyFor ml_X0_29 rfl rfl rfl rfl (s_X0_bodyFor_1 (by omega)) ?_
  rw [show bodyN (dK D h) 1 = 24 by rw [hk]; rfl, show markV D P h = m24 P h by unfold markV; rw [hk]; rfl, show markT (dK D h) = markT 5 by rw [hk]]
  refine xw_iload dX0_asked_14 rfl ?_
  refine xw_iconst (v := 1) dX0_asked_16 (by decide) ?_
  refine xw_iaddN (b := 1) dX0_asked_17 ?_
  refine xw_cV4E dX0_asked_18 okX0_given ml_X0_33 rfl rfl rfl rfl (s_given_24 hC hX hP hh hn (by omega) (by omega)) ?_
  refine xw_ireti dX0_asked_21 rfl ?_
  first | exact ⟨rfl, rfl⟩ | exact ⟨by simp_all, rfl⟩ | grind [XE]
set_option maxRecDepth 20000 in
theorem s_asked_m2 {D : FD} {P h n e : Nat} (hC : FCS M 8 D) (hX : M.1 8 3 = nI P) (hP : P < 2 ^ 24) (hh : h < dn D) (hn : M.1 47 1 = nI n) (hn2 : n ≤ 12) (he : e ≤ 36) (hk : dK D h = 2) : XC g l mX0_asked (d + 5) [xr 47, xr 8, xi (nI h), xi (nI 1), xi (nI e)] M (XE (some (xi (markV D P h))) (wrC M n (markT (dK D h)))) := by
  have hn6 := hC.1
  have hK := hC.2.2.2.2.2.2.2.2.1
  have hW := hC.2.2.2.2.2.2.2.2.2.2.1
  have hH := hC.2.2.2.2.2.2.2.2.2.2.2.1
  have hG := hC.2.2.2.2.2.2.2.2.2.2.2.2 h hh
  show XW g l mX0_asked _ 0 [some (xr 47), some (xr 8), some (xi (nI h)), some (xi (nI 1)), some (xi (nI e))] [] M _
  refine xw_aload_n dX0_asked_0 rfl ?_
  refine xw_aload_n dX0_asked_1 rfl ?_
  refine xw_iload_n dX0_asked_2 rfl ?_
  refine xw_aload_n dX0_asked_3 rfl ?_
  refine xw_aload_n dX0_asked_4 rfl ?_
  refine xw_getR dX0_asked_5 fl_X0_24 rfl rfl ?_
  refine xw_iload_n dX0_asked_8 rfl ?_
  refine xw_ialN _ dX0_asked_9 rfl (rfl) (hK h hh) rfl ?_ ?_
  · omega
  refine xw_iload_n dX0_asked_10 rfl ?_
  refine xw_cV2E dX0_asked_11 okX0_bodyFor ml_X0_29 rfl rfl rfl rfl (s_X0_bodyFor_1 (by omega)) ?_
  rw [show bodyN (dK D h) 1 = 21 by rw [hk]; rfl, show markV D P h = m21 P h by unfold markV; rw [hk]; rfl, show markT (dK D h) = markT 2 by rw [hk]]
  refine xw_iload dX0_asked_14 rfl ?_
  refine xw_iconst (v := 1) dX0_asked_16 (by decide) ?_
  refine xw_iaddN (b := 1) dX0_asked_17 ?_
  refine xw_cV4E dX0_asked_18 okX0_given ml_X0_33 rfl rfl rfl rfl (s_given_21 hC hX hP hh hn (by omega) (by omega)) ?_
  refine xw_ireti dX0_asked_21 rfl ?_
  first | exact ⟨rfl, rfl⟩ | exact ⟨by simp_all, rfl⟩ | grind [XE]
set_option maxRecDepth 20000 in
theorem s_asked_m3 {D : FD} {P h n e : Nat} (hC : FCS M 8 D) (hX : M.1 8 3 = nI P) (hP : P < 2 ^ 24) (hh : h < dn D) (hn : M.1 47 1 = nI n) (hn2 : n ≤ 12) (he : e ≤ 36) (hk : dK D h = 3) : XC g l mX0_asked (d + 5) [xr 47, xr 8, xi (nI h), xi (nI 1), xi (nI e)] M (XE (some (xi (markV D P h))) (wrC M n (markT (dK D h)))) := by
  have hn6 := hC.1
  have hK := hC.2.2.2.2.2.2.2.2.1
  have hW := hC.2.2.2.2.2.2.2.2.2.2.1
  have hH := hC.2.2.2.2.2.2.2.2.2.2.2.1
  have hG := hC.2.2.2.2.2.2.2.2.2.2.2.2 h hh
  show XW g l mX0_asked _ 0 [some (xr 47), some (xr 8), some (xi (nI h)), some (xi (nI 1)), some (xi (nI e))] [] M _
  refine xw_aload_n dX0_asked_0 rfl ?_
  refine xw_aload_n dX0_asked_1 rfl ?_
  refine xw_iload_n dX0_asked_2 rfl ?_
  refine xw_aload_n dX0_asked_3 rfl ?_
  refine xw_aload_n dX0_asked_4 rfl ?_
  refine xw_getR dX0_asked_5 fl_X0_24 rfl rfl ?_
  refine xw_iload_n dX0_asked_8 rfl ?_
  refine xw_ialN _ dX0_asked_9 rfl (rfl) (hK h hh) rfl ?_ ?_
  · omega
  refine xw_iload_n dX0_asked_10 rfl ?_
  refine xw_cV2E dX0_asked_11 okX0_bodyFor ml_X0_29 rfl rfl rfl rfl (s_X0_bodyFor_1 (by omega)) ?_
  rw [show bodyN (dK D h) 1 = 21 by rw [hk]; rfl, show markV D P h = m21 P h by unfold markV; rw [hk]; rfl, show markT (dK D h) = markT 3 by rw [hk]]
  refine xw_iload dX0_asked_14 rfl ?_
  refine xw_iconst (v := 1) dX0_asked_16 (by decide) ?_
  refine xw_iaddN (b := 1) dX0_asked_17 ?_
  refine xw_cV4E dX0_asked_18 okX0_given ml_X0_33 rfl rfl rfl rfl (s_given_21 hC hX hP hh hn (by omega) (by omega)) ?_
  refine xw_ireti dX0_asked_21 rfl ?_
  first | exact ⟨rfl, rfl⟩ | exact ⟨by simp_all, rfl⟩ | grind [XE]
set_option maxRecDepth 20000 in
theorem s_asked_m {D : FD} {P h n e : Nat} (hC : FCS M 8 D) (hX : M.1 8 3 = nI P) (hP : P < 2 ^ 24) (hh : h < dn D) (hn : M.1 47 1 = nI n) (hn2 : n ≤ 12) (he : e ≤ 36) (hk : 1 ≤ dK D h) : XC g l mX0_asked (d + 5) [xr 47, xr 8, xi (nI h), xi (nI 1), xi (nI e)] M (XE (some (xi (markV D P h))) (wrC M n (markT (dK D h)))) := by
  have hn6 := hC.1
  have hK := hC.2.2.2.2.2.2.2.2.1
  have hW := hC.2.2.2.2.2.2.2.2.2.2.1
  have hH := hC.2.2.2.2.2.2.2.2.2.2.2.1
  have hG := hC.2.2.2.2.2.2.2.2.2.2.2.2 h hh
  rcases (show dK D h = 1 ∨ dK D h = 2 ∨ dK D h = 3 ∨ dK D h = 4 ∨ dK D h = 5 by omega) with z | z | z | z | z
  · exact s_asked_m1 hC hX hP hh hn hn2 he z
  · exact s_asked_m2 hC hX hP hh hn hn2 he z
  · exact s_asked_m3 hC hX hP hh hn hn2 he z
  · exact s_asked_m4 hC hX hP hh hn hn2 he z
  · exact s_asked_m5 hC hX hP hh hn hn2 he z
set_option maxRecDepth 20000 in
theorem s_given_11 {D : FD} {P h n e : Nat} (hC : FCS M 8 D) (hX : M.1 8 3 = nI P) (hP : P < 2 ^ 24) (hh : h < dn D) (hn : M.1 47 1 = nI n) (hn2 : n ≤ 10) (he : e ≤ 35) (hk : 1 ≤ dK D h) : XC g l mX0_given (d + 6) [xr 47, xr 8, xi (nI h), xi (nI 11), xi (nI e)] M (XE (some (xi (s11 D P h))) (wrC M n (11 :: 10 :: markT (dK D h)))) := by
  have hn6 := hC.1
  have hK := hC.2.2.2.2.2.2.2.2.1
  have hW := hC.2.2.2.2.2.2.2.2.2.2.1
  have hH := hC.2.2.2.2.2.2.2.2.2.2.2.1
  have hG := hC.2.2.2.2.2.2.2.2.2.2.2.2 h hh
  show XW g l mX0_given _ 0 [some (xr 47), some (xr 8), some (xi (nI h)), some (xi (nI 11)), some (xi (nI e))] [] M _
  refine xw_iload dX0_given_0 rfl ?_
  refine xw_bipush (v := 40) dX0_given_2 (by decide) ?_
  refine xw_icmp_leN (b := 40) (tgt := 9) dX0_given_4 (by decide) (by omega) (fun c4 => ?_) (fun c4 => ?_)
  · refine xw_aload_n dX0_given_9 rfl ?_
    refine xw_iload_n dX0_given_10 rfl ?_
    refine xw_cV1N dX0_given_11 okX0_leaveTrace ml_X0_48 rfl rfl rfl rfl (s_X0_leaveTrace (b := 11) hn (by omega)) ?_
    refine xw_iload_n dX0_given_14 rfl ?_
    refine xw_tabIn (off := 87) (tgt := 102) dX0_given_15 (by decide) (by decide) (by decide) (by decide) ?_
    refine xw_aload_n dX0_given_102 rfl ?_
    refine xw_aload_n dX0_given_103 rfl ?_
    refine xw_iload_n dX0_given_104 rfl ?_
    refine xw_bipush (v := 10) dX0_given_105 (by decide) ?_
    refine xw_iload dX0_given_107 rfl ?_
    refine xw_iconst (v := 1) dX0_given_109 (by decide) ?_
    refine xw_iaddN (b := 1) dX0_given_110 ?_
    refine xw_cV4E dX0_given_111 okX0_given ml_X0_33 rfl rfl rfl rfl (s_given_10 (hC.wr _ _) ((wrC_at _ _ _ _ _ (by omega)).trans hX) hP hh (wrC_n _ _ _ hn) (by simp only [List.length]; omega) (by omega)) ?_
    refine xw_aload_n dX0_given_114 rfl ?_
    refine xw_aload_n dX0_given_115 rfl ?_
    refine xw_iload_n dX0_given_116 rfl ?_
    refine xw_iconst (v := 1) dX0_given_117 (by decide) ?_
    refine xw_iload dX0_given_118 rfl ?_
    refine xw_cV4E dX0_given_120 okX0_asked ml_X0_19 rfl rfl rfl rfl (s_asked_m ((hC.wr _ _).wr _ _) ((wrC_at _ _ _ _ _ (by omega)).trans ((wrC_at _ _ _ _ _ (by omega)).trans hX)) hP hh (wrC_n _ _ _ (wrC_n _ _ _ hn)) (by simp only [List.length]; omega) (by omega) hk) ?_
    refine xw_iadd dX0_given_123 ?_
    refine xw_ireti dX0_given_124 rfl ?_
    first | exact ⟨rfl, rfl⟩ | exact ⟨by simp_all, rfl⟩ | grind [XE]
  · exfalso; omega
set_option maxRecDepth 20000 in
theorem s_given_12 {D : FD} {P h n e : Nat} (hC : FCS M 8 D) (hX : M.1 8 3 = nI P) (hP : P < 2 ^ 24) (hh : h < dn D) (hn : M.1 47 1 = nI n) (hn2 : n ≤ 9) (he : e ≤ 34) (hk : 1 ≤ dK D h) : XC g l mX0_given (d + 7) [xr 47, xr 8, xi (nI h), xi (nI 12), xi (nI e)] M (XE (some (xi (- s11 D P h))) (wrC M n (12 :: 11 :: 10 :: markT (dK D h)))) := by
  have hn6 := hC.1
  have hK := hC.2.2.2.2.2.2.2.2.1
  have hW := hC.2.2.2.2.2.2.2.2.2.2.1
  have hH := hC.2.2.2.2.2.2.2.2.2.2.2.1
  have hG := hC.2.2.2.2.2.2.2.2.2.2.2.2 h hh
  show XW g l mX0_given _ 0 [some (xr 47), some (xr 8), some (xi (nI h)), some (xi (nI 12)), some (xi (nI e))] [] M _
  refine xw_iload dX0_given_0 rfl ?_
  refine xw_bipush (v := 40) dX0_given_2 (by decide) ?_
  refine xw_icmp_leN (b := 40) (tgt := 9) dX0_given_4 (by decide) (by omega) (fun c4 => ?_) (fun c4 => ?_)
  · refine xw_aload_n dX0_given_9 rfl ?_
    refine xw_iload_n dX0_given_10 rfl ?_
    refine xw_cV1N dX0_given_11 okX0_leaveTrace ml_X0_48 rfl rfl rfl rfl (s_X0_leaveTrace (b := 12) hn (by omega)) ?_
    refine xw_iload_n dX0_given_14 rfl ?_
    refine xw_tabIn (off := 110) (tgt := 125) dX0_given_15 (by decide) (by decide) (by decide) (by decide) ?_
    refine xw_aload_n dX0_given_125 rfl ?_
    refine xw_aload_n dX0_given_126 rfl ?_
    refine xw_iload_n dX0_given_127 rfl ?_
    refine xw_bipush (v := 11) dX0_given_128 (by decide) ?_
    refine xw_iload dX0_given_130 rfl ?_
    refine xw_iconst (v := 1) dX0_given_132 (by decide) ?_
    refine xw_iaddN (b := 1) dX0_given_133 ?_
    refine xw_cV4E dX0_given_134 okX0_given ml_X0_33 rfl rfl rfl rfl (s_given_11 (hC.wr _ _) ((wrC_at _ _ _ _ _ (by omega)).trans hX) hP hh (wrC_n _ _ _ hn) (by simp only [List.length]; omega) (by omega) hk) ?_
    refine xw_ineg dX0_given_137 ?_
    refine xw_ireti dX0_given_138 rfl ?_
    first | exact ⟨rfl, rfl⟩ | exact ⟨by simp_all, rfl⟩ | grind [XE]
  · exfalso; omega
set_option maxRecDepth 20000 in
theorem s_given_14 {D : FD} {P h n e : Nat} (hC : FCS M 8 D) (hX : M.1 8 3 = nI P) (hP : P < 2 ^ 24) (hh : h < dn D) (hn : M.1 47 1 = nI n) (hn2 : n ≤ 9) (he : e ≤ 34) (hk : 1 ≤ dK D h) : XC g l mX0_given (d + 7) [xr 47, xr 8, xi (nI h), xi (nI 14), xi (nI e)] M (XE (some (xi (2 * s11 D P h))) (wrC M n (14 :: 11 :: 10 :: markT (dK D h)))) := by
  have hn6 := hC.1
  have hK := hC.2.2.2.2.2.2.2.2.1
  have hW := hC.2.2.2.2.2.2.2.2.2.2.1
  have hH := hC.2.2.2.2.2.2.2.2.2.2.2.1
  have hG := hC.2.2.2.2.2.2.2.2.2.2.2.2 h hh
  show XW g l mX0_given _ 0 [some (xr 47), some (xr 8), some (xi (nI h)), some (xi (nI 14)), some (xi (nI e))] [] M _
  refine xw_iload dX0_given_0 rfl ?_
  refine xw_bipush (v := 40) dX0_given_2 (by decide) ?_
  refine xw_icmp_leN (b := 40) (tgt := 9) dX0_given_4 (by decide) (by omega) (fun c4 => ?_) (fun c4 => ?_)
  · refine xw_aload_n dX0_given_9 rfl ?_
    refine xw_iload_n dX0_given_10 rfl ?_
    refine xw_cV1N dX0_given_11 okX0_leaveTrace ml_X0_48 rfl rfl rfl rfl (s_X0_leaveTrace (b := 14) hn (by omega)) ?_
    refine xw_iload_n dX0_given_14 rfl ?_
    refine xw_tabIn (off := 140) (tgt := 155) dX0_given_15 (by decide) (by decide) (by decide) (by decide) ?_
    refine xw_iconst (v := 2) dX0_given_155 (by decide) ?_
    refine xw_aload_n dX0_given_156 rfl ?_
    refine xw_aload_n dX0_given_157 rfl ?_
    refine xw_iload_n dX0_given_158 rfl ?_
    refine xw_bipush (v := 11) dX0_given_159 (by decide) ?_
    refine xw_iload dX0_given_161 rfl ?_
    refine xw_iconst (v := 1) dX0_given_163 (by decide) ?_
    refine xw_iaddN (b := 1) dX0_given_164 ?_
    refine xw_cV4E dX0_given_165 okX0_given ml_X0_33 rfl rfl rfl rfl (s_given_11 (hC.wr _ _) ((wrC_at _ _ _ _ _ (by omega)).trans hX) hP hh (wrC_n _ _ _ hn) (by simp only [List.length]; omega) (by omega) hk) ?_
    refine xw_imul dX0_given_168 ?_
    refine xw_ireti dX0_given_169 rfl ?_
    first | exact ⟨rfl, rfl⟩ | exact ⟨by simp_all, rfl⟩ | grind [XE]
  · exfalso; omega
set_option maxRecDepth 20000 in
theorem s_asked_z1 {D : FD} {P h n e : Nat} (hC : FCS M 8 D) (hX : M.1 8 3 = nI P) (hP : P < 2 ^ 24) (hh : h < dn D) (hn : M.1 47 1 = nI n) (hn2 : n ≤ 9) (he : e ≤ 33) (hk : dK D h = 1) : XC g l mX0_asked (d + 8) [xr 47, xr 8, xi (nI h), xi (nI 0), xi (nI e)] M (XE (some (xi (sizeV D P h))) (wrC M n (sizeT (dK D h)))) := by
  have hn6 := hC.1
  have hK := hC.2.2.2.2.2.2.2.2.1
  have hW := hC.2.2.2.2.2.2.2.2.2.2.1
  have hH := hC.2.2.2.2.2.2.2.2.2.2.2.1
  have hG := hC.2.2.2.2.2.2.2.2.2.2.2.2 h hh
  show XW g l mX0_asked _ 0 [some (xr 47), some (xr 8), some (xi (nI h)), some (xi (nI 0)), some (xi (nI e))] [] M _
  refine xw_aload_n dX0_asked_0 rfl ?_
  refine xw_aload_n dX0_asked_1 rfl ?_
  refine xw_iload_n dX0_asked_2 rfl ?_
  refine xw_aload_n dX0_asked_3 rfl ?_
  refine xw_aload_n dX0_asked_4 rfl ?_
  refine xw_getR dX0_asked_5 fl_X0_24 rfl rfl ?_
  refine xw_iload_n dX0_asked_8 rfl ?_
  refine xw_ialN _ dX0_asked_9 rfl (rfl) (hK h hh) rfl ?_ ?_
  · omega
  refine xw_iload_n dX0_asked_10 rfl ?_
  refine xw_cV2E dX0_asked_11 okX0_bodyFor ml_X0_29 rfl rfl rfl rfl (s_X0_bodyFor_0 (by omega)) ?_
  rw [show bodyN (dK D h) 0 = 13 by rw [hk]; rfl, show sizeV D P h = s13 D h by unfold sizeV; rw [hk]; rfl, show sizeT (dK D h) = [13, 10] by rw [hk]; rfl]
  refine xw_iload dX0_asked_14 rfl ?_
  refine xw_iconst (v := 1) dX0_asked_16 (by decide) ?_
  refine xw_iaddN (b := 1) dX0_asked_17 ?_
  refine xw_cV4E dX0_asked_18 okX0_given ml_X0_33 rfl rfl rfl rfl (s_given_13 hC hX hP hh hn (by omega) (by omega)) ?_
  refine xw_ireti dX0_asked_21 rfl ?_
  first | exact ⟨rfl, rfl⟩ | exact ⟨by simp_all, rfl⟩ | grind [XE]
set_option maxRecDepth 20000 in
theorem s_asked_z2 {D : FD} {P h n e : Nat} (hC : FCS M 8 D) (hX : M.1 8 3 = nI P) (hP : P < 2 ^ 24) (hh : h < dn D) (hn : M.1 47 1 = nI n) (hn2 : n ≤ 9) (he : e ≤ 33) (hk : dK D h = 2) : XC g l mX0_asked (d + 8) [xr 47, xr 8, xi (nI h), xi (nI 0), xi (nI e)] M (XE (some (xi (sizeV D P h))) (wrC M n (sizeT (dK D h)))) := by
  have hn6 := hC.1
  have hK := hC.2.2.2.2.2.2.2.2.1
  have hW := hC.2.2.2.2.2.2.2.2.2.2.1
  have hH := hC.2.2.2.2.2.2.2.2.2.2.2.1
  have hG := hC.2.2.2.2.2.2.2.2.2.2.2.2 h hh
  show XW g l mX0_asked _ 0 [some (xr 47), some (xr 8), some (xi (nI h)), some (xi (nI 0)), some (xi (nI e))] [] M _
  refine xw_aload_n dX0_asked_0 rfl ?_
  refine xw_aload_n dX0_asked_1 rfl ?_
  refine xw_iload_n dX0_asked_2 rfl ?_
  refine xw_aload_n dX0_asked_3 rfl ?_
  refine xw_aload_n dX0_asked_4 rfl ?_
  refine xw_getR dX0_asked_5 fl_X0_24 rfl rfl ?_
  refine xw_iload_n dX0_asked_8 rfl ?_
  refine xw_ialN _ dX0_asked_9 rfl (rfl) (hK h hh) rfl ?_ ?_
  · omega
  refine xw_iload_n dX0_asked_10 rfl ?_
  refine xw_cV2E dX0_asked_11 okX0_bodyFor ml_X0_29 rfl rfl rfl rfl (s_X0_bodyFor_0 (by omega)) ?_
  rw [show bodyN (dK D h) 0 = 11 by rw [hk]; rfl, show sizeV D P h = s11 D P h by unfold sizeV; rw [hk]; rfl, show sizeT (dK D h) = 11 :: 10 :: markT (dK D h) by rw [hk]; rfl]
  refine xw_iload dX0_asked_14 rfl ?_
  refine xw_iconst (v := 1) dX0_asked_16 (by decide) ?_
  refine xw_iaddN (b := 1) dX0_asked_17 ?_
  refine xw_cV4E dX0_asked_18 okX0_given ml_X0_33 rfl rfl rfl rfl (s_given_11 hC hX hP hh hn (by omega) (by omega) (by omega)) ?_
  refine xw_ireti dX0_asked_21 rfl ?_
  first | exact ⟨rfl, rfl⟩ | exact ⟨by simp_all, rfl⟩ | grind [XE]
set_option maxRecDepth 20000 in
theorem s_asked_z3 {D : FD} {P h n e : Nat} (hC : FCS M 8 D) (hX : M.1 8 3 = nI P) (hP : P < 2 ^ 24) (hh : h < dn D) (hn : M.1 47 1 = nI n) (hn2 : n ≤ 9) (he : e ≤ 33) (hk : dK D h = 3) : XC g l mX0_asked (d + 8) [xr 47, xr 8, xi (nI h), xi (nI 0), xi (nI e)] M (XE (some (xi (sizeV D P h))) (wrC M n (sizeT (dK D h)))) := by
  have hn6 := hC.1
  have hK := hC.2.2.2.2.2.2.2.2.1
  have hW := hC.2.2.2.2.2.2.2.2.2.2.1
  have hH := hC.2.2.2.2.2.2.2.2.2.2.2.1
  have hG := hC.2.2.2.2.2.2.2.2.2.2.2.2 h hh
  show XW g l mX0_asked _ 0 [some (xr 47), some (xr 8), some (xi (nI h)), some (xi (nI 0)), some (xi (nI e))] [] M _
  refine xw_aload_n dX0_asked_0 rfl ?_
  refine xw_aload_n dX0_asked_1 rfl ?_
  refine xw_iload_n dX0_asked_2 rfl ?_
  refine xw_aload_n dX0_asked_3 rfl ?_
  refine xw_aload_n dX0_asked_4 rfl ?_
  refine xw_getR dX0_asked_5 fl_X0_24 rfl rfl ?_
  refine xw_iload_n dX0_asked_8 rfl ?_
  refine xw_ialN _ dX0_asked_9 rfl (rfl) (hK h hh) rfl ?_ ?_
  · omega
  refine xw_iload_n dX0_asked_10 rfl ?_
  refine xw_cV2E dX0_asked_11 okX0_bodyFor ml_X0_29 rfl rfl rfl rfl (s_X0_bodyFor_0 (by omega)) ?_
  rw [show bodyN (dK D h) 0 = 12 by rw [hk]; rfl, show sizeV D P h = - s11 D P h by unfold sizeV; rw [hk]; rfl, show sizeT (dK D h) = 12 :: 11 :: 10 :: markT (dK D h) by rw [hk]; rfl]
  refine xw_iload dX0_asked_14 rfl ?_
  refine xw_iconst (v := 1) dX0_asked_16 (by decide) ?_
  refine xw_iaddN (b := 1) dX0_asked_17 ?_
  refine xw_cV4E dX0_asked_18 okX0_given ml_X0_33 rfl rfl rfl rfl (s_given_12 hC hX hP hh hn (by omega) (by omega) (by omega)) ?_
  refine xw_ireti dX0_asked_21 rfl ?_
  first | exact ⟨rfl, rfl⟩ | exact ⟨by simp_all, rfl⟩ | grind [XE]
set_option maxRecDepth 20000 in
theorem s_asked_z4 {D : FD} {P h n e : Nat} (hC : FCS M 8 D) (hX : M.1 8 3 = nI P) (hP : P < 2 ^ 24) (hh : h < dn D) (hn : M.1 47 1 = nI n) (hn2 : n ≤ 9) (he : e ≤ 33) (hk : dK D h = 4) : XC g l mX0_asked (d + 8) [xr 47, xr 8, xi (nI h), xi (nI 0), xi (nI e)] M (XE (some (xi (sizeV D P h))) (wrC M n (sizeT (dK D h)))) := by
  have hn6 := hC.1
  have hK := hC.2.2.2.2.2.2.2.2.1
  have hW := hC.2.2.2.2.2.2.2.2.2.2.1
  have hH := hC.2.2.2.2.2.2.2.2.2.2.2.1
  have hG := hC.2.2.2.2.2.2.2.2.2.2.2.2 h hh
  show XW g l mX0_asked _ 0 [some (xr 47), some (xr 8), some (xi (nI h)), some (xi (nI 0)), some (xi (nI e))] [] M _
  refine xw_aload_n dX0_asked_0 rfl ?_
  refine xw_aload_n dX0_asked_1 rfl ?_
  refine xw_iload_n dX0_asked_2 rfl ?_
  refine xw_aload_n dX0_asked_3 rfl ?_
  refine xw_aload_n dX0_asked_4 rfl ?_
  refine xw_getR dX0_asked_5 fl_X0_24 rfl rfl ?_
  refine xw_iload_n dX0_asked_8 rfl ?_
  refine xw_ialN _ dX0_asked_9 rfl (rfl) (hK h hh) rfl ?_ ?_
  · omega
  refine xw_iload_n dX0_asked_10 rfl ?_
  refine xw_cV2E dX0_asked_11 okX0_bodyFor ml_X0_29 rfl rfl rfl rfl (s_X0_bodyFor_0 (by omega)) ?_
  rw [show bodyN (dK D h) 0 = 11 by rw [hk]; rfl, show sizeV D P h = s11 D P h by unfold sizeV; rw [hk]; rfl, show sizeT (dK D h) = 11 :: 10 :: markT (dK D h) by rw [hk]; rfl]
  refine xw_iload dX0_asked_14 rfl ?_
  refine xw_iconst (v := 1) dX0_asked_16 (by decide) ?_
  refine xw_iaddN (b := 1) dX0_asked_17 ?_
  refine xw_cV4E dX0_asked_18 okX0_given ml_X0_33 rfl rfl rfl rfl (s_given_11 hC hX hP hh hn (by omega) (by omega) (by omega)) ?_
  refine xw_ireti dX0_asked_21 rfl ?_
  first | exact ⟨rfl, rfl⟩ | exact ⟨by simp_all, rfl⟩ | grind [XE]
set_option maxRecDepth 20000 in
theorem s_asked_z5 {D : FD} {P h n e : Nat} (hC : FCS M 8 D) (hX : M.1 8 3 = nI P) (hP : P < 2 ^ 24) (hh : h < dn D) (hn : M.1 47 1 = nI n) (hn2 : n ≤ 9) (he : e ≤ 33) (hk : dK D h = 5) : XC g l mX0_asked (d + 8) [xr 47, xr 8, xi (nI h), xi (nI 0), xi (nI e)] M (XE (some (xi (sizeV D P h))) (wrC M n (sizeT (dK D h)))) := by
  have hn6 := hC.1
  have hK := hC.2.2.2.2.2.2.2.2.1
  have hW := hC.2.2.2.2.2.2.2.2.2.2.1
  have hH := hC.2.2.2.2.2.2.2.2.2.2.2.1
  have hG := hC.2.2.2.2.2.2.2.2.2.2.2.2 h hh
  show XW g l mX0_asked _ 0 [some (xr 47), some (xr 8), some (xi (nI h)), some (xi (nI 0)), some (xi (nI e))] [] M _
  refine xw_aload_n dX0_asked_0 rfl ?_
  refine xw_aload_n dX0_asked_1 rfl ?_
  refine xw_iload_n dX0_asked_2 rfl ?_
  refine xw_aload_n dX0_asked_3 rfl ?_
  refine xw_aload_n dX0_asked_4 rfl ?_
  refine xw_getR dX0_asked_5 fl_X0_24 rfl rfl ?_
  refine xw_iload_n dX0_asked_8 rfl ?_
  refine xw_ialN _ dX0_asked_9 rfl (rfl) (hK h hh) rfl ?_ ?_
  · omega
  refine xw_iload_n dX0_asked_10 rfl ?_
  refine xw_cV2E dX0_asked_11 okX0_bodyFor ml_X0_29 rfl rfl rfl rfl (s_X0_bodyFor_0 (by omega)) ?_
  rw [show bodyN (dK D h) 0 = 14 by rw [hk]; rfl, show sizeV D P h = 2 * s11 D P h by unfold sizeV; rw [hk]; rfl, show sizeT (dK D h) = 14 :: 11 :: 10 :: markT (dK D h) by rw [hk]; rfl]
  refine xw_iload dX0_asked_14 rfl ?_
  refine xw_iconst (v := 1) dX0_asked_16 (by decide) ?_
  refine xw_iaddN (b := 1) dX0_asked_17 ?_
  refine xw_cV4E dX0_asked_18 okX0_given ml_X0_33 rfl rfl rfl rfl (s_given_14 hC hX hP hh hn (by omega) (by omega) (by omega)) ?_
  refine xw_ireti dX0_asked_21 rfl ?_
  first | exact ⟨rfl, rfl⟩ | exact ⟨by simp_all, rfl⟩ | grind [XE]
set_option maxRecDepth 20000 in
theorem s_asked_z {D : FD} {P h n e : Nat} (hC : FCS M 8 D) (hX : M.1 8 3 = nI P) (hP : P < 2 ^ 24) (hh : h < dn D) (hn : M.1 47 1 = nI n) (hn2 : n ≤ 9) (he : e ≤ 33) (hk : 1 ≤ dK D h) : XC g l mX0_asked (d + 8) [xr 47, xr 8, xi (nI h), xi (nI 0), xi (nI e)] M (XE (some (xi (sizeV D P h))) (wrC M n (sizeT (dK D h)))) := by
  have hn6 := hC.1
  have hK := hC.2.2.2.2.2.2.2.2.1
  have hW := hC.2.2.2.2.2.2.2.2.2.2.1
  have hH := hC.2.2.2.2.2.2.2.2.2.2.2.1
  have hG := hC.2.2.2.2.2.2.2.2.2.2.2.2 h hh
  rcases (show dK D h = 1 ∨ dK D h = 2 ∨ dK D h = 3 ∨ dK D h = 4 ∨ dK D h = 5 by omega) with z | z | z | z | z
  · exact s_asked_z1 hC hX hP hh hn hn2 he z
  · exact s_asked_z2 hC hX hP hh hn hn2 he z
  · exact s_asked_z3 hC hX hP hh hn hn2 he z
  · exact s_asked_z4 hC hX hP hh hn hn2 he z
  · exact s_asked_z5 hC hX hP hh hn hn2 he z
set_option maxRecDepth 20000 in
theorem s_X0_begin_0 {D : FD} {P h : Nat} (hC : FCS M 8 D) (hX : M.1 8 3 = nI P) (hP : P < 2 ^ 24) (hh : h < dn D) (hk : 1 ≤ dK D h)  : XC g l mX0_begin (d + 9) [xr 47, xr 8, xi (nI h), xi (nI 0)] M (XE (some (xi (sizeV D P h))) (wrC (xup M 47 1 0) 0 (sizeT (dK D h)))) := by
  have hC2 : FCS (xup M 47 1 0) 8 D := hC.keep (fun b _ => xup_cell _ _ (by decide)) (fun c b h1 h2 => xup_cell _ _ (by omega))
  show XW g l mX0_begin _ 0 [some (xr 47), some (xr 8), some (xi (nI h)), some (xi (nI 0))] [] M _
  refine xw_aload_n dX0_begin_0 rfl ?_
  refine xw_iconst (v := 0) dX0_begin_1 (by decide) ?_
  refine xw_putI dX0_begin_2 fp_X0_15 rfl rfl ?_
  refine xw_aload_n dX0_begin_5 rfl ?_
  refine xw_aload_n dX0_begin_6 rfl ?_
  refine xw_iload_n dX0_begin_7 rfl ?_
  refine xw_iload_n dX0_begin_8 rfl ?_
  refine xw_iconst (v := 0) dX0_begin_9 (by decide) ?_
  refine xw_cV4E dX0_begin_10 okX0_asked ml_X0_19 rfl rfl rfl rfl (s_asked_z (e := 0) (n := 0) hC2 ((xup_cell _ _ (by decide)).trans hX) hP hh (xup_same _ _ _ _) (by omega) (by omega) hk) ?_
  refine xw_ireti dX0_begin_13 rfl ?_
  first | exact ⟨rfl, rfl⟩ | exact ⟨by simp_all, rfl⟩ | grind [XE]
set_option maxRecDepth 20000 in
theorem k_X7_ask_0 {D : FD} {P h : Nat} (hC : FCS M 8 D) (hX : M.1 8 3 = nI P) (hP : P < 2 ^ 24) (hh : h < dn D) (hk : 1 ≤ dK D h)  : XC g l mX7_ask (d + 10) [xr 0, xi (nI h), xi (nI 0)] M (XE (some (xi (sizeV D P h))) (wrC (xup M 47 1 0) 0 (sizeT (dK D h)))) := by
  have hn6 := hC.1
  have hN := hC.2.2.2.1
  have e0 : 0 ≤ nI h ∧ nI h < M.1 8 2 := by rw [hN]; exact nI_in0 (by omega) hh
  show XW g l mX7_ask _ 0 [some (xr 0), some (xi (nI h)), some (xi (nI 0))] [] M _
  refine xw_aload_n dX7_ask_0 rfl ?_
  refine xw_getR dX7_ask_1 fl_X7_26 rfl rfl ?_
  refine xw_iload_n dX7_ask_4 rfl ?_
  refine xw_cV1B dX7_ask_5 okX1_isHouse ml_X7_133 rfl rfl rfl rfl (s_X1_isHouse xf_8 _) (fun p5 => ?_) (fun p5 => ?_)
  · refine xw_if_eq (tgt := 20) dX7_ask_8 (by decide) (fun q9 => absurd q9 (by decide)) (fun _ => ?_)
    refine xw_iload_n dX7_ask_11 rfl ?_
    refine xw_if_lt (tgt := 20) dX7_ask_12 (by decide) (fun q9 => absurd q9 (by decide)) (fun _ => ?_)
    refine xw_iload_n dX7_ask_15 rfl ?_
    refine xw_iconst (v := 1) dX7_ask_16 (by decide) ?_
    refine xw_icmp_le (tgt := 23) dX7_ask_17 (by decide) (fun _ => ?_) (fun q9 => absurd q9 (by decide))
    refine xw_aload_n dX7_ask_23 rfl ?_
    refine xw_getR dX7_ask_24 fl_X7_51 rfl rfl ?_
    refine xw_aload_n dX7_ask_27 rfl ?_
    refine xw_getR dX7_ask_28 fl_X7_26 rfl rfl ?_
    refine xw_iload_n dX7_ask_31 rfl ?_
    refine xw_iload_n dX7_ask_32 rfl ?_
    refine xw_cV3E dX7_ask_33 okX0_begin ml_X7_233 rfl rfl rfl rfl (s_X0_begin_0 hC hX hP hh hk) ?_
    refine xw_ireti dX7_ask_36 rfl ?_
    first | exact ⟨rfl, rfl⟩ | exact ⟨by simp_all, rfl⟩ | grind [XE]
  · exfalso; contradiction
set_option maxRecDepth 20000 in
theorem s_X0_begin_1 {D : FD} {P h : Nat} (hC : FCS M 8 D) (hX : M.1 8 3 = nI P) (hP : P < 2 ^ 24) (hh : h < dn D) (hk : 1 ≤ dK D h)  : XC g l mX0_begin (d + 9) [xr 47, xr 8, xi (nI h), xi (nI 1)] M (XE (some (xi (markV D P h))) (wrC (xup M 47 1 0) 0 (markT (dK D h)))) := by
  have hC2 : FCS (xup M 47 1 0) 8 D := hC.keep (fun b _ => xup_cell _ _ (by decide)) (fun c b h1 h2 => xup_cell _ _ (by omega))
  show XW g l mX0_begin _ 0 [some (xr 47), some (xr 8), some (xi (nI h)), some (xi (nI 1))] [] M _
  refine xw_aload_n dX0_begin_0 rfl ?_
  refine xw_iconst (v := 0) dX0_begin_1 (by decide) ?_
  refine xw_putI dX0_begin_2 fp_X0_15 rfl rfl ?_
  refine xw_aload_n dX0_begin_5 rfl ?_
  refine xw_aload_n dX0_begin_6 rfl ?_
  refine xw_iload_n dX0_begin_7 rfl ?_
  refine xw_iload_n dX0_begin_8 rfl ?_
  refine xw_iconst (v := 0) dX0_begin_9 (by decide) ?_
  refine xw_cV4E dX0_begin_10 okX0_asked ml_X0_19 rfl rfl rfl rfl (s_asked_m (e := 0) (n := 0) hC2 ((xup_cell _ _ (by decide)).trans hX) hP hh (xup_same _ _ _ _) (by omega) (by omega) hk) ?_
  refine xw_ireti dX0_begin_13 rfl ?_
  first | exact ⟨rfl, rfl⟩ | exact ⟨by simp_all, rfl⟩ | grind [XE]
set_option maxRecDepth 20000 in
theorem k_X7_ask_1 {D : FD} {P h : Nat} (hC : FCS M 8 D) (hX : M.1 8 3 = nI P) (hP : P < 2 ^ 24) (hh : h < dn D) (hk : 1 ≤ dK D h)  : XC g l mX7_ask (d + 10) [xr 0, xi (nI h), xi (nI 1)] M (XE (some (xi (markV D P h))) (wrC (xup M 47 1 0) 0 (markT (dK D h)))) := by
  have hn6 := hC.1
  have hN := hC.2.2.2.1
  have e0 : 0 ≤ nI h ∧ nI h < M.1 8 2 := by rw [hN]; exact nI_in0 (by omega) hh
  show XW g l mX7_ask _ 0 [some (xr 0), some (xi (nI h)), some (xi (nI 1))] [] M _
  refine xw_aload_n dX7_ask_0 rfl ?_
  refine xw_getR dX7_ask_1 fl_X7_26 rfl rfl ?_
  refine xw_iload_n dX7_ask_4 rfl ?_
  refine xw_cV1B dX7_ask_5 okX1_isHouse ml_X7_133 rfl rfl rfl rfl (s_X1_isHouse xf_8 _) (fun p5 => ?_) (fun p5 => ?_)
  · refine xw_if_eq (tgt := 20) dX7_ask_8 (by decide) (fun q9 => absurd q9 (by decide)) (fun _ => ?_)
    refine xw_iload_n dX7_ask_11 rfl ?_
    refine xw_if_lt (tgt := 20) dX7_ask_12 (by decide) (fun q9 => absurd q9 (by decide)) (fun _ => ?_)
    refine xw_iload_n dX7_ask_15 rfl ?_
    refine xw_iconst (v := 1) dX7_ask_16 (by decide) ?_
    refine xw_icmp_le (tgt := 23) dX7_ask_17 (by decide) (fun _ => ?_) (fun q9 => absurd q9 (by decide))
    refine xw_aload_n dX7_ask_23 rfl ?_
    refine xw_getR dX7_ask_24 fl_X7_51 rfl rfl ?_
    refine xw_aload_n dX7_ask_27 rfl ?_
    refine xw_getR dX7_ask_28 fl_X7_26 rfl rfl ?_
    refine xw_iload_n dX7_ask_31 rfl ?_
    refine xw_iload_n dX7_ask_32 rfl ?_
    refine xw_cV3E dX7_ask_33 okX0_begin ml_X7_233 rfl rfl rfl rfl (s_X0_begin_1 hC hX hP hh hk) ?_
    refine xw_ireti dX7_ask_36 rfl ?_
    first | exact ⟨rfl, rfl⟩ | exact ⟨by simp_all, rfl⟩ | grind [XE]
  · exfalso; contradiction
set_option maxRecDepth 20000 in
theorem k_X7_ask_bad {a w : Int32} (h : ¬ ((0 ≤ a ∧ a < M.1 8 2) ∧ 0 ≤ w ∧ w ≤ 1)) : XC g l mX7_ask (d + 10) [xr 0, xi a, xi w] M (XE (some (xi (-1000001))) M) := by
  show XW g l mX7_ask _ 0 [some (xr 0), some (xi a), some (xi w)] [] M _
  refine xw_aload_n dX7_ask_0 rfl ?_
  refine xw_getR dX7_ask_1 fl_X7_26 rfl rfl ?_
  refine xw_iload_n dX7_ask_4 rfl ?_
  refine xw_cV1B dX7_ask_5 okX1_isHouse ml_X7_133 rfl rfl rfl rfl (s_X1_isHouse xf_8 _) (fun p5 => ?_) (fun p5 => ?_)
  · refine xw_if_eq (tgt := 20) dX7_ask_8 (by decide) (fun q9 => absurd q9 (by decide)) (fun _ => ?_)
    refine xw_iload_n dX7_ask_11 rfl ?_
    refine xw_if_lt (tgt := 20) dX7_ask_12 (by decide) (fun c12 => ?_) (fun c12 => ?_)
    · refine xw_ldc dX7_ask_20 kc_X7_66 ?_
      refine xw_ireti dX7_ask_22 rfl ?_
      first | exact ⟨rfl, rfl⟩ | exact ⟨by simp_all, rfl⟩ | grind [XE]
    · refine xw_iload_n dX7_ask_15 rfl ?_
      refine xw_iconst (v := 1) dX7_ask_16 (by decide) ?_
      refine xw_icmp_le (tgt := 23) dX7_ask_17 (by decide) (fun c17 => ?_) (fun c17 => ?_)
      · exfalso; first | contradiction | omega | grind | simp_all
      · refine xw_ldc dX7_ask_20 kc_X7_66 ?_
        refine xw_ireti dX7_ask_22 rfl ?_
        first | exact ⟨rfl, rfl⟩ | exact ⟨by simp_all, rfl⟩ | grind [XE]
  · refine xw_if_eq (tgt := 20) dX7_ask_8 (by decide) (fun _ => ?_) (fun q9 => absurd q9 (by decide))
    refine xw_ldc dX7_ask_20 kc_X7_66 ?_
    refine xw_ireti dX7_ask_22 rfl ?_
    first | exact ⟨rfl, rfl⟩ | exact ⟨by simp_all, rfl⟩ | grind [XE]
set_option maxRecDepth 20000 in
theorem r_body10 {D : FD} {P h n : Nat} (hC : FMS M 54 D) (hX : XMP M 54 P) (hh : h < dn D) (hn : M.1 49 20 = nI n) (hn2 : n ≤ 15)  : XC g l mX8_body10 (d + 1) [xr 49, xi (nI h)] M (XE (some (xi (s10 D h))) (wrM M n ([10]))) := by
  have hn6 := hC.1
  have hK := hC.2.2.2.2.2.1
  have hW := hC.2.2.2.2.2.2.2.1
  have hH := hC.2.2.2.2.2.2.2.2.1
  have hG := hC.2.2.2.2.2.2.2.2.2 h hh
  show XW g l mX8_body10 _ 0 [some (xr 49), some (xi (nI h))] [] M _
  refine xw_aload_n dX8_body10_0 rfl ?_
  refine xw_bipush (v := 10) dX8_body10_1 (by decide) ?_
  refine xw_cV1N dX8_body10_3 okX8_leave ml_X8_255 rfl rfl rfl rfl (s_X8_leave (b := 10) hn (by omega)) ?_
  refine xw_aload_n dX8_body10_6 rfl ?_
  refine xw_getR dX8_body10_7 fl_X8_22 rfl rfl ?_
  refine xw_bipush (v := 22) dX8_body10_10 (by decide) ?_
  refine xw_iload_n dX8_body10_12 rfl ?_
  refine xw_iaddN (a := 22) dX8_body10_13 ?_
  refine xw_ialN _ dX8_body10_14 rfl (rfl) (show _ = nI (dW D h) by rw [wrM_at _ _ _ _ _ (by omega)]; exact hW h hh) rfl ?_ ?_
  · omega
  refine xw_aload_n dX8_body10_15 rfl ?_
  refine xw_getR dX8_body10_16 fl_X8_22 rfl rfl ?_
  refine xw_bipush (v := 28) dX8_body10_19 (by decide) ?_
  refine xw_iload_n dX8_body10_21 rfl ?_
  refine xw_iaddN (a := 28) dX8_body10_22 ?_
  refine xw_ialN _ dX8_body10_23 rfl (rfl) (show _ = nI (dH D h) by rw [wrM_at _ _ _ _ _ (by omega)]; exact hH h hh) rfl ?_ ?_
  · omega
  refine xw_imulN dX8_body10_24 ?_
  refine xw_ireti dX8_body10_25 rfl ?_
  first | exact ⟨rfl, rfl⟩ | exact ⟨by simp_all, rfl⟩ | grind [XE]
set_option maxRecDepth 20000 in
theorem r_body20 {D : FD} {P h n : Nat} (hC : FMS M 54 D) (hX : XMP M 54 P) (hh : h < dn D) (hn : M.1 49 20 = nI n) (hn2 : n ≤ 15)  : XC g l mX8_body20 (d + 1) [xr 49, xi (nI h)] M (XE (some (xi (nI h))) (wrM M n ([20]))) := by
  have hn6 := hC.1
  have hK := hC.2.2.2.2.2.1
  have hW := hC.2.2.2.2.2.2.2.1
  have hH := hC.2.2.2.2.2.2.2.2.1
  have hG := hC.2.2.2.2.2.2.2.2.2 h hh
  show XW g l mX8_body20 _ 0 [some (xr 49), some (xi (nI h))] [] M _
  refine xw_aload_n dX8_body20_0 rfl ?_
  refine xw_bipush (v := 20) dX8_body20_1 (by decide) ?_
  refine xw_cV1N dX8_body20_3 okX8_leave ml_X8_255 rfl rfl rfl rfl (s_X8_leave (b := 20) hn (by omega)) ?_
  refine xw_iload_n dX8_body20_6 rfl ?_
  refine xw_ireti dX8_body20_7 rfl ?_
  first | exact ⟨rfl, rfl⟩ | exact ⟨by simp_all, rfl⟩ | grind [XE]
set_option maxRecDepth 20000 in
theorem r_body21 {D : FD} {P h n : Nat} (hC : FMS M 54 D) (hX : XMP M 54 P) (hh : h < dn D) (hn : M.1 49 20 = nI n) (hn2 : n ≤ 14)  : XC g l mX8_body21 (d + 2) [xr 49, xi (nI h)] M (XE (some (xi (m21 P h))) (wrM M n ([21, 20]))) := by
  have hn6 := hC.1
  have hK := hC.2.2.2.2.2.1
  have hW := hC.2.2.2.2.2.2.2.1
  have hH := hC.2.2.2.2.2.2.2.2.1
  have hG := hC.2.2.2.2.2.2.2.2.2 h hh
  show XW g l mX8_body21 _ 0 [some (xr 49), some (xi (nI h))] [] M _
  refine xw_aload_n dX8_body21_0 rfl ?_
  refine xw_bipush (v := 21) dX8_body21_1 (by decide) ?_
  refine xw_cV1N dX8_body21_3 okX8_leave ml_X8_255 rfl rfl rfl rfl (s_X8_leave (b := 21) hn (by omega)) ?_
  refine xw_aload_n dX8_body21_6 rfl ?_
  refine xw_iload_n dX8_body21_7 rfl ?_
  refine xw_cV1E dX8_body21_8 okX8_body20 ml_X8_274 rfl rfl rfl rfl (r_body20 (hC.wr _ _) (hX.wr _ _) hh (wrM_n _ _ _ hn) (by simp only [List.length]; omega)) ?_
  refine xw_aload_n dX8_body21_11 rfl ?_
  refine xw_getR dX8_body21_12 fl_X8_22 rfl rfl ?_
  refine xw_bipush (v := 10) dX8_body21_15 (by decide) ?_
  refine xw_iload_n dX8_body21_17 rfl ?_
  refine xw_iaddN (a := 10) dX8_body21_18 ?_
  refine xw_ialN _ dX8_body21_19 rfl (rfl) (show _ = nI (px P h) by rw [wrM_at _ _ _ _ _ (by omega), wrM_at _ _ _ _ _ (by omega)]; exact hX h (by omega)) rfl ?_ ?_
  · omega
  refine xw_iadd dX8_body21_20 ?_
  refine xw_ireti dX8_body21_21 rfl ?_
  first | exact ⟨rfl, rfl⟩ | exact ⟨by simp_all, rfl⟩ | grind [XE]
set_option maxRecDepth 20000 in
theorem r_body22 {D : FD} {P h n : Nat} (hC : FMS M 54 D) (hX : XMP M 54 P) (hh : h < dn D) (hn : M.1 49 20 = nI n) (hn2 : n ≤ 13)  : XC g l mX8_body22 (d + 3) [xr 49, xi (nI h)] M (XE (some (xi (m22 P h))) (wrM M n ([22, 21, 20]))) := by
  have hn6 := hC.1
  have hK := hC.2.2.2.2.2.1
  have hW := hC.2.2.2.2.2.2.2.1
  have hH := hC.2.2.2.2.2.2.2.2.1
  have hG := hC.2.2.2.2.2.2.2.2.2 h hh
  show XW g l mX8_body22 _ 0 [some (xr 49), some (xi (nI h))] [] M _
  refine xw_aload_n dX8_body22_0 rfl ?_
  refine xw_bipush (v := 22) dX8_body22_1 (by decide) ?_
  refine xw_cV1N dX8_body22_3 okX8_leave ml_X8_255 rfl rfl rfl rfl (s_X8_leave (b := 22) hn (by omega)) ?_
  refine xw_aload_n dX8_body22_6 rfl ?_
  refine xw_iload_n dX8_body22_7 rfl ?_
  refine xw_cV1E dX8_body22_8 okX8_body21 ml_X8_277 rfl rfl rfl rfl (r_body21 (hC.wr _ _) (hX.wr _ _) hh (wrM_n _ _ _ hn) (by simp only [List.length]; omega)) ?_
  refine xw_sipush (v := 1000) dX8_body22_11 (by decide) ?_
  refine xw_isub dX8_body22_14 ?_
  refine xw_ireti dX8_body22_15 rfl ?_
  first | exact ⟨rfl, rfl⟩ | exact ⟨by simp_all, rfl⟩ | grind [XE]
set_option maxRecDepth 20000 in
theorem r_body24 {D : FD} {P h n : Nat} (hC : FMS M 54 D) (hX : XMP M 54 P) (hh : h < dn D) (hn : M.1 49 20 = nI n) (hn2 : n ≤ 12)  : XC g l mX8_body24 (d + 4) [xr 49, xi (nI h)] M (XE (some (xi (m24 P h))) (wrM M n ([24, 22, 21, 20]))) := by
  have hn6 := hC.1
  have hK := hC.2.2.2.2.2.1
  have hW := hC.2.2.2.2.2.2.2.1
  have hH := hC.2.2.2.2.2.2.2.2.1
  have hG := hC.2.2.2.2.2.2.2.2.2 h hh
  show XW g l mX8_body24 _ 0 [some (xr 49), some (xi (nI h))] [] M _
  refine xw_aload_n dX8_body24_0 rfl ?_
  refine xw_bipush (v := 24) dX8_body24_1 (by decide) ?_
  refine xw_cV1N dX8_body24_3 okX8_leave ml_X8_255 rfl rfl rfl rfl (s_X8_leave (b := 24) hn (by omega)) ?_
  refine xw_iconst (v := 2) dX8_body24_6 (by decide) ?_
  refine xw_aload_n dX8_body24_7 rfl ?_
  refine xw_iload_n dX8_body24_8 rfl ?_
  refine xw_cV1E dX8_body24_9 okX8_body22 ml_X8_283 rfl rfl rfl rfl (r_body22 (hC.wr _ _) (hX.wr _ _) hh (wrM_n _ _ _ hn) (by simp only [List.length]; omega)) ?_
  refine xw_imul dX8_body24_12 ?_
  refine xw_ireti dX8_body24_13 rfl ?_
  first | exact ⟨rfl, rfl⟩ | exact ⟨by simp_all, rfl⟩ | grind [XE]
set_option maxRecDepth 20000 in
theorem r_body13 {D : FD} {P h n : Nat} (hC : FMS M 54 D) (hX : XMP M 54 P) (hh : h < dn D) (hn : M.1 49 20 = nI n) (hn2 : n ≤ 14)  : XC g l mX8_body13 (d + 2) [xr 49, xi (nI h)] M (XE (some (xi (s13 D h))) (wrM M n ([13, 10]))) := by
  have hn6 := hC.1
  have hK := hC.2.2.2.2.2.1
  have hW := hC.2.2.2.2.2.2.2.1
  have hH := hC.2.2.2.2.2.2.2.2.1
  have hG := hC.2.2.2.2.2.2.2.2.2 h hh
  show XW g l mX8_body13 _ 0 [some (xr 49), some (xi (nI h))] [] M _
  refine xw_aload_n dX8_body13_0 rfl ?_
  refine xw_bipush (v := 13) dX8_body13_1 (by decide) ?_
  refine xw_cV1N dX8_body13_3 okX8_leave ml_X8_255 rfl rfl rfl rfl (s_X8_leave (b := 13) hn (by omega)) ?_
  refine xw_aload_n dX8_body13_6 rfl ?_
  refine xw_iload_n dX8_body13_7 rfl ?_
  refine xw_cV1E dX8_body13_8 okX8_body10 ml_X8_259 rfl rfl rfl rfl (r_body10 (hC.wr _ _) (hX.wr _ _) hh (wrM_n _ _ _ hn) (by simp only [List.length]; omega)) ?_
  refine xw_bipush (v := 100) dX8_body13_11 (by decide) ?_
  refine xw_isub dX8_body13_13 ?_
  refine xw_ireti dX8_body13_14 rfl ?_
  first | exact ⟨rfl, rfl⟩ | exact ⟨by simp_all, rfl⟩ | grind [XE]
set_option maxRecDepth 20000 in
theorem r_body23 {D : FD} {P h n : Nat} (hC : FMS M 54 D) (hX : XMP M 54 P) (hh : h < dn D) (hn : M.1 49 20 = nI n) (hn2 : n ≤ 12)  : XC g l mX8_body23 (d + 3) [xr 49, xi (nI h)] M (XE (some (xi (m23 D h))) (wrM M n ([23, 20, 13, 10]))) := by
  have hn6 := hC.1
  have hK := hC.2.2.2.2.2.1
  have hW := hC.2.2.2.2.2.2.2.1
  have hH := hC.2.2.2.2.2.2.2.2.1
  have hG := hC.2.2.2.2.2.2.2.2.2 h hh
  show XW g l mX8_body23 _ 0 [some (xr 49), some (xi (nI h)), none] [] M _
  refine xw_aload_n dX8_body23_0 rfl ?_
  refine xw_bipush (v := 23) dX8_body23_1 (by decide) ?_
  refine xw_cV1N dX8_body23_3 okX8_leave ml_X8_255 rfl rfl rfl rfl (s_X8_leave (b := 23) hn (by omega)) ?_
  refine xw_aload_n dX8_body23_6 rfl ?_
  refine xw_iload_n dX8_body23_7 rfl ?_
  refine xw_cV1E dX8_body23_8 okX8_body20 ml_X8_274 rfl rfl rfl rfl (r_body20 (hC.wr _ _) (hX.wr _ _) hh (wrM_n _ _ _ hn) (by simp only [List.length]; omega)) ?_
  refine xw_istore_n dX8_body23_11 rfl rfl ?_
  refine xw_iload_n dX8_body23_12 rfl ?_
  refine xw_aload_n dX8_body23_13 rfl ?_
  refine xw_iload_n dX8_body23_14 rfl ?_
  refine xw_cV1E dX8_body23_15 okX8_body13 ml_X8_280 rfl rfl rfl rfl (r_body13 ((hC.wr _ _).wr _ _) ((hX.wr _ _).wr _ _) hh (wrM_n _ _ _ (wrM_n _ _ _ hn)) (by simp only [List.length]; omega)) ?_
  refine xw_isub dX8_body23_18 ?_
  refine xw_ireti dX8_body23_19 rfl ?_
  first | exact ⟨rfl, rfl⟩ | exact ⟨by simp_all, rfl⟩ | grind [XE]
set_option maxRecDepth 20000 in
theorem r_mark1 {D : FD} {P h n : Nat} (hC : FMS M 54 D) (hX : XMP M 54 P) (hh : h < dn D) (hn : M.1 49 20 = nI n) (hn2 : n ≤ 12) (hk : dK D h = 1) : XC g l mX8_markOf (d + 5) [xr 49, xi (nI h)] M (XE (some (xi (markV D P h))) (wrM M n (markT (dK D h)))) := by
  have hn6 := hC.1
  have hK := hC.2.2.2.2.2.1
  have hW := hC.2.2.2.2.2.2.2.1
  have hH := hC.2.2.2.2.2.2.2.2.1
  have hG := hC.2.2.2.2.2.2.2.2.2 h hh
  show XW g l mX8_markOf _ 0 [some (xr 49), some (xi (nI h))] [] M _
  rw [show markV D P h = m23 D h by unfold markV; rw [hk]; rfl, show markT (dK D h) = markT 1 by rw [hk]]
  refine xw_aload_n dX8_markOf_0 rfl ?_
  refine xw_getR dX8_markOf_1 fl_X8_22 rfl rfl ?_
  refine xw_iconst (v := 4) dX8_markOf_4 (by decide) ?_
  refine xw_iload_n dX8_markOf_5 rfl ?_
  refine xw_iaddN (a := 4) dX8_markOf_6 ?_
  refine xw_ialN _ dX8_markOf_7 rfl (rfl) (show _ = nI 1 by rw [hK h hh, hk]) rfl ?_ ?_
  · omega
  refine xw_tabIn (off := 36) (tgt := 44) dX8_markOf_8 (by decide) (by decide) (by decide) (by decide) ?_
  refine xw_aload_n dX8_markOf_44 rfl ?_
  refine xw_iload_n dX8_markOf_45 rfl ?_
  refine xw_cV1E dX8_markOf_46 okX8_body23 ml_X8_286 rfl rfl rfl rfl (r_body23 hC hX hh hn (by omega)) ?_
  refine xw_ireti dX8_markOf_49 rfl ?_
  first | exact ⟨rfl, rfl⟩ | exact ⟨by simp_all, rfl⟩ | grind [XE]
set_option maxRecDepth 20000 in
theorem r_mark4 {D : FD} {P h n : Nat} (hC : FMS M 54 D) (hX : XMP M 54 P) (hh : h < dn D) (hn : M.1 49 20 = nI n) (hn2 : n ≤ 12) (hk : dK D h = 4) : XC g l mX8_markOf (d + 5) [xr 49, xi (nI h)] M (XE (some (xi (markV D P h))) (wrM M n (markT (dK D h)))) := by
  have hn6 := hC.1
  have hK := hC.2.2.2.2.2.1
  have hW := hC.2.2.2.2.2.2.2.1
  have hH := hC.2.2.2.2.2.2.2.2.1
  have hG := hC.2.2.2.2.2.2.2.2.2 h hh
  show XW g l mX8_markOf _ 0 [some (xr 49), some (xi (nI h))] [] M _
  rw [show markV D P h = m22 P h by unfold markV; rw [hk]; rfl, show markT (dK D h) = markT 4 by rw [hk]]
  refine xw_aload_n dX8_markOf_0 rfl ?_
  refine xw_getR dX8_markOf_1 fl_X8_22 rfl rfl ?_
  refine xw_iconst (v := 4) dX8_markOf_4 (by decide) ?_
  refine xw_iload_n dX8_markOf_5 rfl ?_
  refine xw_iaddN (a := 4) dX8_markOf_6 ?_
  refine xw_ialN _ dX8_markOf_7 rfl (rfl) (show _ = nI 4 by rw [hK h hh, hk]) rfl ?_ ?_
  · omega
  refine xw_tabIn (off := 42) (tgt := 50) dX8_markOf_8 (by decide) (by decide) (by decide) (by decide) ?_
  refine xw_aload_n dX8_markOf_50 rfl ?_
  refine xw_iload_n dX8_markOf_51 rfl ?_
  refine xw_cV1E dX8_markOf_52 okX8_body22 ml_X8_283 rfl rfl rfl rfl (r_body22 hC hX hh hn (by omega)) ?_
  refine xw_ireti dX8_markOf_55 rfl ?_
  first | exact ⟨rfl, rfl⟩ | exact ⟨by simp_all, rfl⟩ | grind [XE]
set_option maxRecDepth 20000 in
theorem r_mark5 {D : FD} {P h n : Nat} (hC : FMS M 54 D) (hX : XMP M 54 P) (hh : h < dn D) (hn : M.1 49 20 = nI n) (hn2 : n ≤ 12) (hk : dK D h = 5) : XC g l mX8_markOf (d + 5) [xr 49, xi (nI h)] M (XE (some (xi (markV D P h))) (wrM M n (markT (dK D h)))) := by
  have hn6 := hC.1
  have hK := hC.2.2.2.2.2.1
  have hW := hC.2.2.2.2.2.2.2.1
  have hH := hC.2.2.2.2.2.2.2.2.1
  have hG := hC.2.2.2.2.2.2.2.2.2 h hh
  show XW g l mX8_markOf _ 0 [some (xr 49), some (xi (nI h))] [] M _
  rw [show markV D P h = m24 P h by unfold markV; rw [hk]; rfl, show markT (dK D h) = markT 5 by rw [hk]]
  refine xw_aload_n dX8_markOf_0 rfl ?_
  refine xw_getR dX8_markOf_1 fl_X8_22 rfl rfl ?_
  refine xw_iconst (v := 4) dX8_markOf_4 (by decide) ?_
  refine xw_iload_n dX8_markOf_5 rfl ?_
  refine xw_iaddN (a := 4) dX8_markOf_6 ?_
  refine xw_ialN _ dX8_markOf_7 rfl (rfl) (show _ = nI 5 by rw [hK h hh, hk]) rfl ?_ ?_
  · omega
  refine xw_tabIn (off := 48) (tgt := 56) dX8_markOf_8 (by decide) (by decide) (by decide) (by decide) ?_
  refine xw_aload_n dX8_markOf_56 rfl ?_
  refine xw_iload_n dX8_markOf_57 rfl ?_
  refine xw_cV1E dX8_markOf_58 okX8_body24 ml_X8_289 rfl rfl rfl rfl (r_body24 hC hX hh hn (by omega)) ?_
  refine xw_ireti dX8_markOf_61 rfl ?_
  first | exact ⟨rfl, rfl⟩ | exact ⟨by simp_all, rfl⟩ | grind [XE]
set_option maxRecDepth 20000 in
theorem r_mark2 {D : FD} {P h n : Nat} (hC : FMS M 54 D) (hX : XMP M 54 P) (hh : h < dn D) (hn : M.1 49 20 = nI n) (hn2 : n ≤ 12) (hk : dK D h = 2) : XC g l mX8_markOf (d + 5) [xr 49, xi (nI h)] M (XE (some (xi (markV D P h))) (wrM M n (markT (dK D h)))) := by
  have hn6 := hC.1
  have hK := hC.2.2.2.2.2.1
  have hW := hC.2.2.2.2.2.2.2.1
  have hH := hC.2.2.2.2.2.2.2.2.1
  have hG := hC.2.2.2.2.2.2.2.2.2 h hh
  show XW g l mX8_markOf _ 0 [some (xr 49), some (xi (nI h))] [] M _
  rw [show markV D P h = m21 P h by unfold markV; rw [hk]; rfl, show markT (dK D h) = markT 2 by rw [hk]]
  refine xw_aload_n dX8_markOf_0 rfl ?_
  refine xw_getR dX8_markOf_1 fl_X8_22 rfl rfl ?_
  refine xw_iconst (v := 4) dX8_markOf_4 (by decide) ?_
  refine xw_iload_n dX8_markOf_5 rfl ?_
  refine xw_iaddN (a := 4) dX8_markOf_6 ?_
  refine xw_ialN _ dX8_markOf_7 rfl (rfl) (show _ = nI 2 by rw [hK h hh, hk]) rfl ?_ ?_
  · omega
  refine xw_tabIn (off := 54) (tgt := 62) dX8_markOf_8 (by decide) (by decide) (by decide) (by decide) ?_
  refine xw_aload_n dX8_markOf_62 rfl ?_
  refine xw_iload_n dX8_markOf_63 rfl ?_
  refine xw_cV1E dX8_markOf_64 okX8_body21 ml_X8_277 rfl rfl rfl rfl (r_body21 hC hX hh hn (by omega)) ?_
  refine xw_ireti dX8_markOf_67 rfl ?_
  first | exact ⟨rfl, rfl⟩ | exact ⟨by simp_all, rfl⟩ | grind [XE]
set_option maxRecDepth 20000 in
theorem r_mark3 {D : FD} {P h n : Nat} (hC : FMS M 54 D) (hX : XMP M 54 P) (hh : h < dn D) (hn : M.1 49 20 = nI n) (hn2 : n ≤ 12) (hk : dK D h = 3) : XC g l mX8_markOf (d + 5) [xr 49, xi (nI h)] M (XE (some (xi (markV D P h))) (wrM M n (markT (dK D h)))) := by
  have hn6 := hC.1
  have hK := hC.2.2.2.2.2.1
  have hW := hC.2.2.2.2.2.2.2.1
  have hH := hC.2.2.2.2.2.2.2.2.1
  have hG := hC.2.2.2.2.2.2.2.2.2 h hh
  show XW g l mX8_markOf _ 0 [some (xr 49), some (xi (nI h))] [] M _
  rw [show markV D P h = m21 P h by unfold markV; rw [hk]; rfl, show markT (dK D h) = markT 3 by rw [hk]]
  refine xw_aload_n dX8_markOf_0 rfl ?_
  refine xw_getR dX8_markOf_1 fl_X8_22 rfl rfl ?_
  refine xw_iconst (v := 4) dX8_markOf_4 (by decide) ?_
  refine xw_iload_n dX8_markOf_5 rfl ?_
  refine xw_iaddN (a := 4) dX8_markOf_6 ?_
  refine xw_ialN _ dX8_markOf_7 rfl (rfl) (show _ = nI 3 by rw [hK h hh, hk]) rfl ?_ ?_
  · omega
  refine xw_tabIn (off := 54) (tgt := 62) dX8_markOf_8 (by decide) (by decide) (by decide) (by decide) ?_
  refine xw_aload_n dX8_markOf_62 rfl ?_
  refine xw_iload_n dX8_markOf_63 rfl ?_
  refine xw_cV1E dX8_markOf_64 okX8_body21 ml_X8_277 rfl rfl rfl rfl (r_body21 hC hX hh hn (by omega)) ?_
  refine xw_ireti dX8_markOf_67 rfl ?_
  first | exact ⟨rfl, rfl⟩ | exact ⟨by simp_all, rfl⟩ | grind [XE]
set_option maxRecDepth 20000 in
theorem r_mark {D : FD} {P h n : Nat} (hC : FMS M 54 D) (hX : XMP M 54 P) (hh : h < dn D) (hn : M.1 49 20 = nI n) (hn2 : n ≤ 12) (hk : 1 ≤ dK D h) : XC g l mX8_markOf (d + 5) [xr 49, xi (nI h)] M (XE (some (xi (markV D P h))) (wrM M n (markT (dK D h)))) := by
  have hn6 := hC.1
  have hK := hC.2.2.2.2.2.1
  have hW := hC.2.2.2.2.2.2.2.1
  have hH := hC.2.2.2.2.2.2.2.2.1
  have hG := hC.2.2.2.2.2.2.2.2.2 h hh
  rcases (show dK D h = 1 ∨ dK D h = 2 ∨ dK D h = 3 ∨ dK D h = 4 ∨ dK D h = 5 by omega) with z | z | z | z | z
  · exact r_mark1 hC hX hh hn hn2 z
  · exact r_mark2 hC hX hh hn hn2 z
  · exact r_mark3 hC hX hh hn hn2 z
  · exact r_mark4 hC hX hh hn hn2 z
  · exact r_mark5 hC hX hh hn hn2 z
set_option maxRecDepth 20000 in
theorem r_body11 {D : FD} {P h n : Nat} (hC : FMS M 54 D) (hX : XMP M 54 P) (hh : h < dn D) (hn : M.1 49 20 = nI n) (hn2 : n ≤ 10) (hk : 1 ≤ dK D h) : XC g l mX8_body11 (d + 6) [xr 49, xi (nI h)] M (XE (some (xi (s11 D P h))) (wrM M n (11 :: 10 :: markT (dK D h)))) := by
  have hn6 := hC.1
  have hK := hC.2.2.2.2.2.1
  have hW := hC.2.2.2.2.2.2.2.1
  have hH := hC.2.2.2.2.2.2.2.2.1
  have hG := hC.2.2.2.2.2.2.2.2.2 h hh
  show XW g l mX8_body11 _ 0 [some (xr 49), some (xi (nI h)), none] [] M _
  refine xw_aload_n dX8_body11_0 rfl ?_
  refine xw_bipush (v := 11) dX8_body11_1 (by decide) ?_
  refine xw_cV1N dX8_body11_3 okX8_leave ml_X8_255 rfl rfl rfl rfl (s_X8_leave (b := 11) hn (by omega)) ?_
  refine xw_aload_n dX8_body11_6 rfl ?_
  refine xw_iload_n dX8_body11_7 rfl ?_
  refine xw_cV1E dX8_body11_8 okX8_body10 ml_X8_259 rfl rfl rfl rfl (r_body10 (hC.wr _ _) (hX.wr _ _) hh (wrM_n _ _ _ hn) (by simp only [List.length]; omega)) ?_
  refine xw_istore_n dX8_body11_11 rfl rfl ?_
  refine xw_iload_n dX8_body11_12 rfl ?_
  refine xw_aload_n dX8_body11_13 rfl ?_
  refine xw_iload_n dX8_body11_14 rfl ?_
  refine xw_cV1E dX8_body11_15 okX8_markOf ml_X8_262 rfl rfl rfl rfl (r_mark ((hC.wr _ _).wr _ _) ((hX.wr _ _).wr _ _) hh (wrM_n _ _ _ (wrM_n _ _ _ hn)) (by simp only [List.length]; omega) hk) ?_
  refine xw_iadd dX8_body11_18 ?_
  refine xw_ireti dX8_body11_19 rfl ?_
  first | exact ⟨rfl, rfl⟩ | exact ⟨by simp_all, rfl⟩ | grind [XE]
set_option maxRecDepth 20000 in
theorem r_body12 {D : FD} {P h n : Nat} (hC : FMS M 54 D) (hX : XMP M 54 P) (hh : h < dn D) (hn : M.1 49 20 = nI n) (hn2 : n ≤ 9) (hk : 1 ≤ dK D h) : XC g l mX8_body12 (d + 7) [xr 49, xi (nI h)] M (XE (some (xi (- s11 D P h))) (wrM M n (12 :: 11 :: 10 :: markT (dK D h)))) := by
  have hn6 := hC.1
  have hK := hC.2.2.2.2.2.1
  have hW := hC.2.2.2.2.2.2.2.1
  have hH := hC.2.2.2.2.2.2.2.2.1
  have hG := hC.2.2.2.2.2.2.2.2.2 h hh
  show XW g l mX8_body12 _ 0 [some (xr 49), some (xi (nI h))] [] M _
  refine xw_aload_n dX8_body12_0 rfl ?_
  refine xw_bipush (v := 12) dX8_body12_1 (by decide) ?_
  refine xw_cV1N dX8_body12_3 okX8_leave ml_X8_255 rfl rfl rfl rfl (s_X8_leave (b := 12) hn (by omega)) ?_
  refine xw_aload_n dX8_body12_6 rfl ?_
  refine xw_iload_n dX8_body12_7 rfl ?_
  refine xw_cV1E dX8_body12_8 okX8_body11 ml_X8_265 rfl rfl rfl rfl (r_body11 (hC.wr _ _) (hX.wr _ _) hh (wrM_n _ _ _ hn) (by simp only [List.length]; omega) hk) ?_
  refine xw_ineg dX8_body12_11 ?_
  refine xw_ireti dX8_body12_12 rfl ?_
  first | exact ⟨rfl, rfl⟩ | exact ⟨by simp_all, rfl⟩ | grind [XE]
set_option maxRecDepth 20000 in
theorem r_body14 {D : FD} {P h n : Nat} (hC : FMS M 54 D) (hX : XMP M 54 P) (hh : h < dn D) (hn : M.1 49 20 = nI n) (hn2 : n ≤ 9) (hk : 1 ≤ dK D h) : XC g l mX8_body14 (d + 7) [xr 49, xi (nI h)] M (XE (some (xi (2 * s11 D P h))) (wrM M n (14 :: 11 :: 10 :: markT (dK D h)))) := by
  have hn6 := hC.1
  have hK := hC.2.2.2.2.2.1
  have hW := hC.2.2.2.2.2.2.2.1
  have hH := hC.2.2.2.2.2.2.2.2.1
  have hG := hC.2.2.2.2.2.2.2.2.2 h hh
  show XW g l mX8_body14 _ 0 [some (xr 49), some (xi (nI h))] [] M _
  refine xw_aload_n dX8_body14_0 rfl ?_
  refine xw_bipush (v := 14) dX8_body14_1 (by decide) ?_
  refine xw_cV1N dX8_body14_3 okX8_leave ml_X8_255 rfl rfl rfl rfl (s_X8_leave (b := 14) hn (by omega)) ?_
  refine xw_iconst (v := 2) dX8_body14_6 (by decide) ?_
  refine xw_aload_n dX8_body14_7 rfl ?_
  refine xw_iload_n dX8_body14_8 rfl ?_
  refine xw_cV1E dX8_body14_9 okX8_body11 ml_X8_265 rfl rfl rfl rfl (r_body11 (hC.wr _ _) (hX.wr _ _) hh (wrM_n _ _ _ hn) (by simp only [List.length]; omega) hk) ?_
  refine xw_imul dX8_body14_12 ?_
  refine xw_ireti dX8_body14_13 rfl ?_
  first | exact ⟨rfl, rfl⟩ | exact ⟨by simp_all, rfl⟩ | grind [XE]
set_option maxRecDepth 20000 in
theorem r_other {D : FD} {P h n : Nat} (hC : FMS M 54 D) (hX : XMP M 54 P) (hh : h < dn D) (hn : M.1 49 20 = nI n) (hn2 : n ≤ 9) (hk : 2 ≤ dK D h) : XC g l mX8_sizeOfOther (d + 8) [xr 49, xi (nI h)] M (XE (some (xi (sizeV D P h))) (wrM M n (sizeT (dK D h)))) := by
  have hn6 := hC.1
  have hK := hC.2.2.2.2.2.1
  have hW := hC.2.2.2.2.2.2.2.1
  have hH := hC.2.2.2.2.2.2.2.2.1
  have hG := hC.2.2.2.2.2.2.2.2.2 h hh
  show XW g l mX8_sizeOfOther _ 0 [some (xr 49), some (xi (nI h))] [] M _
  refine xw_aload_n dX8_sizeOfOther_0 rfl ?_
  refine xw_getR dX8_sizeOfOther_1 fl_X8_22 rfl rfl ?_
  refine xw_iconst (v := 4) dX8_sizeOfOther_4 (by decide) ?_
  refine xw_iload_n dX8_sizeOfOther_5 rfl ?_
  refine xw_iaddN (a := 4) dX8_sizeOfOther_6 ?_
  refine xw_ialN _ dX8_sizeOfOther_7 rfl (rfl) (hK h hh) rfl ?_ ?_
  · omega
  refine xw_iconst (v := 3) dX8_sizeOfOther_8 (by decide) ?_
  refine xw_icmp_neN (b := 3) (tgt := 20) dX8_sizeOfOther_9 (by decide) (by omega) (fun c9 => ?_) (fun c9 => ?_)
  · refine xw_aload_n dX8_sizeOfOther_20 rfl ?_
    refine xw_getR dX8_sizeOfOther_21 fl_X8_22 rfl rfl ?_
    refine xw_iconst (v := 4) dX8_sizeOfOther_24 (by decide) ?_
    refine xw_iload_n dX8_sizeOfOther_25 rfl ?_
    refine xw_iaddN (a := 4) dX8_sizeOfOther_26 ?_
    refine xw_ialN _ dX8_sizeOfOther_27 rfl (rfl) (hK h hh) rfl ?_ ?_
    · omega
    refine xw_iconst (v := 5) dX8_sizeOfOther_28 (by decide) ?_
    refine xw_icmp_neN (b := 5) (tgt := 40) dX8_sizeOfOther_29 (by decide) (by omega) (fun c29 => ?_) (fun c29 => ?_)
    · refine xw_aload_n dX8_sizeOfOther_40 rfl ?_
      refine xw_iload_n dX8_sizeOfOther_41 rfl ?_
      refine xw_cV1E dX8_sizeOfOther_42 okX8_body11 ml_X8_265 rfl rfl rfl rfl (r_body11 hC hX hh hn (by omega) (by omega)) ?_
      refine xw_ireti dX8_sizeOfOther_45 rfl ?_
      have hkv : dK D h = 2 ∨ dK D h = 3 ∨ dK D h = 4 ∨ dK D h = 5 := by omega
      refine ⟨?_, ?_⟩
      · unfold sizeV
        rcases hkv with z | z | z | z <;> first | (exfalso; omega) | (rw [z]; rfl)
      · unfold sizeT
        rcases hkv with z | z | z | z <;> first | (exfalso; omega) | (rw [z]; rfl)
    · refine xw_aload_n dX8_sizeOfOther_32 rfl ?_
      refine xw_iload_n dX8_sizeOfOther_33 rfl ?_
      refine xw_cV1E dX8_sizeOfOther_34 okX8_body14 ml_X8_271 rfl rfl rfl rfl (r_body14 hC hX hh hn (by omega) (by omega)) ?_
      refine xw_goto (tgt := 45) dX8_sizeOfOther_37 (by decide) ?_
      refine xw_ireti dX8_sizeOfOther_45 rfl ?_
      have hkv : dK D h = 2 ∨ dK D h = 3 ∨ dK D h = 4 ∨ dK D h = 5 := by omega
      refine ⟨?_, ?_⟩
      · unfold sizeV
        rcases hkv with z | z | z | z <;> first | (exfalso; omega) | (rw [z]; rfl)
      · unfold sizeT
        rcases hkv with z | z | z | z <;> first | (exfalso; omega) | (rw [z]; rfl)
  · refine xw_aload_n dX8_sizeOfOther_12 rfl ?_
    refine xw_iload_n dX8_sizeOfOther_13 rfl ?_
    refine xw_cV1E dX8_sizeOfOther_14 okX8_body12 ml_X8_268 rfl rfl rfl rfl (r_body12 hC hX hh hn (by omega) (by omega)) ?_
    refine xw_goto (tgt := 45) dX8_sizeOfOther_17 (by decide) ?_
    refine xw_ireti dX8_sizeOfOther_45 rfl ?_
    have hkv : dK D h = 2 ∨ dK D h = 3 ∨ dK D h = 4 ∨ dK D h = 5 := by omega
    refine ⟨?_, ?_⟩
    · unfold sizeV
      rcases hkv with z | z | z | z <;> first | (exfalso; omega) | (rw [z]; rfl)
    · unfold sizeT
      rcases hkv with z | z | z | z <;> first | (exfalso; omega) | (rw [z]; rfl)
end ASKS
