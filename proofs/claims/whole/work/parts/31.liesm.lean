section LIESM
variable {g : XG} {l : Launch} {d : Nat} {M : XM}
/-- all but the X and what was put aside stays; it is put aside that P was -/
def FrS (M N : XM) (P : Nat) : Prop := (∀ a b, a ≠ 59 → (a = 54 → b < 10 ∨ 16 ≤ b) → N.1 a b = M.1 a b) ∧ N.2 = M.2 ∧ ∀ i, i < 6 → N.1 59 i = nI (px P i)
def Fr59 (M N : XM) : Prop := (∀ a b, a ≠ 59 → N.1 a b = M.1 a b) ∧ N.2 = M.2
theorem Fr59.rf (M : XM) : Fr59 M M := ⟨fun _ _ _ => rfl, rfl⟩
theorem Fr59.tr {M M1 M2 : XM} (h : Fr59 M M1) (h2 : Fr59 M1 M2) : Fr59 M M2 := ⟨fun a b q => (h2.1 a b q).trans (h.1 a b q), h2.2.trans h.2⟩
theorem FMS.f59 {M N : XM} {D : FD} (h : FMS M 54 D) (hF : Fr59 M N) : FMS N 54 D := h.keep2 (fun b _ _ => hF.1 54 b (by decide))
theorem XMP.f59 {M N : XM} {P : Nat} (h : XMP M 54 P) (hF : Fr59 M N) : XMP N 54 P := fun k hk => (hF.1 54 _ (by decide)).trans (h k hk)
theorem FMS.frS {M N : XM} {D : FD} {P : Nat} (h : FMS M 54 D) (hF : FrS M N P) : FMS N 54 D := h.keep (fun b h1 _ => hF.1 54 b (by decide) (fun _ => h1))
theorem FrS.mv {M N : XM} {P s n : Nat} (h : FrS M N P) (hn : n ≤ 6) : FrS M (mvX N s n) P := ⟨fun a b q1 q2 => by rw [mvX_at (by omega) hn]; exact h.1 a b q1 q2, h.2.1, fun i hi => by rw [mvX_at (by omega) hn]; exact h.2.2 i hi⟩
theorem FrS.back {M N N2 : XM} {P : Nat} (h : FrS M N P) (hX : XMP M 54 P) (h2 : ∀ a b, N2.1 a b = if a = 54 ∧ 10 ≤ b ∧ b < 16 then nI (px P (b - 10)) else N.1 a b) (h3 : N2.2 = N.2) : Fr59 M N2 := by
  refine ⟨fun a b q => ?_, h3.trans h.2.1⟩
  rw [h2]
  by_cases e : a = 54 ∧ 10 ≤ b ∧ b < 16
  · rw [if_pos e, e.1]
    have := hX (b - 10) (by omega)
    rw [show 10 + (b - 10) = b by omega] at this
    exact this.symm
  · rw [if_neg e]; exact h.1 a b q (by omega)
def paM (M : XM) (P k : Nat) : XM := xum M 59 (fun i => if i < k then nI (px P i) else M.1 59 i)
theorem paM_at (M : XM) (P k a b : Nat) : (paM M P k).1 a b = if a = 59 ∧ b < k then nI (px P b) else M.1 a b := by
  unfold paM
  rw [xum_at]
  by_cases e : a = 59
  · subst e; simp
  · simp [e]
theorem paM_s (M : XM) (P k : Nat) : xup (paM M P k) 59 k (nI (px P k)) = paM M P (k + 1) := xm_ext (fun a b => by
  rw [xup_at, paM_at, paM_at]
  by_cases q : a = 59 ∧ b = k
  · rw [if_pos q, if_pos (by omega), q.2]
  · rw [if_neg q]
    by_cases z : a = 59 ∧ b < k
    · rw [if_pos z, if_pos (by omega)]
    · rw [if_neg z, if_neg (show ¬ (a = 59 ∧ b < k + 1) by omega)]) (fun _ _ => rfl)
def pbM (M : XM) (P k : Nat) : XM := xum M 54 (fun i => if 10 ≤ i ∧ i < 10 + k then nI (px P (i - 10)) else M.1 54 i)
theorem pbM_at (M : XM) (P k a b : Nat) : (pbM M P k).1 a b = if a = 54 ∧ 10 ≤ b ∧ b < 10 + k then nI (px P (b - 10)) else M.1 a b := by
  unfold pbM
  rw [xum_at]
  by_cases e : a = 54
  · subst e; simp
  · simp [e]
theorem pbM_s (M : XM) (P k : Nat) : xup (pbM M P k) 54 (10 + k) (nI (px P k)) = pbM M P (k + 1) := xm_ext (fun a b => by
  rw [xup_at, pbM_at, pbM_at]
  by_cases q : a = 54 ∧ b = 10 + k
  · rw [if_pos q, if_pos (by omega), show b - 10 = k by omega]
  · rw [if_neg q]
    by_cases z : a = 54 ∧ 10 ≤ b ∧ b < 10 + k
    · rw [if_pos z, if_pos (by omega)]
    · rw [if_neg z, if_neg (show ¬ (a = 54 ∧ 10 ≤ b ∧ b < 10 + (k + 1)) by omega)]) (fun _ _ => rfl)
set_option maxRecDepth 20000 in
theorem lp_X8_putAside {PP : Nat} (hX : XMP M 54 PP) : ∀ (q k : Nat), k + q = 6 → XW g l mX8_putAside d 2 [some (xr 49), some (xi (nI k))] [] (paM M PP k) (XE none (paM M PP 6)) := by
  intro q
  induction q with
  | zero =>
    intro k hk
    have hk : k = 6 := by omega
    subst hk
    refine xw_iload_n dX8_putAside_2 rfl ?_
    refine xw_bipush (v := 6) dX8_putAside_3 (by decide) ?_
    refine xw_icmp_geN (b := 6) (tgt := 29) dX8_putAside_5 (by decide) (by omega) (fun c5 => ?_) (fun c5 => ?_)
    · refine xw_ret dX8_putAside_29 rfl ?_
      first | exact ⟨rfl, rfl⟩ | exact ⟨rfl, by simp_all⟩
    · exfalso; omega
  | succ q ih =>
    intro k hk
    have ih2 := ih (k + 1) (by omega)
    rw [← paM_s] at ih2
    refine xw_iload_n dX8_putAside_2 rfl ?_
    refine xw_bipush (v := 6) dX8_putAside_3 (by decide) ?_
    refine xw_icmp_geN (b := 6) (tgt := 29) dX8_putAside_5 (by decide) (by omega) (fun c5 => ?_) (fun c5 => ?_)
    · exfalso; omega
    · refine xw_aload_n dX8_putAside_8 rfl ?_
      refine xw_getR dX8_putAside_9 fl_X8_38 rfl rfl ?_
      refine xw_iload_n dX8_putAside_12 rfl ?_
      refine xw_aload_n dX8_putAside_13 rfl ?_
      refine xw_getR dX8_putAside_14 fl_X8_22 rfl rfl ?_
      refine xw_bipush (v := 10) dX8_putAside_17 (by decide) ?_
      refine xw_iload_n dX8_putAside_19 rfl ?_
      refine xw_iaddN (a := 10) dX8_putAside_20 ?_
      refine xw_ialN _ dX8_putAside_21 rfl (rfl) (show _ = nI (px PP k) by rw [paM_at, if_neg (by omega)]; exact hX k (by omega)) rfl ?_ ?_
      · omega
      refine xw_iasN _ dX8_putAside_22 rfl (rfl) rfl ?_ ?_
      · omega
      refine xw_iincN (v := 1) dX8_putAside_23 (by decide) rfl rfl rfl ?_
      refine xw_goto (tgt := 2) dX8_putAside_26 (by decide) ?_
      exact ih2
set_option maxRecDepth 20000 in
theorem s_X8_putAside {PP : Nat} (hX : XMP M 54 PP) : XC g l mX8_putAside d [xr 49] M (XE none (paM M PP 6)) := by
  show XW g l mX8_putAside _ 0 [some (xr 49), none] [] M _
  refine xw_iconst (v := 0) dX8_putAside_0 (by decide) ?_
  refine xw_istore_n dX8_putAside_1 rfl rfl ?_
  have e9 := lp_X8_putAside (g := g) (l := l) (d := d) hX 6 0 (by omega)
  rwa [show paM M PP 0 = M from xm_ext (fun a b => by rw [paM_at, if_neg (by omega)]) (fun _ _ => rfl)] at e9
set_option maxRecDepth 20000 in
theorem lp_X8_putBack {PP : Nat} (hX : ∀ i, i < 6 → M.1 59 i = nI (px PP i)) : ∀ (q k : Nat), k + q = 6 → XW g l mX8_putBack d 2 [some (xr 49), some (xi (nI k))] [] (pbM M PP k) (XE none (pbM M PP 6)) := by
  intro q
  induction q with
  | zero =>
    intro k hk
    have hk : k = 6 := by omega
    subst hk
    refine xw_iload_n dX8_putBack_2 rfl ?_
    refine xw_bipush (v := 6) dX8_putBack_3 (by decide) ?_
    refine xw_icmp_geN (b := 6) (tgt := 29) dX8_putBack_5 (by decide) (by omega) (fun c5 => ?_) (fun c5 => ?_)
    · refine xw_ret dX8_putBack_29 rfl ?_
      first | exact ⟨rfl, rfl⟩ | exact ⟨rfl, by simp_all⟩
    · exfalso; omega
  | succ q ih =>
    intro k hk
    have ih2 := ih (k + 1) (by omega)
    rw [← pbM_s] at ih2
    refine xw_iload_n dX8_putBack_2 rfl ?_
    refine xw_bipush (v := 6) dX8_putBack_3 (by decide) ?_
    refine xw_icmp_geN (b := 6) (tgt := 29) dX8_putBack_5 (by decide) (by omega) (fun c5 => ?_) (fun c5 => ?_)
    · exfalso; omega
    · refine xw_aload_n dX8_putBack_8 rfl ?_
      refine xw_getR dX8_putBack_9 fl_X8_22 rfl rfl ?_
      refine xw_bipush (v := 10) dX8_putBack_12 (by decide) ?_
      refine xw_iload_n dX8_putBack_14 rfl ?_
      refine xw_iaddN (a := 10) dX8_putBack_15 ?_
      refine xw_aload_n dX8_putBack_16 rfl ?_
      refine xw_getR dX8_putBack_17 fl_X8_38 rfl rfl ?_
      refine xw_iload_n dX8_putBack_20 rfl ?_
      refine xw_ialN _ dX8_putBack_21 rfl (rfl) (show _ = nI (px PP k) by rw [pbM_at, if_neg (by omega)]; exact hX k (by omega)) rfl ?_ ?_
      · omega
      refine xw_iasN _ dX8_putBack_22 rfl (rfl) rfl ?_ ?_
      · omega
      refine xw_iincN (v := 1) dX8_putBack_23 (by decide) rfl rfl rfl ?_
      refine xw_goto (tgt := 2) dX8_putBack_26 (by decide) ?_
      exact ih2
set_option maxRecDepth 20000 in
theorem s_X8_putBack {PP : Nat} (hX : ∀ i, i < 6 → M.1 59 i = nI (px PP i)) : XC g l mX8_putBack d [xr 49] M (XE none (pbM M PP 6)) := by
  show XW g l mX8_putBack _ 0 [some (xr 49), none] [] M _
  refine xw_iconst (v := 0) dX8_putBack_0 (by decide) ?_
  refine xw_istore_n dX8_putBack_1 rfl rfl ?_
  have e9 := lp_X8_putBack (g := g) (l := l) (d := d) hX 6 0 (by omega)
  rwa [show pbM M PP 0 = M from xm_ext (fun a b => by rw [pbM_at, if_neg (by omega)]) (fun _ _ => rfl)] at e9
set_option maxRecDepth 20000 in
theorem lp2_X8_isSo {D : FD} {a b n set PP : Nat} {it : Nat → Nat} {v : Nat → Int32} (hC : FMS M 54 D) (hX : XMP M 54 PP) (hP : PP < 2 ^ 24) (hg : GW D PP) (ha : a < 8) (hb : b < 8) (hn : n ≤ 8) (hset : set < 256) (hit : ∀ j, j < n → M.1 52 (40 * a + j) = nI (it j) ∧ it j < dn D) (hv : ∀ h, h < dn D → M.1 52 (40 * b + h) = v h)  : ∀ (q k : Nat) (v5 : Int32) (w : Int32) (N : XM), k + q = dn D → FrS M N PP → XMP N 54 (stB D it PP n set) → ((w = 1 ∧ ∀ h, h < k → nI (px (stB D it PP n set) h) = v h) ∨ (w = 0 ∧ ¬ ∀ h, h < k → nI (px (stB D it PP n set) h) = v h)) → XW g l mX8_isSo (d + 3) 68 [some (xr 49), some (xi (nI a)), some (xi (nI n)), some (xi (nI b)), some (xi (nI set)), some (xi v5), some (xi w), some (xi (nI k))] [] N (fun r M' => ((fitS D it PP n v set ∧ r = some (xi 1)) ∨ (¬ fitS D it PP n v set ∧ r = some (xi 0))) ∧ Fr59 M M') := by
  have hhs : ∀ h, h < dn D → 1 ≤ dW D h := fun k hk => (hC.2.2.2.2.2.2.2.2.2 k hk).2.1
  have hn6 := hC.1
  intro q
  induction q with
  | zero =>
    intro k v5 w N hk hF hX2 hw
    have hk : k = dn D := by omega
    subst hk
    have hN2 : N.1 54 3 = nI (dn D) := (hF.1 54 3 (by decide) (by omega)).trans hC.2.2.2.1
    refine xw_iload dX8_isSo_68 rfl ?_
    refine xw_aload_n dX8_isSo_70 rfl ?_
    refine xw_getR dX8_isSo_71 fl_X8_22 rfl rfl ?_
    refine xw_iconst (v := 3) dX8_isSo_74 (by decide) ?_
    refine xw_ialN 3 dX8_isSo_75 rfl (rfl) (hN2) rfl ?_ ?_
    · omega
    refine xw_icmp_geN (tgt := 122) dX8_isSo_76 (by decide) (by omega) (fun c76 => ?_) (fun c76 => ?_)
    · refine xw_aload_n dX8_isSo_122 rfl ?_
      refine xw_cV0N dX8_isSo_123 okX8_putBack ml_X8_222 rfl rfl rfl rfl (s_X8_putBack hF.2.2) ?_
      refine xw_iload dX8_isSo_126 rfl ?_
      refine xw_iretz dX8_isSo_128 rfl ?_ ?_
      · rcases hw with z | z
        · exact Or.inr z.1
        · exact Or.inl z.1
      · have e9 := hF.back hX (N2 := pbM N PP 6) (fun a b => pbM_at N PP 6 a b) rfl
        rcases hw with ⟨rfl, z⟩ | ⟨rfl, z⟩
        · exact ⟨Or.inl ⟨z, rfl⟩, e9⟩
        · exact ⟨Or.inr ⟨z, rfl⟩, e9⟩
    · exfalso; omega
  | succ q ih =>
    intro k v5 w N hk hF hX2 hw
    have hN2 : N.1 54 3 = nI (dn D) := (hF.1 54 3 (by decide) (by omega)).trans hC.2.2.2.1
    have hvk : N.1 52 (40 * b + k) = v k := (hF.1 52 _ (by decide) (by omega)).trans (hv k (by omega))
    have hxk := hX2 k (by omega)
    rcases hw with ⟨rfl, h0⟩ | ⟨rfl, h0⟩
    · refine xw_iload dX8_isSo_68 rfl ?_
      refine xw_aload_n dX8_isSo_70 rfl ?_
      refine xw_getR dX8_isSo_71 fl_X8_22 rfl rfl ?_
      refine xw_iconst (v := 3) dX8_isSo_74 (by decide) ?_
      refine xw_ialN 3 dX8_isSo_75 rfl (rfl) (hN2) rfl ?_ ?_
      · omega
      refine xw_icmp_geN (tgt := 122) dX8_isSo_76 (by decide) (by omega) (fun c76 => ?_) (fun c76 => ?_)
      · exfalso; omega
      · refine xw_iload dX8_isSo_79 rfl ?_
        refine xw_if_eq (tgt := 113) dX8_isSo_81 (by decide) (fun q9 => absurd q9 (by decide)) (fun _ => ?_)
        refine xw_aload_n dX8_isSo_84 rfl ?_
        refine xw_getR dX8_isSo_85 fl_X8_22 rfl rfl ?_
        refine xw_bipush (v := 10) dX8_isSo_88 (by decide) ?_
        refine xw_iload dX8_isSo_90 rfl ?_
        refine xw_iaddN (a := 10) dX8_isSo_92 ?_
        refine xw_ialN _ dX8_isSo_93 rfl (rfl) (hxk) rfl ?_ ?_
        · omega
        refine xw_aload_n dX8_isSo_94 rfl ?_
        refine xw_getR dX8_isSo_95 fl_X8_16 rfl rfl ?_
        refine xw_bipush (v := 40) dX8_isSo_98 (by decide) ?_
        refine xw_iload_n dX8_isSo_100 rfl ?_
        refine xw_imulN (a := 40) dX8_isSo_101 ?_
        refine xw_iload dX8_isSo_102 rfl ?_
        refine xw_iaddN dX8_isSo_104 ?_
        refine xw_ialN _ dX8_isSo_105 rfl (rfl) (hvk) rfl ?_ ?_
        · omega
        refine xw_icmp_ne (tgt := 113) dX8_isSo_106 (by decide) (fun c106 => ?_) (fun c106 => ?_)
        · refine xw_iconst (v := 0) dX8_isSo_113 (by decide) ?_
          refine xw_istore dX8_isSo_114 rfl rfl ?_
          refine xw_iincN (v := 1) dX8_isSo_116 (by decide) rfl rfl rfl ?_
          refine xw_goto (tgt := 68) dX8_isSo_119 (by decide) ?_
          first
          | (refine ih (k + 1) _ 1 N (by omega) hF hX2 (Or.inl ⟨rfl, fun h hh => ?_⟩)
             rcases Nat.lt_or_ge h k with z | z
             · exact h0 h z
             · rw [show h = k by omega]; exact c106)
          | exact ih (k + 1) _ 0 N (by omega) hF hX2 (Or.inr ⟨rfl, fun z => c106 (z k (by omega))⟩)
        · refine xw_iconst (v := 1) dX8_isSo_109 (by decide) ?_
          refine xw_goto (tgt := 114) dX8_isSo_110 (by decide) ?_
          refine xw_istore dX8_isSo_114 rfl rfl ?_
          refine xw_iincN (v := 1) dX8_isSo_116 (by decide) rfl rfl rfl ?_
          refine xw_goto (tgt := 68) dX8_isSo_119 (by decide) ?_
          first
          | (refine ih (k + 1) _ 1 N (by omega) hF hX2 (Or.inl ⟨rfl, fun h hh => ?_⟩)
             rcases Nat.lt_or_ge h k with z | z
             · exact h0 h z
             · rw [show h = k by omega]; exact c106)
          | exact ih (k + 1) _ 0 N (by omega) hF hX2 (Or.inr ⟨rfl, fun z => c106 (z k (by omega))⟩)
    · refine xw_iload dX8_isSo_68 rfl ?_
      refine xw_aload_n dX8_isSo_70 rfl ?_
      refine xw_getR dX8_isSo_71 fl_X8_22 rfl rfl ?_
      refine xw_iconst (v := 3) dX8_isSo_74 (by decide) ?_
      refine xw_ialN 3 dX8_isSo_75 rfl (rfl) (hN2) rfl ?_ ?_
      · omega
      refine xw_icmp_geN (tgt := 122) dX8_isSo_76 (by decide) (by omega) (fun c76 => ?_) (fun c76 => ?_)
      · exfalso; omega
      · refine xw_iload dX8_isSo_79 rfl ?_
        refine xw_if_eq (tgt := 113) dX8_isSo_81 (by decide) (fun _ => ?_) (fun q9 => absurd q9 (by decide))
        refine xw_iconst (v := 0) dX8_isSo_113 (by decide) ?_
        refine xw_istore dX8_isSo_114 rfl rfl ?_
        refine xw_iincN (v := 1) dX8_isSo_116 (by decide) rfl rfl rfl ?_
        refine xw_goto (tgt := 68) dX8_isSo_119 (by decide) ?_
        exact ih (k + 1) _ 0 N (by omega) hF hX2 (Or.inr ⟨rfl, fun z => h0 (fun h hh => z h (by omega))⟩)
set_option maxRecDepth 20000 in
theorem lp1_X8_isSo {D : FD} {a b n set PP : Nat} {it : Nat → Nat} {v : Nat → Int32} (hC : FMS M 54 D) (hX : XMP M 54 PP) (hP : PP < 2 ^ 24) (hg : GW D PP) (ha : a < 8) (hb : b < 8) (hn : n ≤ 8) (hset : set < 256) (hit : ∀ j, j < n → M.1 52 (40 * a + j) = nI (it j) ∧ it j < dn D) (hv : ∀ h, h < dn D → M.1 52 (40 * b + h) = v h)  : ∀ (q k sl : Nat) (N : XM), k + q = n → sl < 64 → FrS M N PP → XMP N 54 (stB D it PP k set) → XW g l mX8_isSo (d + 3) 10 [some (xr 49), some (xi (nI a)), some (xi (nI n)), some (xi (nI b)), some (xi (nI set)), some (xi (nI sl)), some (xi (nI k)), none] [] N (fun r M' => ((fitS D it PP n v set ∧ r = some (xi 1)) ∨ (¬ fitS D it PP n v set ∧ r = some (xi 0))) ∧ Fr59 M M') := by
  have hhs : ∀ h, h < dn D → 1 ≤ dW D h := fun k hk => (hC.2.2.2.2.2.2.2.2.2 k hk).2.1
  have hn6 := hC.1
  intro q
  induction q with
  | zero =>
    intro k sl N hk hsl hF hX2
    have hk : k = n := by omega
    subst hk
    refine xw_iload dX8_isSo_10 rfl ?_
    refine xw_iload_n dX8_isSo_12 rfl ?_
    refine xw_icmp_geN (tgt := 53) dX8_isSo_13 (by decide) (by omega) (fun c13 => ?_) (fun c13 => ?_)
    · refine xw_iload dX8_isSo_53 rfl ?_
      refine xw_if_ltN (tgt := 62) dX8_isSo_55 (by decide) (by omega) ?_
      refine xw_iconst (v := 1) dX8_isSo_58 (by decide) ?_
      refine xw_goto (tgt := 63) dX8_isSo_59 (by decide) ?_
      refine xw_istore dX8_isSo_63 rfl rfl ?_
      refine xw_iconst (v := 0) dX8_isSo_65 (by decide) ?_
      refine xw_istore dX8_isSo_66 rfl rfl ?_
      exact lp2_X8_isSo hC hX hP hg ha hb hn hset hit hv (dn D) 0 _ 1 N (by omega) hF hX2 (Or.inl ⟨rfl, fun _ z => absurd z (by omega)⟩)
    · exfalso; omega
  | succ q ih =>
    intro k sl N hk hsl hF hX2
    have hik := hit k (by omega)
    have hI1 : N.1 52 (40 * a + k) = nI (it k) := (hF.1 52 _ (by decide) (by omega)).trans hik.1
    have hok := stB_ok (D := D) (it := it) hn6 hhs hP hg k set (fun j hj => (hit j (by omega)).2)
    have hC2 := hC.frS hF
    have hv2 := slV_lt D (stB D it PP k set) (it k) hn6
    have e8 : stB D it PP (k + 1) set = if set.testBit k = true then slP D (stB D it PP k set) (it k) else stB D it PP k set := rfl
    refine xw_iload dX8_isSo_10 rfl ?_
    refine xw_iload_n dX8_isSo_12 rfl ?_
    refine xw_icmp_geN (tgt := 53) dX8_isSo_13 (by decide) (by omega) (fun c13 => ?_) (fun c13 => ?_)
    · exfalso; omega
    · refine xw_iload dX8_isSo_16 rfl ?_
      refine xw_iload dX8_isSo_18 rfl ?_
      refine xw_cS2B dX8_isSo_20 okX8_has ml_X8_184 rfl rfl (s_X8_has (by omega) (by omega)) (fun p20 => ?_) (fun p20 => ?_)
      · refine xw_if_eq (tgt := 47) dX8_isSo_23 (by decide) (fun q9 => absurd q9 (by decide)) (fun _ => ?_)
        refine xw_iload dX8_isSo_26 rfl ?_
        refine xw_aload_n dX8_isSo_28 rfl ?_
        refine xw_aload_n dX8_isSo_29 rfl ?_
        refine xw_getR dX8_isSo_30 fl_X8_16 rfl rfl ?_
        refine xw_bipush (v := 40) dX8_isSo_33 (by decide) ?_
        refine xw_iload_n dX8_isSo_35 rfl ?_
        refine xw_imulN (a := 40) dX8_isSo_36 ?_
        refine xw_iload dX8_isSo_37 rfl ?_
        refine xw_iaddN dX8_isSo_39 ?_
        refine xw_ialN _ dX8_isSo_40 rfl (rfl) (hI1) rfl ?_ ?_
        · omega
        refine xw_cV1E dX8_isSo_41 okX8_slide ml_X8_196 rfl rfl rfl rfl (s_X8_slide hC2 hX2 hok.2 hik.2) ?_
        refine xw_iorN dX8_isSo_44 ?_
        refine xw_istore dX8_isSo_45 rfl rfl ?_
        refine xw_iincN (v := 1) dX8_isSo_47 (by decide) rfl rfl rfl ?_
        refine xw_goto (tgt := 10) dX8_isSo_50 (by decide) ?_
        first
        | (refine ih (k + 1) _ _ (by omega) (or_lt64 hsl hv2) (hF.mv hn6) ?_
           rw [e8, if_pos p20]
           exact mvX_XMP hX2 hok.1 hn6 hok.2 hhs)
        | (refine ih (k + 1) _ _ (by omega) hsl hF ?_
           rw [e8, if_neg p20]
           exact hX2)
      · refine xw_if_eq (tgt := 47) dX8_isSo_23 (by decide) (fun _ => ?_) (fun q9 => absurd q9 (by decide))
        refine xw_iincN (v := 1) dX8_isSo_47 (by decide) rfl rfl rfl ?_
        refine xw_goto (tgt := 10) dX8_isSo_50 (by decide) ?_
        first
        | (refine ih (k + 1) _ _ (by omega) (or_lt64 hsl hv2) (hF.mv hn6) ?_
           rw [e8, if_pos p20]
           exact mvX_XMP hX2 hok.1 hn6 hok.2 hhs)
        | (refine ih (k + 1) _ _ (by omega) hsl hF ?_
           rw [e8, if_neg p20]
           exact hX2)
set_option maxRecDepth 20000 in
theorem m_isSo {D : FD} {a b n set PP : Nat} {it : Nat → Nat} {v : Nat → Int32} (hC : FMS M 54 D) (hX : XMP M 54 PP) (hP : PP < 2 ^ 24) (hg : GW D PP) (ha : a < 8) (hb : b < 8) (hn : n ≤ 8) (hset : set < 256) (hit : ∀ j, j < n → M.1 52 (40 * a + j) = nI (it j) ∧ it j < dn D) (hv : ∀ h, h < dn D → M.1 52 (40 * b + h) = v h)  : XC g l mX8_isSo (d + 3) [xr 49, xi (nI a), xi (nI n), xi (nI b), xi (nI set)] M (fun r M' => ((fitS D it PP n v set ∧ r = some (xi 1)) ∨ (¬ fitS D it PP n v set ∧ r = some (xi 0))) ∧ Fr59 M M') := by
  show XW g l mX8_isSo _ 0 [some (xr 49), some (xi (nI a)), some (xi (nI n)), some (xi (nI b)), some (xi (nI set)), none, none, none] [] M _
  refine xw_aload_n dX8_isSo_0 rfl ?_
  refine xw_cV0N dX8_isSo_1 okX8_putAside ml_X8_219 rfl rfl rfl rfl (s_X8_putAside hX) ?_
  refine xw_iconst (v := 0) dX8_isSo_4 (by decide) ?_
  refine xw_istore dX8_isSo_5 rfl rfl ?_
  refine xw_iconst (v := 0) dX8_isSo_7 (by decide) ?_
  refine xw_istore dX8_isSo_8 rfl rfl ?_
  exact lp1_X8_isSo hC hX hP hg ha hb hn hset hit hv n 0 0 _ (by omega) (by omega) ⟨fun a b q1 q2 => by rw [paM_at, if_neg (by omega)], rfl, fun i hi => by rw [paM_at, if_pos ⟨rfl, hi⟩]⟩ (fun k hk => by rw [paM_at, if_neg (by omega)]; exact hX k hk)
set_option maxRecDepth 20000 in
theorem wn_state {a n b z : Int32} (h : M.1 54 0 = 0) : XC g l mX8_whyNot (d + 2) [xr 49, xi a, xi n, xi b, xi z] M (XE (some (xi (-1000002))) (M)) := by
  show XW g l mX8_whyNot _ 0 [some (xr 49), some (xi a), some (xi n), some (xi b), some (xi z), none] [] M _
  refine xw_aload_n dX8_whyNot_0 rfl ?_
  refine xw_getR dX8_whyNot_1 fl_X8_22 rfl rfl ?_
  refine xw_iconst (v := 0) dX8_whyNot_4 (by decide) ?_
  refine xw_ialN 0 dX8_whyNot_5 rfl (rfl) (rfl) rfl ?_ ?_
  · omega
  refine xw_if_ne (tgt := 12) dX8_whyNot_6 (by decide) (fun c6 => ?_) (fun c6 => ?_)
  · exfalso; first | contradiction | omega | grind | simp_all
  · refine xw_ldc dX8_whyNot_9 kc_X8_205 ?_
    refine xw_ireti dX8_whyNot_11 rfl ?_
    first | exact ⟨rfl, rfl⟩ | exact ⟨by simp_all, rfl⟩ | grind [XE]
set_option maxRecDepth 20000 in
theorem wn_bad {a n b z : Int32} (h : ¬ M.1 54 0 = 0) (h2 : ¬ ((0 ≤ a ∧ a < 8) ∧ (0 ≤ b ∧ b < 8) ∧ 1 ≤ n ∧ n ≤ 8 ∧ ¬ z = 0)) : XC g l mX8_whyNot (d + 2) [xr 49, xi a, xi n, xi b, xi z] M (XE (some (xi (-1000001))) (M)) := by
  show XW g l mX8_whyNot _ 0 [some (xr 49), some (xi a), some (xi n), some (xi b), some (xi z), none] [] M _
  refine xw_aload_n dX8_whyNot_0 rfl ?_
  refine xw_getR dX8_whyNot_1 fl_X8_22 rfl rfl ?_
  refine xw_iconst (v := 0) dX8_whyNot_4 (by decide) ?_
  refine xw_ialN 0 dX8_whyNot_5 rfl (rfl) (rfl) rfl ?_ ?_
  · omega
  refine xw_if_ne (tgt := 12) dX8_whyNot_6 (by decide) (fun c6 => ?_) (fun c6 => ?_)
  · refine xw_iload_n dX8_whyNot_12 rfl ?_
    refine xw_cS1B dX8_whyNot_13 okX8_isRow ml_X8_60 rfl rfl (s_X8_isRow _) (fun p13 => ?_) (fun p13 => ?_)
    · refine xw_if_eq (tgt := 41) dX8_whyNot_16 (by decide) (fun q9 => absurd q9 (by decide)) (fun _ => ?_)
      refine xw_iload_n dX8_whyNot_19 rfl ?_
      refine xw_cS1B dX8_whyNot_20 okX8_isRow ml_X8_60 rfl rfl (s_X8_isRow _) (fun p20 => ?_) (fun p20 => ?_)
      · refine xw_if_eq (tgt := 41) dX8_whyNot_23 (by decide) (fun q9 => absurd q9 (by decide)) (fun _ => ?_)
        refine xw_iload_n dX8_whyNot_26 rfl ?_
        refine xw_iconst (v := 1) dX8_whyNot_27 (by decide) ?_
        refine xw_bipush (v := 8) dX8_whyNot_28 (by decide) ?_
        refine xw_cS3B dX8_whyNot_30 okX8_in ml_X8_56 rfl rfl (s_X8_in _ _ _) (fun p30 => ?_) (fun p30 => ?_)
        · refine xw_if_eq (tgt := 41) dX8_whyNot_33 (by decide) (fun q9 => absurd q9 (by decide)) (fun _ => ?_)
          refine xw_iload dX8_whyNot_36 rfl ?_
          refine xw_if_ne (tgt := 44) dX8_whyNot_38 (by decide) (fun c38 => ?_) (fun c38 => ?_)
          · exfalso; first | contradiction | omega | grind | simp_all
          · refine xw_ldc dX8_whyNot_41 kc_X8_64 ?_
            refine xw_ireti dX8_whyNot_43 rfl ?_
            first | exact ⟨rfl, rfl⟩ | exact ⟨by simp_all, rfl⟩ | grind [XE]
        · refine xw_if_eq (tgt := 41) dX8_whyNot_33 (by decide) (fun _ => ?_) (fun q9 => absurd q9 (by decide))
          refine xw_ldc dX8_whyNot_41 kc_X8_64 ?_
          refine xw_ireti dX8_whyNot_43 rfl ?_
          first | exact ⟨rfl, rfl⟩ | exact ⟨by simp_all, rfl⟩ | grind [XE]
      · refine xw_if_eq (tgt := 41) dX8_whyNot_23 (by decide) (fun _ => ?_) (fun q9 => absurd q9 (by decide))
        refine xw_ldc dX8_whyNot_41 kc_X8_64 ?_
        refine xw_ireti dX8_whyNot_43 rfl ?_
        first | exact ⟨rfl, rfl⟩ | exact ⟨by simp_all, rfl⟩ | grind [XE]
    · refine xw_if_eq (tgt := 41) dX8_whyNot_16 (by decide) (fun _ => ?_) (fun q9 => absurd q9 (by decide))
      refine xw_ldc dX8_whyNot_41 kc_X8_64 ?_
      refine xw_ireti dX8_whyNot_43 rfl ?_
      first | exact ⟨rfl, rfl⟩ | exact ⟨by simp_all, rfl⟩ | grind [XE]
  · exfalso; first | contradiction | omega | grind | simp_all
set_option maxRecDepth 20000 in
theorem wn_null {a b : Nat} {n : Int32} (h : ¬ M.1 54 0 = 0) (ha : a < 8) (hb : b < 8) (hn : 1 ≤ n ∧ n ≤ 8) (h2 : M.1 50 a = -1000000 ∨ M.1 50 b = -1000000) : XC g l mX8_whyNot (d + 2) [xr 49, xi (nI a), xi n, xi (nI b), xi 1] M (XE (some (xi (-1000011))) (xup M 49 3 1)) := by
  show XW g l mX8_whyNot _ 0 [some (xr 49), some (xi (nI a)), some (xi n), some (xi (nI b)), some (xi 1), none] [] M _
  refine xw_aload_n dX8_whyNot_0 rfl ?_
  refine xw_getR dX8_whyNot_1 fl_X8_22 rfl rfl ?_
  refine xw_iconst (v := 0) dX8_whyNot_4 (by decide) ?_
  refine xw_ialN 0 dX8_whyNot_5 rfl (rfl) (rfl) rfl ?_ ?_
  · omega
  refine xw_if_ne (tgt := 12) dX8_whyNot_6 (by decide) (fun c6 => ?_) (fun c6 => ?_)
  · refine xw_iload_n dX8_whyNot_12 rfl ?_
    refine xw_cS1B dX8_whyNot_13 okX8_isRow ml_X8_60 rfl rfl (s_X8_isRow _) (fun p13 => ?_) (fun p13 => ?_)
    · refine xw_if_eq (tgt := 41) dX8_whyNot_16 (by decide) (fun q9 => absurd q9 (by decide)) (fun _ => ?_)
      refine xw_iload_n dX8_whyNot_19 rfl ?_
      refine xw_cS1B dX8_whyNot_20 okX8_isRow ml_X8_60 rfl rfl (s_X8_isRow _) (fun p20 => ?_) (fun p20 => ?_)
      · refine xw_if_eq (tgt := 41) dX8_whyNot_23 (by decide) (fun q9 => absurd q9 (by decide)) (fun _ => ?_)
        refine xw_iload_n dX8_whyNot_26 rfl ?_
        refine xw_iconst (v := 1) dX8_whyNot_27 (by decide) ?_
        refine xw_bipush (v := 8) dX8_whyNot_28 (by decide) ?_
        refine xw_cS3B dX8_whyNot_30 okX8_in ml_X8_56 rfl rfl (s_X8_in _ _ _) (fun p30 => ?_) (fun p30 => ?_)
        · refine xw_if_eq (tgt := 41) dX8_whyNot_33 (by decide) (fun q9 => absurd q9 (by decide)) (fun _ => ?_)
          refine xw_iload dX8_whyNot_36 rfl ?_
          refine xw_if_ne (tgt := 44) dX8_whyNot_38 (by decide) (fun _ => ?_) (fun q9 => absurd q9 (by decide))
          refine xw_aload_n dX8_whyNot_44 rfl ?_
          refine xw_iload_n dX8_whyNot_45 rfl ?_
          refine xw_cV1B dX8_whyNot_46 okX8_isMissing ml_X8_72 rfl rfl rfl rfl (s_X8_isMissing ha) (fun p46 => ?_) (fun p46 => ?_)
          · refine xw_if_ne (tgt := 60) dX8_whyNot_49 (by decide) (fun _ => ?_) (fun q9 => absurd q9 (by decide))
            refine xw_aload_n dX8_whyNot_60 rfl ?_
            refine xw_iconst (v := 1) dX8_whyNot_61 (by decide) ?_
            refine xw_cV1E dX8_whyNot_62 okX8_finds ml_X8_65 rfl rfl rfl rfl (s_X8_finds _) ?_
            refine xw_ireti dX8_whyNot_65 rfl ?_
            first | exact ⟨rfl, rfl⟩ | exact ⟨by simp_all, rfl⟩ | grind [XE]
          · refine xw_if_ne (tgt := 60) dX8_whyNot_49 (by decide) (fun q9 => absurd q9 (by decide)) (fun _ => ?_)
            refine xw_aload_n dX8_whyNot_52 rfl ?_
            refine xw_iload_n dX8_whyNot_53 rfl ?_
            refine xw_cV1B dX8_whyNot_54 okX8_isMissing ml_X8_72 rfl rfl rfl rfl (s_X8_isMissing hb) (fun p54 => ?_) (fun p54 => ?_)
            · refine xw_if_eq (tgt := 66) dX8_whyNot_57 (by decide) (fun q9 => absurd q9 (by decide)) (fun _ => ?_)
              refine xw_aload_n dX8_whyNot_60 rfl ?_
              refine xw_iconst (v := 1) dX8_whyNot_61 (by decide) ?_
              refine xw_cV1E dX8_whyNot_62 okX8_finds ml_X8_65 rfl rfl rfl rfl (s_X8_finds _) ?_
              refine xw_ireti dX8_whyNot_65 rfl ?_
              first | exact ⟨rfl, rfl⟩ | exact ⟨by simp_all, rfl⟩ | grind [XE]
            · exfalso; first | contradiction | (have e0 := nI_lt8 ha; have e1 := nI_lt8 hb; grind)
        · exfalso; first | contradiction | (have e0 := nI_lt8 ha; have e1 := nI_lt8 hb; grind)
      · exfalso; first | contradiction | (have e0 := nI_lt8 ha; have e1 := nI_lt8 hb; grind)
    · exfalso; first | contradiction | (have e0 := nI_lt8 ha; have e1 := nI_lt8 hb; grind)
  · exfalso; first | contradiction | (have e0 := nI_lt8 ha; have e1 := nI_lt8 hb; grind)
set_option maxRecDepth 20000 in
theorem wn_place {D : FD} {a b n s t : Nat} (h : ¬ M.1 54 0 = 0) (ha : a < 8) (hb : b < 8) (hn : 1 ≤ n ∧ n ≤ 8) (h0 : ¬ M.1 50 a = -1000000) (h1 : ¬ M.1 50 b = -1000000) (hs : M.1 51 a = nI s) (ht : M.1 51 b = nI t) (hs2 : s ≤ 40) (ht2 : t ≤ 40) (hC : FMS M 54 D) (hp : ¬ (n ≤ s ∧ dn D ≤ t)) : XC g l mX8_whyNot (d + 2) [xr 49, xi (nI a), xi (nI n), xi (nI b), xi 1] M (XE (some (xi (-1000012))) (xup M 49 3 2)) := by
  show XW g l mX8_whyNot _ 0 [some (xr 49), some (xi (nI a)), some (xi (nI n)), some (xi (nI b)), some (xi 1), none] [] M _
  have hn6 := hC.1
  have e3 : (1 : Int32) ≤ nI n ∧ nI n ≤ 8 := ⟨nI_le (a := 1) (by omega) (by omega), nI_le (b := 8) (by omega) (by decide)⟩
  refine xw_aload_n dX8_whyNot_0 rfl ?_
  refine xw_getR dX8_whyNot_1 fl_X8_22 rfl rfl ?_
  refine xw_iconst (v := 0) dX8_whyNot_4 (by decide) ?_
  refine xw_ialN 0 dX8_whyNot_5 rfl (rfl) (rfl) rfl ?_ ?_
  · omega
  refine xw_if_ne (tgt := 12) dX8_whyNot_6 (by decide) (fun c6 => ?_) (fun c6 => ?_)
  · refine xw_iload_n dX8_whyNot_12 rfl ?_
    refine xw_cS1B dX8_whyNot_13 okX8_isRow ml_X8_60 rfl rfl (s_X8_isRow _) (fun p13 => ?_) (fun p13 => ?_)
    · refine xw_if_eq (tgt := 41) dX8_whyNot_16 (by decide) (fun q9 => absurd q9 (by decide)) (fun _ => ?_)
      refine xw_iload_n dX8_whyNot_19 rfl ?_
      refine xw_cS1B dX8_whyNot_20 okX8_isRow ml_X8_60 rfl rfl (s_X8_isRow _) (fun p20 => ?_) (fun p20 => ?_)
      · refine xw_if_eq (tgt := 41) dX8_whyNot_23 (by decide) (fun q9 => absurd q9 (by decide)) (fun _ => ?_)
        refine xw_iload_n dX8_whyNot_26 rfl ?_
        refine xw_iconst (v := 1) dX8_whyNot_27 (by decide) ?_
        refine xw_bipush (v := 8) dX8_whyNot_28 (by decide) ?_
        refine xw_cS3B dX8_whyNot_30 okX8_in ml_X8_56 rfl rfl (s_X8_in _ _ _) (fun p30 => ?_) (fun p30 => ?_)
        · refine xw_if_eq (tgt := 41) dX8_whyNot_33 (by decide) (fun q9 => absurd q9 (by decide)) (fun _ => ?_)
          refine xw_iload dX8_whyNot_36 rfl ?_
          refine xw_if_ne (tgt := 44) dX8_whyNot_38 (by decide) (fun _ => ?_) (fun q9 => absurd q9 (by decide))
          refine xw_aload_n dX8_whyNot_44 rfl ?_
          refine xw_iload_n dX8_whyNot_45 rfl ?_
          refine xw_cV1B dX8_whyNot_46 okX8_isMissing ml_X8_72 rfl rfl rfl rfl (s_X8_isMissing ha) (fun p46 => ?_) (fun p46 => ?_)
          · exfalso; first | contradiction | omega | (have e0 := nI_lt8 ha; have e1 := nI_lt8 hb; grind)
          · refine xw_if_ne (tgt := 60) dX8_whyNot_49 (by decide) (fun q9 => absurd q9 (by decide)) (fun _ => ?_)
            refine xw_aload_n dX8_whyNot_52 rfl ?_
            refine xw_iload_n dX8_whyNot_53 rfl ?_
            refine xw_cV1B dX8_whyNot_54 okX8_isMissing ml_X8_72 rfl rfl rfl rfl (s_X8_isMissing hb) (fun p54 => ?_) (fun p54 => ?_)
            · exfalso; first | contradiction | omega | (have e0 := nI_lt8 ha; have e1 := nI_lt8 hb; grind)
            · refine xw_if_eq (tgt := 66) dX8_whyNot_57 (by decide) (fun _ => ?_) (fun q9 => absurd q9 (by decide))
              refine xw_aload_n dX8_whyNot_66 rfl ?_
              refine xw_getR dX8_whyNot_67 fl_X8_13 rfl rfl ?_
              refine xw_iload_n dX8_whyNot_70 rfl ?_
              refine xw_ialN _ dX8_whyNot_71 rfl (rfl) (hs) rfl ?_ ?_
              · omega
              refine xw_iload_n dX8_whyNot_72 rfl ?_
              refine xw_icmp_ltN (tgt := 91) dX8_whyNot_73 (by decide) (by omega) (fun c73 => ?_) (fun c73 => ?_)
              · refine xw_aload_n dX8_whyNot_91 rfl ?_
                refine xw_iconst (v := 2) dX8_whyNot_92 (by decide) ?_
                refine xw_cV1E dX8_whyNot_93 okX8_finds ml_X8_65 rfl rfl rfl rfl (s_X8_finds _) ?_
                refine xw_ireti dX8_whyNot_96 rfl ?_
                first | exact ⟨rfl, rfl⟩ | exact ⟨by simp_all, rfl⟩ | grind [XE]
              · refine xw_aload_n dX8_whyNot_76 rfl ?_
                refine xw_getR dX8_whyNot_77 fl_X8_13 rfl rfl ?_
                refine xw_iload_n dX8_whyNot_80 rfl ?_
                refine xw_ialN _ dX8_whyNot_81 rfl (rfl) (ht) rfl ?_ ?_
                · omega
                refine xw_aload_n dX8_whyNot_82 rfl ?_
                refine xw_getR dX8_whyNot_83 fl_X8_22 rfl rfl ?_
                refine xw_iconst (v := 3) dX8_whyNot_86 (by decide) ?_
                refine xw_ialN 3 dX8_whyNot_87 rfl (rfl) (hC.2.2.2.1) rfl ?_ ?_
                · omega
                refine xw_icmp_geN (tgt := 97) dX8_whyNot_88 (by decide) (by omega) (fun c88 => ?_) (fun c88 => ?_)
                · exfalso; first | contradiction | omega | (have e0 := nI_lt8 ha; have e1 := nI_lt8 hb; grind)
                · refine xw_aload_n dX8_whyNot_91 rfl ?_
                  refine xw_iconst (v := 2) dX8_whyNot_92 (by decide) ?_
                  refine xw_cV1E dX8_whyNot_93 okX8_finds ml_X8_65 rfl rfl rfl rfl (s_X8_finds _) ?_
                  refine xw_ireti dX8_whyNot_96 rfl ?_
                  first | exact ⟨rfl, rfl⟩ | exact ⟨by simp_all, rfl⟩ | grind [XE]
        · exfalso; first | contradiction | omega | (have e0 := nI_lt8 ha; have e1 := nI_lt8 hb; grind)
      · exfalso; first | contradiction | omega | (have e0 := nI_lt8 ha; have e1 := nI_lt8 hb; grind)
    · exfalso; first | contradiction | omega | (have e0 := nI_lt8 ha; have e1 := nI_lt8 hb; grind)
  · exfalso; first | contradiction | omega | (have e0 := nI_lt8 ha; have e1 := nI_lt8 hb; grind)
set_option maxRecDepth 20000 in
theorem lp_wn_no {D : FD} {a b n : Nat} (hC : FMS M 54 D) (ha : a < 8) (hn : n ≤ 40) (hb : ¬ ∀ j, j < n → okHs D (M.1 52 (40 * a + j))) : ∀ (q k : Nat), k + q = n → (∀ j, j < k → okHs D (M.1 52 (40 * a + j))) → XW g l mX8_whyNot (d + 2) 100 [some (xr 49), some (xi (nI a)), some (xi (nI n)), some (xi (nI b)), some (xi 1), some (xi (nI k))] [] M (XE (some (xi (-1000001))) M) := by
  intro q
  induction q with
  | zero =>
    intro k hk h0
    have hk : k = n := by omega
    subst hk
    exact absurd h0 hb
  | succ q ih =>
    intro k hk h0
    refine xw_iload dX8_whyNot_100 rfl ?_
    refine xw_iload_n dX8_whyNot_102 rfl ?_
    refine xw_icmp_geN (tgt := 134) dX8_whyNot_103 (by decide) (by omega) (fun c103 => ?_) (fun c103 => ?_)
    · exfalso; omega
    · refine xw_aload_n dX8_whyNot_106 rfl ?_
      refine xw_aload_n dX8_whyNot_107 rfl ?_
      refine xw_getR dX8_whyNot_108 fl_X8_16 rfl rfl ?_
      refine xw_bipush (v := 40) dX8_whyNot_111 (by decide) ?_
      refine xw_iload_n dX8_whyNot_113 rfl ?_
      refine xw_imulN (a := 40) dX8_whyNot_114 ?_
      refine xw_iload dX8_whyNot_115 rfl ?_
      refine xw_iaddN dX8_whyNot_117 ?_
      refine xw_ialN _ dX8_whyNot_118 rfl (rfl) (rfl) rfl ?_ ?_
      · omega
      refine xw_cV1B dX8_whyNot_119 okX8_isThere ml_X8_199 rfl rfl rfl rfl (s_X8_isThere hC.2.2.2.1 hC.1 _) (fun p119 => ?_) (fun p119 => ?_)
      · refine xw_if_ne (tgt := 128) dX8_whyNot_122 (by decide) (fun _ => ?_) (fun q9 => absurd q9 (by decide))
        refine xw_iincN (v := 1) dX8_whyNot_128 (by decide) rfl rfl rfl ?_
        refine xw_goto (tgt := 100) dX8_whyNot_131 (by decide) ?_
        refine ih (k + 1) (by omega) (fun j hj => ?_)
        rcases Nat.lt_or_ge j k with z | z
        · exact h0 j z
        · rw [show j = k by omega]; exact p119
      · refine xw_if_ne (tgt := 128) dX8_whyNot_122 (by decide) (fun q9 => absurd q9 (by decide)) (fun _ => ?_)
        refine xw_ldc dX8_whyNot_125 kc_X8_64 ?_
        refine xw_ireti dX8_whyNot_127 rfl ?_
        first | exact ⟨rfl, rfl⟩ | exact ⟨by simp_all, rfl⟩ | grind [XE]
set_option maxRecDepth 20000 in
theorem lp_wn_ok {D : FD} {a b n : Nat} (hC : FMS M 54 D) (ha : a < 8) (hn : n ≤ 40) (hb : ∀ j, j < n → okHs D (M.1 52 (40 * a + j))) : ∀ (q k : Nat), k + q = n → XW g l mX8_whyNot (d + 2) 100 [some (xr 49), some (xi (nI a)), some (xi (nI n)), some (xi (nI b)), some (xi 1), some (xi (nI k))] [] M (XE (some (xi 0)) (xup M 49 3 0)) := by
  intro q
  induction q with
  | zero =>
    intro k hk
    refine xw_iload dX8_whyNot_100 rfl ?_
    refine xw_iload_n dX8_whyNot_102 rfl ?_
    refine xw_icmp_geN (tgt := 134) dX8_whyNot_103 (by decide) (by omega) (fun c103 => ?_) (fun c103 => ?_)
    · refine xw_aload_n dX8_whyNot_134 rfl ?_
      refine xw_iconst (v := 0) dX8_whyNot_135 (by decide) ?_
      refine xw_putI dX8_whyNot_136 fp_X8_51 rfl rfl ?_
      refine xw_iconst (v := 0) dX8_whyNot_139 (by decide) ?_
      refine xw_ireti dX8_whyNot_140 rfl ?_
      first | exact ⟨rfl, rfl⟩ | exact ⟨by simp_all, rfl⟩ | grind [XE]
    · exfalso; omega
  | succ q ih =>
    intro k hk
    have hbk := hb k (by omega)
    refine xw_iload dX8_whyNot_100 rfl ?_
    refine xw_iload_n dX8_whyNot_102 rfl ?_
    refine xw_icmp_geN (tgt := 134) dX8_whyNot_103 (by decide) (by omega) (fun c103 => ?_) (fun c103 => ?_)
    · exfalso; first | omega | exact p119 hbk
    · refine xw_aload_n dX8_whyNot_106 rfl ?_
      refine xw_aload_n dX8_whyNot_107 rfl ?_
      refine xw_getR dX8_whyNot_108 fl_X8_16 rfl rfl ?_
      refine xw_bipush (v := 40) dX8_whyNot_111 (by decide) ?_
      refine xw_iload_n dX8_whyNot_113 rfl ?_
      refine xw_imulN (a := 40) dX8_whyNot_114 ?_
      refine xw_iload dX8_whyNot_115 rfl ?_
      refine xw_iaddN dX8_whyNot_117 ?_
      refine xw_ialN _ dX8_whyNot_118 rfl (rfl) (rfl) rfl ?_ ?_
      · omega
      refine xw_cV1B dX8_whyNot_119 okX8_isThere ml_X8_199 rfl rfl rfl rfl (s_X8_isThere hC.2.2.2.1 hC.1 _) (fun p119 => ?_) (fun p119 => ?_)
      · refine xw_if_ne (tgt := 128) dX8_whyNot_122 (by decide) (fun _ => ?_) (fun q9 => absurd q9 (by decide))
        refine xw_iincN (v := 1) dX8_whyNot_128 (by decide) rfl rfl rfl ?_
        refine xw_goto (tgt := 100) dX8_whyNot_131 (by decide) ?_
        exact ih (k + 1) (by omega)
      · exfalso; first | omega | exact p119 hbk
set_option maxRecDepth 20000 in
theorem wn_item {D : FD} {a b n s t : Nat} (h : ¬ M.1 54 0 = 0) (ha : a < 8) (hb : b < 8) (hn : 1 ≤ n ∧ n ≤ 8) (h0 : ¬ M.1 50 a = -1000000) (h1 : ¬ M.1 50 b = -1000000) (hs : M.1 51 a = nI s) (ht : M.1 51 b = nI t) (hs2 : s ≤ 40) (ht2 : t ≤ 40) (hC : FMS M 54 D) (hp : n ≤ s ∧ dn D ≤ t) (hx : ¬ ∀ j, j < n → okHs D (M.1 52 (40 * a + j))) : XC g l mX8_whyNot (d + 2) [xr 49, xi (nI a), xi (nI n), xi (nI b), xi 1] M (XE (some (xi (-1000001))) (M)) := by
  show XW g l mX8_whyNot _ 0 [some (xr 49), some (xi (nI a)), some (xi (nI n)), some (xi (nI b)), some (xi 1), none] [] M _
  have hn6 := hC.1
  have e3 : (1 : Int32) ≤ nI n ∧ nI n ≤ 8 := ⟨nI_le (a := 1) (by omega) (by omega), nI_le (b := 8) (by omega) (by decide)⟩
  refine xw_aload_n dX8_whyNot_0 rfl ?_
  refine xw_getR dX8_whyNot_1 fl_X8_22 rfl rfl ?_
  refine xw_iconst (v := 0) dX8_whyNot_4 (by decide) ?_
  refine xw_ialN 0 dX8_whyNot_5 rfl (rfl) (rfl) rfl ?_ ?_
  · omega
  refine xw_if_ne (tgt := 12) dX8_whyNot_6 (by decide) (fun c6 => ?_) (fun c6 => ?_)
  · refine xw_iload_n dX8_whyNot_12 rfl ?_
    refine xw_cS1B dX8_whyNot_13 okX8_isRow ml_X8_60 rfl rfl (s_X8_isRow _) (fun p13 => ?_) (fun p13 => ?_)
    · refine xw_if_eq (tgt := 41) dX8_whyNot_16 (by decide) (fun q9 => absurd q9 (by decide)) (fun _ => ?_)
      refine xw_iload_n dX8_whyNot_19 rfl ?_
      refine xw_cS1B dX8_whyNot_20 okX8_isRow ml_X8_60 rfl rfl (s_X8_isRow _) (fun p20 => ?_) (fun p20 => ?_)
      · refine xw_if_eq (tgt := 41) dX8_whyNot_23 (by decide) (fun q9 => absurd q9 (by decide)) (fun _ => ?_)
        refine xw_iload_n dX8_whyNot_26 rfl ?_
        refine xw_iconst (v := 1) dX8_whyNot_27 (by decide) ?_
        refine xw_bipush (v := 8) dX8_whyNot_28 (by decide) ?_
        refine xw_cS3B dX8_whyNot_30 okX8_in ml_X8_56 rfl rfl (s_X8_in _ _ _) (fun p30 => ?_) (fun p30 => ?_)
        · refine xw_if_eq (tgt := 41) dX8_whyNot_33 (by decide) (fun q9 => absurd q9 (by decide)) (fun _ => ?_)
          refine xw_iload dX8_whyNot_36 rfl ?_
          refine xw_if_ne (tgt := 44) dX8_whyNot_38 (by decide) (fun _ => ?_) (fun q9 => absurd q9 (by decide))
          refine xw_aload_n dX8_whyNot_44 rfl ?_
          refine xw_iload_n dX8_whyNot_45 rfl ?_
          refine xw_cV1B dX8_whyNot_46 okX8_isMissing ml_X8_72 rfl rfl rfl rfl (s_X8_isMissing ha) (fun p46 => ?_) (fun p46 => ?_)
          · exfalso; first | contradiction | omega | (have e0 := nI_lt8 ha; have e1 := nI_lt8 hb; grind)
          · refine xw_if_ne (tgt := 60) dX8_whyNot_49 (by decide) (fun q9 => absurd q9 (by decide)) (fun _ => ?_)
            refine xw_aload_n dX8_whyNot_52 rfl ?_
            refine xw_iload_n dX8_whyNot_53 rfl ?_
            refine xw_cV1B dX8_whyNot_54 okX8_isMissing ml_X8_72 rfl rfl rfl rfl (s_X8_isMissing hb) (fun p54 => ?_) (fun p54 => ?_)
            · exfalso; first | contradiction | omega | (have e0 := nI_lt8 ha; have e1 := nI_lt8 hb; grind)
            · refine xw_if_eq (tgt := 66) dX8_whyNot_57 (by decide) (fun _ => ?_) (fun q9 => absurd q9 (by decide))
              refine xw_aload_n dX8_whyNot_66 rfl ?_
              refine xw_getR dX8_whyNot_67 fl_X8_13 rfl rfl ?_
              refine xw_iload_n dX8_whyNot_70 rfl ?_
              refine xw_ialN _ dX8_whyNot_71 rfl (rfl) (hs) rfl ?_ ?_
              · omega
              refine xw_iload_n dX8_whyNot_72 rfl ?_
              refine xw_icmp_ltN (tgt := 91) dX8_whyNot_73 (by decide) (by omega) (fun c73 => ?_) (fun c73 => ?_)
              · exfalso; first | contradiction | omega | (have e0 := nI_lt8 ha; have e1 := nI_lt8 hb; grind)
              · refine xw_aload_n dX8_whyNot_76 rfl ?_
                refine xw_getR dX8_whyNot_77 fl_X8_13 rfl rfl ?_
                refine xw_iload_n dX8_whyNot_80 rfl ?_
                refine xw_ialN _ dX8_whyNot_81 rfl (rfl) (ht) rfl ?_ ?_
                · omega
                refine xw_aload_n dX8_whyNot_82 rfl ?_
                refine xw_getR dX8_whyNot_83 fl_X8_22 rfl rfl ?_
                refine xw_iconst (v := 3) dX8_whyNot_86 (by decide) ?_
                refine xw_ialN 3 dX8_whyNot_87 rfl (rfl) (hC.2.2.2.1) rfl ?_ ?_
                · omega
                refine xw_icmp_geN (tgt := 97) dX8_whyNot_88 (by decide) (by omega) (fun c88 => ?_) (fun c88 => ?_)
                · refine xw_iconst (v := 0) dX8_whyNot_97 (by decide) ?_
                  refine xw_istore dX8_whyNot_98 rfl rfl ?_
                  exact lp_wn_no hC ha (by omega) hx n 0 (by omega) (fun _ z => absurd z (by omega))
                · exfalso; first | contradiction | omega | (have e0 := nI_lt8 ha; have e1 := nI_lt8 hb; grind)
        · exfalso; first | contradiction | omega | (have e0 := nI_lt8 ha; have e1 := nI_lt8 hb; grind)
      · exfalso; first | contradiction | omega | (have e0 := nI_lt8 ha; have e1 := nI_lt8 hb; grind)
    · exfalso; first | contradiction | omega | (have e0 := nI_lt8 ha; have e1 := nI_lt8 hb; grind)
  · exfalso; first | contradiction | omega | (have e0 := nI_lt8 ha; have e1 := nI_lt8 hb; grind)
set_option maxRecDepth 20000 in
theorem wn_ok {D : FD} {a b n s t : Nat} (h : ¬ M.1 54 0 = 0) (ha : a < 8) (hb : b < 8) (hn : 1 ≤ n ∧ n ≤ 8) (h0 : ¬ M.1 50 a = -1000000) (h1 : ¬ M.1 50 b = -1000000) (hs : M.1 51 a = nI s) (ht : M.1 51 b = nI t) (hs2 : s ≤ 40) (ht2 : t ≤ 40) (hC : FMS M 54 D) (hp : n ≤ s ∧ dn D ≤ t) (hx : ∀ j, j < n → okHs D (M.1 52 (40 * a + j))) : XC g l mX8_whyNot (d + 2) [xr 49, xi (nI a), xi (nI n), xi (nI b), xi 1] M (XE (some (xi (0))) (xup M 49 3 0)) := by
  show XW g l mX8_whyNot _ 0 [some (xr 49), some (xi (nI a)), some (xi (nI n)), some (xi (nI b)), some (xi 1), none] [] M _
  have hn6 := hC.1
  have e3 : (1 : Int32) ≤ nI n ∧ nI n ≤ 8 := ⟨nI_le (a := 1) (by omega) (by omega), nI_le (b := 8) (by omega) (by decide)⟩
  refine xw_aload_n dX8_whyNot_0 rfl ?_
  refine xw_getR dX8_whyNot_1 fl_X8_22 rfl rfl ?_
  refine xw_iconst (v := 0) dX8_whyNot_4 (by decide) ?_
  refine xw_ialN 0 dX8_whyNot_5 rfl (rfl) (rfl) rfl ?_ ?_
  · omega
  refine xw_if_ne (tgt := 12) dX8_whyNot_6 (by decide) (fun c6 => ?_) (fun c6 => ?_)
  · refine xw_iload_n dX8_whyNot_12 rfl ?_
    refine xw_cS1B dX8_whyNot_13 okX8_isRow ml_X8_60 rfl rfl (s_X8_isRow _) (fun p13 => ?_) (fun p13 => ?_)
    · refine xw_if_eq (tgt := 41) dX8_whyNot_16 (by decide) (fun q9 => absurd q9 (by decide)) (fun _ => ?_)
      refine xw_iload_n dX8_whyNot_19 rfl ?_
      refine xw_cS1B dX8_whyNot_20 okX8_isRow ml_X8_60 rfl rfl (s_X8_isRow _) (fun p20 => ?_) (fun p20 => ?_)
      · refine xw_if_eq (tgt := 41) dX8_whyNot_23 (by decide) (fun q9 => absurd q9 (by decide)) (fun _ => ?_)
        refine xw_iload_n dX8_whyNot_26 rfl ?_
        refine xw_iconst (v := 1) dX8_whyNot_27 (by decide) ?_
        refine xw_bipush (v := 8) dX8_whyNot_28 (by decide) ?_
        refine xw_cS3B dX8_whyNot_30 okX8_in ml_X8_56 rfl rfl (s_X8_in _ _ _) (fun p30 => ?_) (fun p30 => ?_)
        · refine xw_if_eq (tgt := 41) dX8_whyNot_33 (by decide) (fun q9 => absurd q9 (by decide)) (fun _ => ?_)
          refine xw_iload dX8_whyNot_36 rfl ?_
          refine xw_if_ne (tgt := 44) dX8_whyNot_38 (by decide) (fun _ => ?_) (fun q9 => absurd q9 (by decide))
          refine xw_aload_n dX8_whyNot_44 rfl ?_
          refine xw_iload_n dX8_whyNot_45 rfl ?_
          refine xw_cV1B dX8_whyNot_46 okX8_isMissing ml_X8_72 rfl rfl rfl rfl (s_X8_isMissing ha) (fun p46 => ?_) (fun p46 => ?_)
          · exfalso; first | contradiction | omega | (have e0 := nI_lt8 ha; have e1 := nI_lt8 hb; grind)
          · refine xw_if_ne (tgt := 60) dX8_whyNot_49 (by decide) (fun q9 => absurd q9 (by decide)) (fun _ => ?_)
            refine xw_aload_n dX8_whyNot_52 rfl ?_
            refine xw_iload_n dX8_whyNot_53 rfl ?_
            refine xw_cV1B dX8_whyNot_54 okX8_isMissing ml_X8_72 rfl rfl rfl rfl (s_X8_isMissing hb) (fun p54 => ?_) (fun p54 => ?_)
            · exfalso; first | contradiction | omega | (have e0 := nI_lt8 ha; have e1 := nI_lt8 hb; grind)
            · refine xw_if_eq (tgt := 66) dX8_whyNot_57 (by decide) (fun _ => ?_) (fun q9 => absurd q9 (by decide))
              refine xw_aload_n dX8_whyNot_66 rfl ?_
              refine xw_getR dX8_whyNot_67 fl_X8_13 rfl rfl ?_
              refine xw_iload_n dX8_whyNot_70 rfl ?_
              refine xw_ialN _ dX8_whyNot_71 rfl (rfl) (hs) rfl ?_ ?_
              · omega
              refine xw_iload_n dX8_whyNot_72 rfl ?_
              refine xw_icmp_ltN (tgt := 91) dX8_whyNot_73 (by decide) (by omega) (fun c73 => ?_) (fun c73 => ?_)
              · exfalso; first | contradiction | omega | (have e0 := nI_lt8 ha; have e1 := nI_lt8 hb; grind)
              · refine xw_aload_n dX8_whyNot_76 rfl ?_
                refine xw_getR dX8_whyNot_77 fl_X8_13 rfl rfl ?_
                refine xw_iload_n dX8_whyNot_80 rfl ?_
                refine xw_ialN _ dX8_whyNot_81 rfl (rfl) (ht) rfl ?_ ?_
                · omega
                refine xw_aload_n dX8_whyNot_82 rfl ?_
                refine xw_getR dX8_whyNot_83 fl_X8_22 rfl rfl ?_
                refine xw_iconst (v := 3) dX8_whyNot_86 (by decide) ?_
                refine xw_ialN 3 dX8_whyNot_87 rfl (rfl) (hC.2.2.2.1) rfl ?_ ?_
                · omega
                refine xw_icmp_geN (tgt := 97) dX8_whyNot_88 (by decide) (by omega) (fun c88 => ?_) (fun c88 => ?_)
                · refine xw_iconst (v := 0) dX8_whyNot_97 (by decide) ?_
                  refine xw_istore dX8_whyNot_98 rfl rfl ?_
                  exact lp_wn_ok hC ha (by omega) hx n 0 (by omega)
                · exfalso; first | contradiction | omega | (have e0 := nI_lt8 ha; have e1 := nI_lt8 hb; grind)
        · exfalso; first | contradiction | omega | (have e0 := nI_lt8 ha; have e1 := nI_lt8 hb; grind)
      · exfalso; first | contradiction | omega | (have e0 := nI_lt8 ha; have e1 := nI_lt8 hb; grind)
    · exfalso; first | contradiction | omega | (have e0 := nI_lt8 ha; have e1 := nI_lt8 hb; grind)
  · exfalso; first | contradiction | omega | (have e0 := nI_lt8 ha; have e1 := nI_lt8 hb; grind)
set_option maxRecDepth 20000 in
theorem k_X8_lies_state {a n b i : Int32} (h : M.1 54 0 = 0) : XC g l mX8_lies (d + 4) [xr 49, xi a, xi n, xi b, xi i] M (XE (some (xi (-1000002))) (M)) := by
  show XW g l mX8_lies _ 0 [some (xr 49), some (xi a), some (xi n), some (xi b), some (xi i), none, none, none] [] M _
  refine xw_aload_n dX8_lies_0 rfl ?_
  refine xw_iload_n dX8_lies_1 rfl ?_
  refine xw_iload_n dX8_lies_2 rfl ?_
  refine xw_iload_n dX8_lies_3 rfl ?_
  refine xw_iload dX8_lies_4 rfl ?_
  refine xw_iconst (v := (-1)) dX8_lies_6 (by decide) ?_
  refine xw_icmp_lt (tgt := 14) dX8_lies_7 (by decide) (fun c7 => ?_) (fun c7 => ?_)
  · refine xw_iconst (v := 0) dX8_lies_14 (by decide) ?_
    refine xw_cV4E dX8_lies_15 okX8_whyNot ml_X8_225 rfl rfl rfl rfl (wn_state h) ?_
    refine xw_istore dX8_lies_18 rfl rfl ?_
    refine xw_iload dX8_lies_20 rfl ?_
    refine xw_if_eq (tgt := 28) dX8_lies_22 (by decide) (fun c22 => ?_) (fun c22 => ?_)
    · exfalso; exact absurd (by assumption) (by decide)
    · refine xw_iload dX8_lies_25 rfl ?_
      refine xw_ireti dX8_lies_27 rfl ?_
      exact ⟨rfl, rfl⟩
  · refine xw_iconst (v := 1) dX8_lies_10 (by decide) ?_
    refine xw_goto (tgt := 15) dX8_lies_11 (by decide) ?_
    refine xw_cV4E dX8_lies_15 okX8_whyNot ml_X8_225 rfl rfl rfl rfl (wn_state h) ?_
    refine xw_istore dX8_lies_18 rfl rfl ?_
    refine xw_iload dX8_lies_20 rfl ?_
    refine xw_if_eq (tgt := 28) dX8_lies_22 (by decide) (fun c22 => ?_) (fun c22 => ?_)
    · exfalso; exact absurd (by assumption) (by decide)
    · refine xw_iload dX8_lies_25 rfl ?_
      refine xw_ireti dX8_lies_27 rfl ?_
      exact ⟨rfl, rfl⟩
set_option maxRecDepth 20000 in
theorem k_X8_lies_bad {a n b i : Int32} (h : ¬ M.1 54 0 = 0) (h2 : ¬ ((0 ≤ a ∧ a < 8) ∧ (0 ≤ b ∧ b < 8) ∧ 1 ≤ n ∧ n ≤ 8 ∧ (-1 ≤ i))) : XC g l mX8_lies (d + 4) [xr 49, xi a, xi n, xi b, xi i] M (XE (some (xi (-1000001))) (M)) := by
  show XW g l mX8_lies _ 0 [some (xr 49), some (xi a), some (xi n), some (xi b), some (xi i), none, none, none] [] M _
  refine xw_aload_n dX8_lies_0 rfl ?_
  refine xw_iload_n dX8_lies_1 rfl ?_
  refine xw_iload_n dX8_lies_2 rfl ?_
  refine xw_iload_n dX8_lies_3 rfl ?_
  refine xw_iload dX8_lies_4 rfl ?_
  refine xw_iconst (v := (-1)) dX8_lies_6 (by decide) ?_
  refine xw_icmp_lt (tgt := 14) dX8_lies_7 (by decide) (fun c7 => ?_) (fun c7 => ?_)
  · refine xw_iconst (v := 0) dX8_lies_14 (by decide) ?_
    refine xw_cV4E dX8_lies_15 okX8_whyNot ml_X8_225 rfl rfl rfl rfl (wn_bad h (by grind)) ?_
    refine xw_istore dX8_lies_18 rfl rfl ?_
    refine xw_iload dX8_lies_20 rfl ?_
    refine xw_if_eq (tgt := 28) dX8_lies_22 (by decide) (fun c22 => ?_) (fun c22 => ?_)
    · exfalso; exact absurd (by assumption) (by decide)
    · refine xw_iload dX8_lies_25 rfl ?_
      refine xw_ireti dX8_lies_27 rfl ?_
      exact ⟨rfl, rfl⟩
  · refine xw_iconst (v := 1) dX8_lies_10 (by decide) ?_
    refine xw_goto (tgt := 15) dX8_lies_11 (by decide) ?_
    refine xw_cV4E dX8_lies_15 okX8_whyNot ml_X8_225 rfl rfl rfl rfl (wn_bad h (by grind)) ?_
    refine xw_istore dX8_lies_18 rfl rfl ?_
    refine xw_iload dX8_lies_20 rfl ?_
    refine xw_if_eq (tgt := 28) dX8_lies_22 (by decide) (fun c22 => ?_) (fun c22 => ?_)
    · exfalso; exact absurd (by assumption) (by decide)
    · refine xw_iload dX8_lies_25 rfl ?_
      refine xw_ireti dX8_lies_27 rfl ?_
      exact ⟨rfl, rfl⟩
set_option maxRecDepth 20000 in
theorem k_X8_lies_null {a b : Nat} {n i : Int32} (h : ¬ M.1 54 0 = 0) (ha : a < 8) (hb : b < 8) (hn : 1 ≤ n ∧ n ≤ 8) (hi : -1 ≤ i) (h2 : M.1 50 a = -1000000 ∨ M.1 50 b = -1000000) : XC g l mX8_lies (d + 4) [xr 49, xi (nI a), xi n, xi (nI b), xi i] M (XE (some (xi (-1000011))) (xup M 49 3 1)) := by
  show XW g l mX8_lies _ 0 [some (xr 49), some (xi (nI a)), some (xi n), some (xi (nI b)), some (xi i), none, none, none] [] M _
  refine xw_aload_n dX8_lies_0 rfl ?_
  refine xw_iload_n dX8_lies_1 rfl ?_
  refine xw_iload_n dX8_lies_2 rfl ?_
  refine xw_iload_n dX8_lies_3 rfl ?_
  refine xw_iload dX8_lies_4 rfl ?_
  refine xw_iconst (v := (-1)) dX8_lies_6 (by decide) ?_
  refine xw_icmp_lt (tgt := 14) dX8_lies_7 (by decide) (fun c7 => ?_) (fun c7 => ?_)
  · exfalso; first | exact absurd (by assumption) (show ¬ (_ : Int32) = 0 by decide) | grind
  · refine xw_iconst (v := 1) dX8_lies_10 (by decide) ?_
    refine xw_goto (tgt := 15) dX8_lies_11 (by decide) ?_
    refine xw_cV4E dX8_lies_15 okX8_whyNot ml_X8_225 rfl rfl rfl rfl (wn_null h ha hb hn h2) ?_
    refine xw_istore dX8_lies_18 rfl rfl ?_
    refine xw_iload dX8_lies_20 rfl ?_
    refine xw_if_eq (tgt := 28) dX8_lies_22 (by decide) (fun c22 => ?_) (fun c22 => ?_)
    · exfalso; first | exact absurd (by assumption) (show ¬ (_ : Int32) = 0 by decide) | grind
    · refine xw_iload dX8_lies_25 rfl ?_
      refine xw_ireti dX8_lies_27 rfl ?_
      exact ⟨rfl, rfl⟩
set_option maxRecDepth 20000 in
theorem k_X8_lies_place {D : FD} {i : Int32} (hi : -1 ≤ i) {a b n s t : Nat} (h : ¬ M.1 54 0 = 0) (ha : a < 8) (hb : b < 8) (hn : 1 ≤ n ∧ n ≤ 8) (h0 : ¬ M.1 50 a = -1000000) (h1 : ¬ M.1 50 b = -1000000) (hs : M.1 51 a = nI s) (ht : M.1 51 b = nI t) (hs2 : s ≤ 40) (ht2 : t ≤ 40) (hC : FMS M 54 D) (hp : ¬ (n ≤ s ∧ dn D ≤ t)) : XC g l mX8_lies (d + 4) [xr 49, xi (nI a), xi (nI n), xi (nI b), xi i] M (XE (some (xi (-1000012))) (xup M 49 3 2)) := by
  show XW g l mX8_lies _ 0 [some (xr 49), some (xi (nI a)), some (xi (nI n)), some (xi (nI b)), some (xi i), none, none, none] [] M _
  refine xw_aload_n dX8_lies_0 rfl ?_
  refine xw_iload_n dX8_lies_1 rfl ?_
  refine xw_iload_n dX8_lies_2 rfl ?_
  refine xw_iload_n dX8_lies_3 rfl ?_
  refine xw_iload dX8_lies_4 rfl ?_
  refine xw_iconst (v := (-1)) dX8_lies_6 (by decide) ?_
  refine xw_icmp_lt (tgt := 14) dX8_lies_7 (by decide) (fun c7 => ?_) (fun c7 => ?_)
  · exfalso; first | exact absurd (by assumption) (show ¬ (_ : Int32) = 0 by decide) | grind
  · refine xw_iconst (v := 1) dX8_lies_10 (by decide) ?_
    refine xw_goto (tgt := 15) dX8_lies_11 (by decide) ?_
    refine xw_cV4E dX8_lies_15 okX8_whyNot ml_X8_225 rfl rfl rfl rfl (wn_place h ha hb hn h0 h1 hs ht hs2 ht2 hC hp) ?_
    refine xw_istore dX8_lies_18 rfl rfl ?_
    refine xw_iload dX8_lies_20 rfl ?_
    refine xw_if_eq (tgt := 28) dX8_lies_22 (by decide) (fun c22 => ?_) (fun c22 => ?_)
    · exfalso; first | exact absurd (by assumption) (show ¬ (_ : Int32) = 0 by decide) | grind
    · refine xw_iload dX8_lies_25 rfl ?_
      refine xw_ireti dX8_lies_27 rfl ?_
      exact ⟨rfl, rfl⟩
set_option maxRecDepth 20000 in
theorem k_X8_lies_item {D : FD} {i : Int32} (hi : -1 ≤ i) {a b n s t : Nat} (h : ¬ M.1 54 0 = 0) (ha : a < 8) (hb : b < 8) (hn : 1 ≤ n ∧ n ≤ 8) (h0 : ¬ M.1 50 a = -1000000) (h1 : ¬ M.1 50 b = -1000000) (hs : M.1 51 a = nI s) (ht : M.1 51 b = nI t) (hs2 : s ≤ 40) (ht2 : t ≤ 40) (hC : FMS M 54 D) (hp : n ≤ s ∧ dn D ≤ t) (hx : ¬ ∀ j, j < n → okHs D (M.1 52 (40 * a + j))) : XC g l mX8_lies (d + 4) [xr 49, xi (nI a), xi (nI n), xi (nI b), xi i] M (XE (some (xi (-1000001))) (M)) := by
  show XW g l mX8_lies _ 0 [some (xr 49), some (xi (nI a)), some (xi (nI n)), some (xi (nI b)), some (xi i), none, none, none] [] M _
  refine xw_aload_n dX8_lies_0 rfl ?_
  refine xw_iload_n dX8_lies_1 rfl ?_
  refine xw_iload_n dX8_lies_2 rfl ?_
  refine xw_iload_n dX8_lies_3 rfl ?_
  refine xw_iload dX8_lies_4 rfl ?_
  refine xw_iconst (v := (-1)) dX8_lies_6 (by decide) ?_
  refine xw_icmp_lt (tgt := 14) dX8_lies_7 (by decide) (fun c7 => ?_) (fun c7 => ?_)
  · exfalso; first | exact absurd (by assumption) (show ¬ (_ : Int32) = 0 by decide) | grind
  · refine xw_iconst (v := 1) dX8_lies_10 (by decide) ?_
    refine xw_goto (tgt := 15) dX8_lies_11 (by decide) ?_
    refine xw_cV4E dX8_lies_15 okX8_whyNot ml_X8_225 rfl rfl rfl rfl (wn_item h ha hb hn h0 h1 hs ht hs2 ht2 hC hp hx) ?_
    refine xw_istore dX8_lies_18 rfl rfl ?_
    refine xw_iload dX8_lies_20 rfl ?_
    refine xw_if_eq (tgt := 28) dX8_lies_22 (by decide) (fun c22 => ?_) (fun c22 => ?_)
    · exfalso; first | exact absurd (by assumption) (show ¬ (_ : Int32) = 0 by decide) | grind
    · refine xw_iload dX8_lies_25 rfl ?_
      refine xw_ireti dX8_lies_27 rfl ?_
      exact ⟨rfl, rfl⟩
set_option maxRecDepth 20000 in
theorem k_X8_guess_state {a n b i : Int32} (h : M.1 54 0 = 0) : XC g l mX8_guess (d + 4) [xr 49, xi a, xi n, xi b, xi i] M (XE (some (xi (-1000002))) (M)) := by
  show XW g l mX8_guess _ 0 [some (xr 49), some (xi a), some (xi n), some (xi b), some (xi i), none, none, none, none, none, none, none, none] [] M _
  refine xw_aload_n dX8_guess_0 rfl ?_
  refine xw_iload_n dX8_guess_1 rfl ?_
  refine xw_iload_n dX8_guess_2 rfl ?_
  refine xw_iload_n dX8_guess_3 rfl ?_
  refine xw_iload dX8_guess_4 rfl ?_
  refine xw_iconst (v := 0) dX8_guess_6 (by decide) ?_
  refine xw_iconst (v := 2) dX8_guess_7 (by decide) ?_
  refine xw_cS3B dX8_guess_8 okX8_in ml_X8_56 rfl rfl (s_X8_in _ _ _) (fun p8 => ?_) (fun p8 => ?_)
  · refine xw_cV4E dX8_guess_11 okX8_whyNot ml_X8_225 rfl rfl rfl rfl (wn_state h) ?_
    refine xw_istore dX8_guess_14 rfl rfl ?_
    refine xw_iload dX8_guess_16 rfl ?_
    refine xw_if_eq (tgt := 24) dX8_guess_18 (by decide) (fun c18 => ?_) (fun c18 => ?_)
    · exfalso; exact absurd (by assumption) (by decide)
    · refine xw_iload dX8_guess_21 rfl ?_
      refine xw_ireti dX8_guess_23 rfl ?_
      exact ⟨rfl, rfl⟩
  · refine xw_cV4E dX8_guess_11 okX8_whyNot ml_X8_225 rfl rfl rfl rfl (wn_state h) ?_
    refine xw_istore dX8_guess_14 rfl rfl ?_
    refine xw_iload dX8_guess_16 rfl ?_
    refine xw_if_eq (tgt := 24) dX8_guess_18 (by decide) (fun c18 => ?_) (fun c18 => ?_)
    · exfalso; exact absurd (by assumption) (by decide)
    · refine xw_iload dX8_guess_21 rfl ?_
      refine xw_ireti dX8_guess_23 rfl ?_
      exact ⟨rfl, rfl⟩
set_option maxRecDepth 20000 in
theorem k_X8_guess_bad {a n b i : Int32} (h : ¬ M.1 54 0 = 0) (h2 : ¬ ((0 ≤ a ∧ a < 8) ∧ (0 ≤ b ∧ b < 8) ∧ 1 ≤ n ∧ n ≤ 8 ∧ (0 ≤ i ∧ i ≤ 2))) : XC g l mX8_guess (d + 4) [xr 49, xi a, xi n, xi b, xi i] M (XE (some (xi (-1000001))) (M)) := by
  show XW g l mX8_guess _ 0 [some (xr 49), some (xi a), some (xi n), some (xi b), some (xi i), none, none, none, none, none, none, none, none] [] M _
  refine xw_aload_n dX8_guess_0 rfl ?_
  refine xw_iload_n dX8_guess_1 rfl ?_
  refine xw_iload_n dX8_guess_2 rfl ?_
  refine xw_iload_n dX8_guess_3 rfl ?_
  refine xw_iload dX8_guess_4 rfl ?_
  refine xw_iconst (v := 0) dX8_guess_6 (by decide) ?_
  refine xw_iconst (v := 2) dX8_guess_7 (by decide) ?_
  refine xw_cS3B dX8_guess_8 okX8_in ml_X8_56 rfl rfl (s_X8_in _ _ _) (fun p8 => ?_) (fun p8 => ?_)
  · refine xw_cV4E dX8_guess_11 okX8_whyNot ml_X8_225 rfl rfl rfl rfl (wn_bad h (by grind)) ?_
    refine xw_istore dX8_guess_14 rfl rfl ?_
    refine xw_iload dX8_guess_16 rfl ?_
    refine xw_if_eq (tgt := 24) dX8_guess_18 (by decide) (fun c18 => ?_) (fun c18 => ?_)
    · exfalso; exact absurd (by assumption) (by decide)
    · refine xw_iload dX8_guess_21 rfl ?_
      refine xw_ireti dX8_guess_23 rfl ?_
      exact ⟨rfl, rfl⟩
  · refine xw_cV4E dX8_guess_11 okX8_whyNot ml_X8_225 rfl rfl rfl rfl (wn_bad h (by grind)) ?_
    refine xw_istore dX8_guess_14 rfl rfl ?_
    refine xw_iload dX8_guess_16 rfl ?_
    refine xw_if_eq (tgt := 24) dX8_guess_18 (by decide) (fun c18 => ?_) (fun c18 => ?_)
    · exfalso; exact absurd (by assumption) (by decide)
    · refine xw_iload dX8_guess_21 rfl ?_
      refine xw_ireti dX8_guess_23 rfl ?_
      exact ⟨rfl, rfl⟩
set_option maxRecDepth 20000 in
theorem k_X8_guess_null {a b : Nat} {n i : Int32} (h : ¬ M.1 54 0 = 0) (ha : a < 8) (hb : b < 8) (hn : 1 ≤ n ∧ n ≤ 8) (hi : 0 ≤ i ∧ i ≤ 2) (h2 : M.1 50 a = -1000000 ∨ M.1 50 b = -1000000) : XC g l mX8_guess (d + 4) [xr 49, xi (nI a), xi n, xi (nI b), xi i] M (XE (some (xi (-1000011))) (xup M 49 3 1)) := by
  show XW g l mX8_guess _ 0 [some (xr 49), some (xi (nI a)), some (xi n), some (xi (nI b)), some (xi i), none, none, none, none, none, none, none, none] [] M _
  refine xw_aload_n dX8_guess_0 rfl ?_
  refine xw_iload_n dX8_guess_1 rfl ?_
  refine xw_iload_n dX8_guess_2 rfl ?_
  refine xw_iload_n dX8_guess_3 rfl ?_
  refine xw_iload dX8_guess_4 rfl ?_
  refine xw_iconst (v := 0) dX8_guess_6 (by decide) ?_
  refine xw_iconst (v := 2) dX8_guess_7 (by decide) ?_
  refine xw_cS3B dX8_guess_8 okX8_in ml_X8_56 rfl rfl (s_X8_in _ _ _) (fun p8 => ?_) (fun p8 => ?_)
  · refine xw_cV4E dX8_guess_11 okX8_whyNot ml_X8_225 rfl rfl rfl rfl (wn_null h ha hb hn h2) ?_
    refine xw_istore dX8_guess_14 rfl rfl ?_
    refine xw_iload dX8_guess_16 rfl ?_
    refine xw_if_eq (tgt := 24) dX8_guess_18 (by decide) (fun c18 => ?_) (fun c18 => ?_)
    · exfalso; first | exact absurd (by assumption) (show ¬ (_ : Int32) = 0 by decide) | grind
    · refine xw_iload dX8_guess_21 rfl ?_
      refine xw_ireti dX8_guess_23 rfl ?_
      exact ⟨rfl, rfl⟩
  · exfalso; first | exact absurd (by assumption) (show ¬ (_ : Int32) = 0 by decide) | grind
set_option maxRecDepth 20000 in
theorem k_X8_guess_place {D : FD} {i : Int32} (hi : 0 ≤ i ∧ i ≤ 2) {a b n s t : Nat} (h : ¬ M.1 54 0 = 0) (ha : a < 8) (hb : b < 8) (hn : 1 ≤ n ∧ n ≤ 8) (h0 : ¬ M.1 50 a = -1000000) (h1 : ¬ M.1 50 b = -1000000) (hs : M.1 51 a = nI s) (ht : M.1 51 b = nI t) (hs2 : s ≤ 40) (ht2 : t ≤ 40) (hC : FMS M 54 D) (hp : ¬ (n ≤ s ∧ dn D ≤ t)) : XC g l mX8_guess (d + 4) [xr 49, xi (nI a), xi (nI n), xi (nI b), xi i] M (XE (some (xi (-1000012))) (xup M 49 3 2)) := by
  show XW g l mX8_guess _ 0 [some (xr 49), some (xi (nI a)), some (xi (nI n)), some (xi (nI b)), some (xi i), none, none, none, none, none, none, none, none] [] M _
  refine xw_aload_n dX8_guess_0 rfl ?_
  refine xw_iload_n dX8_guess_1 rfl ?_
  refine xw_iload_n dX8_guess_2 rfl ?_
  refine xw_iload_n dX8_guess_3 rfl ?_
  refine xw_iload dX8_guess_4 rfl ?_
  refine xw_iconst (v := 0) dX8_guess_6 (by decide) ?_
  refine xw_iconst (v := 2) dX8_guess_7 (by decide) ?_
  refine xw_cS3B dX8_guess_8 okX8_in ml_X8_56 rfl rfl (s_X8_in _ _ _) (fun p8 => ?_) (fun p8 => ?_)
  · refine xw_cV4E dX8_guess_11 okX8_whyNot ml_X8_225 rfl rfl rfl rfl (wn_place h ha hb hn h0 h1 hs ht hs2 ht2 hC hp) ?_
    refine xw_istore dX8_guess_14 rfl rfl ?_
    refine xw_iload dX8_guess_16 rfl ?_
    refine xw_if_eq (tgt := 24) dX8_guess_18 (by decide) (fun c18 => ?_) (fun c18 => ?_)
    · exfalso; first | exact absurd (by assumption) (show ¬ (_ : Int32) = 0 by decide) | grind
    · refine xw_iload dX8_guess_21 rfl ?_
      refine xw_ireti dX8_guess_23 rfl ?_
      exact ⟨rfl, rfl⟩
  · exfalso; first | exact absurd (by assumption) (show ¬ (_ : Int32) = 0 by decide) | grind
set_option maxRecDepth 20000 in
theorem k_X8_guess_item {D : FD} {i : Int32} (hi : 0 ≤ i ∧ i ≤ 2) {a b n s t : Nat} (h : ¬ M.1 54 0 = 0) (ha : a < 8) (hb : b < 8) (hn : 1 ≤ n ∧ n ≤ 8) (h0 : ¬ M.1 50 a = -1000000) (h1 : ¬ M.1 50 b = -1000000) (hs : M.1 51 a = nI s) (ht : M.1 51 b = nI t) (hs2 : s ≤ 40) (ht2 : t ≤ 40) (hC : FMS M 54 D) (hp : n ≤ s ∧ dn D ≤ t) (hx : ¬ ∀ j, j < n → okHs D (M.1 52 (40 * a + j))) : XC g l mX8_guess (d + 4) [xr 49, xi (nI a), xi (nI n), xi (nI b), xi i] M (XE (some (xi (-1000001))) (M)) := by
  show XW g l mX8_guess _ 0 [some (xr 49), some (xi (nI a)), some (xi (nI n)), some (xi (nI b)), some (xi i), none, none, none, none, none, none, none, none] [] M _
  refine xw_aload_n dX8_guess_0 rfl ?_
  refine xw_iload_n dX8_guess_1 rfl ?_
  refine xw_iload_n dX8_guess_2 rfl ?_
  refine xw_iload_n dX8_guess_3 rfl ?_
  refine xw_iload dX8_guess_4 rfl ?_
  refine xw_iconst (v := 0) dX8_guess_6 (by decide) ?_
  refine xw_iconst (v := 2) dX8_guess_7 (by decide) ?_
  refine xw_cS3B dX8_guess_8 okX8_in ml_X8_56 rfl rfl (s_X8_in _ _ _) (fun p8 => ?_) (fun p8 => ?_)
  · refine xw_cV4E dX8_guess_11 okX8_whyNot ml_X8_225 rfl rfl rfl rfl (wn_item h ha hb hn h0 h1 hs ht hs2 ht2 hC hp hx) ?_
    refine xw_istore dX8_guess_14 rfl rfl ?_
    refine xw_iload dX8_guess_16 rfl ?_
    refine xw_if_eq (tgt := 24) dX8_guess_18 (by decide) (fun c18 => ?_) (fun c18 => ?_)
    · exfalso; first | exact absurd (by assumption) (show ¬ (_ : Int32) = 0 by decide) | grind
    · refine xw_iload dX8_guess_21 rfl ?_
      refine xw_ireti dX8_guess_23 rfl ?_
      exact ⟨rfl, rfl⟩
  · exfalso; first | exact absurd (by assumption) (show ¬ (_ : Int32) = 0 by decide) | grind
set_option maxRecDepth 20000 in
theorem lp_X8_lies {D : FD} {a b n PP : Nat} {it : Nat → Nat} {v : Nat → Int32} (hC : FMS M 54 D) (hX : XMP M 54 PP) (hP : PP < 2 ^ 24) (hg : GW D PP) (ha : a < 8) (hb : b < 8) (hn : n ≤ 8) (hit : ∀ j, j < n → M.1 52 (40 * a + j) = nI (it j) ∧ it j < dn D) (hv : ∀ h, h < dn D → M.1 52 (40 * b + h) = v h) {i : Int32} (hi : -1 ≤ i) : ∀ (q s : Nat) (N : XM), s + q = 1 * 2 ^ n → Fr59 M N → (∀ t, t < s → fitS D it PP n v t → i ≠ nI (ctF (fitS D it PP n v) t)) → XW g l mX8_lies (d + 4) 34 [some (xr 49), some (xi (nI a)), some (xi (nI n)), some (xi (nI b)), some (xi i), some (xi 0), some (xi (nI (ctF (fitS D it PP n v) s))), some (xi (nI s))] [] N (fun r M' => (∃ w, r = some (xi w) ∧ isAns (fitS D it PP n v) (1 * 2 ^ n) i w) ∧ Fr59 M M') := by
  have h9 := p9 hn
  intro q
  induction q with
  | zero =>
    intro s N hs hF h0
    have hs : s = 1 * 2 ^ n := by omega
    subst hs
    refine xw_iload dX8_lies_34 rfl ?_
    refine xw_iconst (v := 1) dX8_lies_36 (by decide) ?_
    refine xw_iload_n dX8_lies_37 rfl ?_
    refine xw_ishlN (a := 1) dX8_lies_38 ?_ ?_ ?_
    · omega
    · omega
    refine xw_icmp_geN (tgt := 73) dX8_lies_39 (by decide) (by omega) (fun c39 => ?_) (fun c39 => ?_)
    · refine xw_iload dX8_lies_73 rfl ?_
      refine xw_iconst (v := (-1)) dX8_lies_75 (by decide) ?_
      refine xw_icmp_ne (tgt := 84) dX8_lies_76 (by decide) (fun c76 => ?_) (fun c76 => ?_)
      · refine xw_ldc dX8_lies_84 kc_X8_50 ?_
        refine xw_ireti dX8_lies_86 rfl ?_
        first | exact ⟨⟨_, rfl, Or.inl ⟨c76, rfl⟩⟩, hF⟩ | exact ⟨⟨_, rfl, Or.inr (Or.inr ⟨c76, h0, rfl⟩)⟩, hF⟩
      · refine xw_iload dX8_lies_79 rfl ?_
        refine xw_goto (tgt := 86) dX8_lies_81 (by decide) ?_
        refine xw_ireti dX8_lies_86 rfl ?_
        first | exact ⟨⟨_, rfl, Or.inl ⟨c76, rfl⟩⟩, hF⟩ | exact ⟨⟨_, rfl, Or.inr (Or.inr ⟨c76, h0, rfl⟩)⟩, hF⟩
    · exfalso; omega
  | succ q ih =>
    intro s N hs hF h0
    have hc := ctF_le (fitS D it PP n v) s
    have hso := m_isSo (g := g) (l := l) (d := d) (set := s) (hC.f59 hF) (hX.f59 hF) hP hg ha hb hn (by omega) (fun j hj => ⟨(hF.1 52 _ (by decide)).trans (hit j hj).1, (hit j hj).2⟩) (fun h hh => (hF.1 52 _ (by decide)).trans (hv h hh))
    refine xw_iload dX8_lies_34 rfl ?_
    refine xw_iconst (v := 1) dX8_lies_36 (by decide) ?_
    refine xw_iload_n dX8_lies_37 rfl ?_
    refine xw_ishlN (a := 1) dX8_lies_38 ?_ ?_ ?_
    · omega
    · omega
    refine xw_icmp_geN (tgt := 73) dX8_lies_39 (by decide) (by omega) (fun c39 => ?_) (fun c39 => ?_)
    · exfalso; omega
    · refine xw_aload_n dX8_lies_42 rfl ?_
      refine xw_iload_n dX8_lies_43 rfl ?_
      refine xw_iload_n dX8_lies_44 rfl ?_
      refine xw_iload_n dX8_lies_45 rfl ?_
      refine xw_iload dX8_lies_46 rfl ?_
      refine xw_cV4Q dX8_lies_48 okX8_isSo ml_X8_229 rfl rfl rfl rfl (hso) ?_
      rintro _ N2 ⟨hz, hF2⟩
      rcases hz with ⟨hz, rfl⟩ | ⟨hz, rfl⟩
      · have e9 := ctF_t hz
        refine xw_if_eq (tgt := 67) dX8_lies_51 (by decide) (fun q9 => absurd q9 (by decide)) (fun _ => ?_)
        refine xw_iload dX8_lies_54 rfl ?_
        refine xw_iload dX8_lies_56 rfl ?_
        refine xw_icmp_ne (tgt := 64) dX8_lies_58 (by decide) (fun c58 => ?_) (fun c58 => ?_)
        · refine xw_iincN (v := 1) dX8_lies_64 (by decide) rfl rfl rfl ?_
          refine xw_iincN (v := 1) dX8_lies_67 (by decide) rfl rfl rfl ?_
          refine xw_goto (tgt := 34) dX8_lies_70 (by decide) ?_
          have ih2 := ih (s + 1) N2 (by omega) (hF.tr hF2) (fun t ht hp => by
            rcases Nat.lt_or_ge t s with z | z
            · exact h0 t z hp
            · rw [show t = s by omega]; exact fun e => c58 e.symm)
          rw [e9] at ih2
          exact ih2
        · refine xw_iload dX8_lies_61 rfl ?_
          refine xw_ireti dX8_lies_63 rfl ?_
          exact ⟨⟨_, rfl, Or.inr (Or.inl ⟨s, by omega, hz, c58.symm, rfl⟩)⟩, hF.tr hF2⟩
      have e9 := ctF_f hz
      have ih2 := ih (s + 1) N2 (by omega) (hF.tr hF2) (fun t ht hp => by
        rcases Nat.lt_or_ge t s with z | z
        · exact h0 t z hp
        · exact absurd hp (by rw [show t = s by omega]; exact hz))
      rw [e9] at ih2
      refine xw_if_eq (tgt := 67) dX8_lies_51 (by decide) (fun _ => ?_) (fun q9 => absurd rfl q9)
      refine xw_iincN (v := 1) dX8_lies_67 (by decide) rfl rfl rfl ?_
      refine xw_goto (tgt := 34) dX8_lies_70 (by decide) ?_
      exact ih2
set_option maxRecDepth 20000 in
theorem m_lies {D : FD} {PP : Nat} {it : Nat → Nat} {v : Nat → Int32} {i : Int32} {a b n s t : Nat} (h : ¬ M.1 54 0 = 0) (ha : a < 8) (hb : b < 8) (hn : 1 ≤ n ∧ n ≤ 8) (h0 : ¬ M.1 50 a = -1000000) (h1 : ¬ M.1 50 b = -1000000) (hs : M.1 51 a = nI s) (ht : M.1 51 b = nI t) (hs2 : s ≤ 40) (ht2 : t ≤ 40) (hC : FMS M 54 D) (hp : n ≤ s ∧ dn D ≤ t) (hX : XMP M 54 PP) (hP : PP < 2 ^ 24) (hg : GW D PP) (hit : ∀ j, j < n → M.1 52 (40 * a + j) = nI (it j) ∧ it j < dn D) (hv : ∀ h, h < dn D → M.1 52 (40 * b + h) = v h) (hi : -1 ≤ i) : XC g l mX8_lies (d + 4) [xr 49, xi (nI a), xi (nI n), xi (nI b), xi i] M (fun r M' => (∃ w, r = some (xi w) ∧ isAns (fitS D it PP n v) (1 * 2 ^ n) i w) ∧ Fr59 (xup M 49 3 0) M') := by
  have hn6 := hC.1
  have hx : ∀ j, j < n → okHs D (M.1 52 (40 * a + j)) := fun j hj => by rw [(hit j hj).1]; exact nI_in0 (by omega) (hit j hj).2
  have hF0 : Fr59 (xup M 49 3 0) (xup M 49 3 0) := Fr59.rf _
  have hC2 : FMS (xup M 49 3 0) 54 D := hC.keep2 (fun b _ _ => xup_cell _ _ (by decide))
  have hX2 : XMP (xup M 49 3 0) 54 PP := fun k hk => (xup_cell _ _ (by decide)).trans (hX k hk)
  show XW g l mX8_lies _ 0 [some (xr 49), some (xi (nI a)), some (xi (nI n)), some (xi (nI b)), some (xi i), none, none, none] [] M _
  refine xw_aload_n dX8_lies_0 rfl ?_
  refine xw_iload_n dX8_lies_1 rfl ?_
  refine xw_iload_n dX8_lies_2 rfl ?_
  refine xw_iload_n dX8_lies_3 rfl ?_
  refine xw_iload dX8_lies_4 rfl ?_
  refine xw_iconst (v := (-1)) dX8_lies_6 (by decide) ?_
  refine xw_icmp_lt (tgt := 14) dX8_lies_7 (by decide) (fun c7 => ?_) (fun c7 => ?_)
  · exfalso; first | exact absurd rfl (by assumption) | grind
  · refine xw_iconst (v := 1) dX8_lies_10 (by decide) ?_
    refine xw_goto (tgt := 15) dX8_lies_11 (by decide) ?_
    refine xw_cV4E dX8_lies_15 okX8_whyNot ml_X8_225 rfl rfl rfl rfl (wn_ok h ha hb hn h0 h1 hs ht hs2 ht2 hC hp hx) ?_
    refine xw_istore dX8_lies_18 rfl rfl ?_
    refine xw_iload dX8_lies_20 rfl ?_
    refine xw_if_eq (tgt := 28) dX8_lies_22 (by decide) (fun c22 => ?_) (fun c22 => ?_)
    · refine xw_iconst (v := 0) dX8_lies_28 (by decide) ?_
      refine xw_istore dX8_lies_29 rfl rfl ?_
      refine xw_iconst (v := 0) dX8_lies_31 (by decide) ?_
      refine xw_istore dX8_lies_32 rfl rfl ?_
      exact lp_X8_lies (M := xup M 49 3 0) hC2 hX2 hP hg ha hb (by omega) (fun j hj => ⟨(xup_cell _ _ (by decide)).trans (hit j hj).1, (hit j hj).2⟩) (fun h hh => (xup_cell _ _ (by decide)).trans (hv h hh)) hi (1 * 2 ^ n) 0 _ (by omega) hF0 (fun _ z => absurd z (by omega))
    · exfalso; first | exact absurd rfl (by assumption) | grind
end LIESM
