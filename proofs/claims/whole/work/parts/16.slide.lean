section SLIDE
variable {g : XG} {l : Launch} {d : Nat} {M : XM}
set_option maxRecDepth 20000 in
theorem lp_X1_pushedBy {f : Nat} {D : FD} (hF : XF f) (hC : FCS M f D) {P h : Nat} (hP : P < 2 ^ 24) (hh : h < dn D) : ∀ (q k : Nat), k + q = dn D → XW g l mX1_pushedBy (d + 2) 13 [some (xr f), some (xi (nI P)), some (xi (nI h)), some (xi (nI (px P h + dW D h))), some (xi (nI (pset (pushH D P h) k))), some (xi (nI k))] [] M (XE (some (xi (nI (pset (pushH D P h) (dn D))))) M) := by
  have hC0 := hC
  obtain ⟨hn6, ⟨hT, hT2⟩, ⟨hB, hB2⟩, hN, hwl, hwl2, hpt, hpt2, hK, hY, hW, hH, hG⟩ := hC
  have hx := px_lt P h
  have hg := hG h hh
  intro q
  induction q with
  | zero =>
    intro k hk
    have hk : k = dn D := by omega
    subst hk
    refine xw_iload dX1_pushedBy_13 rfl ?_
    refine xw_aload_n dX1_pushedBy_15 rfl ?_
    refine xw_getV dX1_pushedBy_16 fl_X1_18 hF.1 rfl (hN) ?_
    refine xw_icmp_geN (tgt := 58) dX1_pushedBy_19 (by decide) (by omega) (fun c19 => ?_) (fun c19 => ?_)
    · refine xw_iload dX1_pushedBy_58 rfl ?_
      refine xw_ireti dX1_pushedBy_60 rfl ?_
      first | exact ⟨rfl, rfl⟩ | exact ⟨by simp_all, rfl⟩ | grind [XE]
    · exfalso; omega
  | succ q ih =>
    intro k hk
    have ih2 := ih (k + 1) (by omega)
    have hs := lt64 (pset_lt (pushH D P h) k) (by omega)
    have h2 := p2_lt (k := k) (by omega)
    refine xw_iload dX1_pushedBy_13 rfl ?_
    refine xw_aload_n dX1_pushedBy_15 rfl ?_
    refine xw_getV dX1_pushedBy_16 fl_X1_18 hF.1 rfl (hN) ?_
    refine xw_icmp_geN (tgt := 58) dX1_pushedBy_19 (by decide) (by omega) (fun c19 => ?_) (fun c19 => ?_)
    · exfalso; omega
    · refine xw_aload_n dX1_pushedBy_22 rfl ?_
      refine xw_iload_n dX1_pushedBy_23 rfl ?_
      refine xw_iload dX1_pushedBy_24 rfl ?_
      refine xw_iload_n dX1_pushedBy_26 rfl ?_
      refine xw_cV3B dX1_pushedBy_27 okX1_hasColumn ml_X1_87 hF.1 rfl rfl rfl (s_X1_hasColumn hF hC0 hP (by omega) (by omega)) (fun p27 => ?_) (fun p27 => ?_)
      · refine xw_if_eq (tgt := 52) dX1_pushedBy_30 (by decide) (fun q9 => absurd q9 (by decide)) (fun _ => ?_)
        refine xw_aload_n dX1_pushedBy_33 rfl ?_
        refine xw_iload_n dX1_pushedBy_34 rfl ?_
        refine xw_iload dX1_pushedBy_35 rfl ?_
        refine xw_cV2B dX1_pushedBy_37 okX1_shareRow ml_X1_91 hF.1 rfl rfl rfl (s_X1_shareRow hF hC0 (by omega) (by omega)) (fun p37 => ?_) (fun p37 => ?_)
        · have e9 : pushH D P h k := ⟨p27, p37⟩
          rw [show pset (pushH D P h) (k + 1) = pset (pushH D P h) k ||| 1 * 2 ^ k by rw [pset, decP_t e9]; rfl] at ih2
          refine xw_if_eq (tgt := 52) dX1_pushedBy_40 (by decide) (fun q9 => absurd q9 (by decide)) (fun _ => ?_)
          refine xw_iload dX1_pushedBy_43 rfl ?_
          refine xw_iconst (v := 1) dX1_pushedBy_45 (by decide) ?_
          refine xw_iload dX1_pushedBy_46 rfl ?_
          refine xw_ishlN (a := 1) dX1_pushedBy_48 ?_ ?_ ?_
          · omega
          · omega
          refine xw_iorN dX1_pushedBy_49 ?_
          refine xw_istore dX1_pushedBy_50 rfl rfl ?_
          refine xw_iincN (v := 1) dX1_pushedBy_52 (by decide) rfl rfl rfl ?_
          refine xw_goto (tgt := 13) dX1_pushedBy_55 (by decide) ?_
          exact ih2
        · have e9 : ¬ pushH D P h k := fun z => p37 z.2
          rw [show pset (pushH D P h) (k + 1) = pset (pushH D P h) k by rw [pset, decP_f e9]; rfl] at ih2
          refine xw_if_eq (tgt := 52) dX1_pushedBy_40 (by decide) (fun _ => ?_) (fun q9 => absurd q9 (by decide))
          refine xw_iincN (v := 1) dX1_pushedBy_52 (by decide) rfl rfl rfl ?_
          refine xw_goto (tgt := 13) dX1_pushedBy_55 (by decide) ?_
          exact ih2
      · have e9 : ¬ pushH D P h k := fun z => p27 z.1
        rw [show pset (pushH D P h) (k + 1) = pset (pushH D P h) k by rw [pset, decP_f e9]; rfl] at ih2
        refine xw_if_eq (tgt := 52) dX1_pushedBy_30 (by decide) (fun _ => ?_) (fun q9 => absurd q9 (by decide))
        refine xw_iincN (v := 1) dX1_pushedBy_52 (by decide) rfl rfl rfl ?_
        refine xw_goto (tgt := 13) dX1_pushedBy_55 (by decide) ?_
        exact ih2
set_option maxRecDepth 20000 in
theorem s_X1_pushedBy {f : Nat} {D : FD} (hF : XF f) (hC : FCS M f D) {P h : Nat} (hP : P < 2 ^ 24) (hh : h < dn D) : XC g l mX1_pushedBy (d + 2) [xr f, xi (nI P), xi (nI h)] M (XE (some (xi (nI (pset (pushH D P h) (dn D))))) M) := by
  have hC0 := hC
  obtain ⟨hn6, ⟨hT, hT2⟩, ⟨hB, hB2⟩, hN, hwl, hwl2, hpt, hpt2, hK, hY, hW, hH, hG⟩ := hC
  have hx := px_lt P h
  have hg := hG h hh
  show XW g l mX1_pushedBy _ 0 [some (xr f), some (xi (nI P)), some (xi (nI h)), none, none, none] [] M _
  refine xw_aload_n dX1_pushedBy_0 rfl ?_
  refine xw_iload_n dX1_pushedBy_1 rfl ?_
  refine xw_iload_n dX1_pushedBy_2 rfl ?_
  refine xw_cV2E dX1_pushedBy_3 okX1_eastOf ml_X1_63 hF.1 rfl rfl rfl (s_X1_eastOf hF hC0 (by assumption) (by omega)) ?_
  refine xw_istore_n dX1_pushedBy_6 rfl rfl ?_
  refine xw_iconst (v := 0) dX1_pushedBy_7 (by decide) ?_
  refine xw_istore dX1_pushedBy_8 rfl rfl ?_
  refine xw_iconst (v := 0) dX1_pushedBy_10 (by decide) ?_
  refine xw_istore dX1_pushedBy_11 rfl rfl ?_
  exact lp_X1_pushedBy hF hC0 hP hh (dn D) 0 (by omega)
/-- between the looks of slidBy -/
def Jsl (D : FD) (P h0 sl lk : Nat) : Prop := (∀ i, sl.testBit i = true → i < dn D ∧ Rch D P h0 i) ∧ sl.testBit h0 = true ∧ (∀ i, lk.testBit i = true → sl.testBit i = true ∧ ¬ stopH D P i ∧ ∀ b, b < dn D → pushH D P i b → sl.testBit b = true)
theorem Jsl.fin {D : FD} {P h0 sl lk : Nat} (h : Jsl D P h0 sl lk) (hc : ∀ i, sl.testBit i = true → lk.testBit i = true) : slV D P h0 = sl := by
  obtain ⟨h1, h2, h3⟩ := h
  have hR : ∀ i, Rch D P h0 i → sl.testBit i = true := fun i hi => hi (fun i => sl.testBit i = true) h2 (fun a b _ hb ha hp => (h3 a (hc a ha)).2.2 b hb hp)
  have hs : ¬ isStp D P h0 := by
    rintro ⟨a, ha, hr, hst⟩
    exact (h3 a (hc a (hR a hr))).2.1 hst
  rw [slV_go hs]
  exact (pset_eq (fun i => ⟨fun z => h1 i z, fun z => hR i z.2⟩)).symm
theorem Jsl.lt {D : FD} {P h0 sl lk : Nat} (h : Jsl D P h0 sl lk) (hn : dn D ≤ 6) : sl < 64 ∧ lk < 64 :=
  ⟨lt64 (bits_lt fun i hi => (h.1 i hi).1) hn, lt64 (bits_lt fun i hi => (h.1 i (h.2.2 i hi).1).1) hn⟩
theorem Jsl.look {D : FD} {P h0 sl lk k : Nat} (h : Jsl D P h0 sl lk) (hk : sl.testBit k = true) (hst : ¬ stopH D P k) : Jsl D P h0 (sl ||| pset (pushH D P k) (dn D)) (lk ||| 1 * 2 ^ k) := by
  obtain ⟨h1, h2, h3⟩ := h
  have ho : ∀ i, (sl ||| pset (pushH D P k) (dn D)).testBit i = true ↔ sl.testBit i = true ∨ (i < dn D ∧ pushH D P k i) := fun i => by rw [Nat.testBit_or, Bool.or_eq_true, pset_bit]
  refine ⟨fun i hi => ?_, (ho h0).mpr (Or.inl h2), fun i hi => ?_⟩
  · rcases (ho i).mp hi with z | z
    · exact h1 i z
    · exact ⟨z.1, (h1 k hk).2.step (h1 k hk).1 z.1 z.2⟩
  · rw [tb_or, Bool.or_eq_true, decide_eq_true_eq] at hi
    rcases hi with z | rfl
    · obtain ⟨a, b, c⟩ := h3 i z
      exact ⟨(ho i).mpr (Or.inl a), b, fun b hb hp => (ho b).mpr (Or.inl (c b hb hp))⟩
    · exact ⟨(ho i).mpr (Or.inl hk), hst, fun b hb hp => (ho b).mpr (Or.inr ⟨hb, hp⟩)⟩
set_option maxRecDepth 20000 in
theorem lpi_X1_slidBy {f : Nat} {D : FD} (hF : XF f) (hC : FCS M f D) {P h : Nat} (hP : P < 2 ^ 24) (hh : h < dn D) {r sl0 lk0 : Nat} (hr : r < 6)
    (hk : ∀ sl lk, Jsl D P h sl lk → (∀ i, sl0.testBit i = true → lk.testBit i = true) → (∀ i, lk0.testBit i = true → lk.testBit i = true) → XW g l mX1_slidBy (d + 3) 10 [some (xr f), some (xi (nI P)), some (xi (nI h)), some (xi (nI sl)), some (xi (nI lk)), some (xi (nI (r + 1))), some (xi (nI (dn D)))] [] M (XE (some (xi (nI (slV D P h)))) M)) : ∀ (q k sl lk : Nat), k + q = dn D → Jsl D P h sl lk → (∀ i, sl0.testBit i = true → sl.testBit i = true) → (∀ i, i < k → sl0.testBit i = true → lk.testBit i = true) → (∀ i, lk0.testBit i = true → lk.testBit i = true) → XW g l mX1_slidBy (d + 3) 26 [some (xr f), some (xi (nI P)), some (xi (nI h)), some (xi (nI sl)), some (xi (nI lk)), some (xi (nI r)), some (xi (nI k))] [] M (XE (some (xi (nI (slV D P h)))) M) := by
  have hC0 := hC
  obtain ⟨hn6, ⟨hT, hT2⟩, ⟨hB, hB2⟩, hN, hwl, hwl2, hpt, hpt2, hK, hY, hW, hH, hG⟩ := hC
  intro q
  induction q with
  | zero =>
    intro k sl lk hq hJ h1 h2 h3
    have hq : k = dn D := by omega
    subst hq
    refine xw_iload dX1_slidBy_26 rfl ?_
    refine xw_aload_n dX1_slidBy_28 rfl ?_
    refine xw_getV dX1_slidBy_29 fl_X1_18 hF.1 rfl (hN) ?_
    refine xw_icmp_geN (tgt := 86) dX1_slidBy_32 (by decide) (by omega) (fun c32 => ?_) (fun c32 => ?_)
    · refine xw_iincN (v := 1) dX1_slidBy_86 (by decide) rfl rfl rfl ?_
      refine xw_goto (tgt := 10) dX1_slidBy_89 (by decide) ?_
      exact hk sl lk hJ (fun i hi => h2 i (hJ.1 i (h1 i hi)).1 hi) h3
    · exfalso; omega
  | succ q ih =>
    intro k sl lk hq hJ h1 h2 h3
    have hlt := hJ.lt hn6
    have hp2 := p2_lt (k := k) (by omega)
    have hbn := bits_new (s := sl) (k := lk) (h := k) (by omega)
    refine xw_iload dX1_slidBy_26 rfl ?_
    refine xw_aload_n dX1_slidBy_28 rfl ?_
    refine xw_getV dX1_slidBy_29 fl_X1_18 hF.1 rfl (hN) ?_
    refine xw_icmp_geN (tgt := 86) dX1_slidBy_32 (by decide) (by omega) (fun c32 => ?_) (fun c32 => ?_)
    · exfalso; omega
    · refine xw_iload_n dX1_slidBy_35 rfl ?_
      refine xw_iload dX1_slidBy_36 rfl ?_
      refine xw_iconst (v := (-1)) dX1_slidBy_38 (by decide) ?_
      refine xw_ixor dX1_slidBy_39 ?_
      refine xw_iand dX1_slidBy_40 ?_
      refine xw_iconst (v := 1) dX1_slidBy_41 (by decide) ?_
      refine xw_iload dX1_slidBy_42 rfl ?_
      refine xw_ishlN (a := 1) dX1_slidBy_44 ?_ ?_ ?_
      · omega
      · omega
      refine xw_iand dX1_slidBy_45 ?_
      refine xw_if_eq (tgt := 80) dX1_slidBy_46 (by decide) (fun c46 => ?_) (fun c46 => ?_)
      · have e9 := hbn.mp c46
        have h2b : ∀ i, i < k + 1 → sl0.testBit i = true → lk.testBit i = true := fun i hi hs => by
          rcases Nat.lt_or_ge i k with z | z
          · exact h2 i z hs
          · have z : i = k := by omega
            subst z
            rcases hb : lk.testBit i with _ | _
            · exact absurd ⟨h1 i hs, hb⟩ e9
            · rfl
        refine xw_iincN (v := 1) dX1_slidBy_80 (by decide) rfl rfl rfl ?_
        refine xw_goto (tgt := 26) dX1_slidBy_83 (by decide) ?_
        exact ih (k + 1) sl lk (by omega) hJ h1 h2b h3
      · have e9 : sl.testBit k = true ∧ lk.testBit k = false := Classical.byContradiction fun z => c46 (hbn.mpr z)
        refine xw_aload_n dX1_slidBy_49 rfl ?_
        refine xw_iload_n dX1_slidBy_50 rfl ?_
        refine xw_iload dX1_slidBy_51 rfl ?_
        refine xw_cV2B dX1_slidBy_53 okX1_isStopped ml_X1_81 hF.1 rfl rfl rfl (s_X1_isStopped hF hC0 hP (by omega)) (fun p53 => ?_) (fun p53 => ?_)
        · refine xw_if_eq (tgt := 61) dX1_slidBy_56 (by decide) (fun q9 => absurd q9 (by decide)) (fun _ => ?_)
          refine xw_iconst (v := 0) dX1_slidBy_59 (by decide) ?_
          refine xw_ireti dX1_slidBy_60 rfl ?_
          exact ⟨by rw [slV_stop ⟨k, by omega, (hJ.1 k e9.1).2, p53⟩]; rfl, rfl⟩
        · refine xw_if_eq (tgt := 61) dX1_slidBy_56 (by decide) (fun _ => ?_) (fun q9 => absurd q9 (by decide))
          refine xw_iload dX1_slidBy_61 rfl ?_
          refine xw_iconst (v := 1) dX1_slidBy_63 (by decide) ?_
          refine xw_iload dX1_slidBy_64 rfl ?_
          refine xw_ishlN (a := 1) dX1_slidBy_66 ?_ ?_ ?_
          · omega
          · omega
          refine xw_iorN dX1_slidBy_67 ?_
          refine xw_istore dX1_slidBy_68 rfl rfl ?_
          refine xw_iload_n dX1_slidBy_70 rfl ?_
          refine xw_aload_n dX1_slidBy_71 rfl ?_
          refine xw_iload_n dX1_slidBy_72 rfl ?_
          refine xw_iload dX1_slidBy_73 rfl ?_
          refine xw_cV2E dX1_slidBy_75 okX1_pushedBy ml_X1_84 hF.1 rfl rfl rfl (s_X1_pushedBy hF hC0 hP (by omega)) ?_
          refine xw_iorN dX1_slidBy_78 ?_
          refine xw_istore_n dX1_slidBy_79 rfl rfl ?_
          refine xw_iincN (v := 1) dX1_slidBy_80 (by decide) rfl rfl rfl ?_
          refine xw_goto (tgt := 26) dX1_slidBy_83 (by decide) ?_
          refine ih (k + 1) _ _ (by omega) (hJ.look e9.1 p53) (fun i hi => ?_) (fun i hi hs => ?_) (fun i hi => ?_)
          · rw [Nat.testBit_or, h1 i hi]; rfl
          · rw [tb_or]
            rcases Nat.lt_or_ge i k with z | z
            · rw [h2 i z hs]; rfl
            · rw [show i = k by omega]; simp
          · rw [tb_or, h3 i hi]; rfl
set_option maxRecDepth 20000 in
theorem lpo_X1_slidBy {f : Nat} {D : FD} (hF : XF f) (hC : FCS M f D) {P h : Nat} (hP : P < 2 ^ 24) (hh : h < dn D) : ∀ (q r sl lk : Nat) (v6 : Option XV), r + q = 6 → Jsl D P h sl lk → r ≤ cntB lk (dn D) → XW g l mX1_slidBy (d + 3) 10 [some (xr f), some (xi (nI P)), some (xi (nI h)), some (xi (nI sl)), some (xi (nI lk)), some (xi (nI r)), v6] [] M (XE (some (xi (nI (slV D P h)))) M) := by
  have hC0 := hC
  obtain ⟨hn6, ⟨hT, hT2⟩, ⟨hB, hB2⟩, hN, hwl, hwl2, hpt, hpt2, hK, hY, hW, hH, hG⟩ := hC
  intro q
  induction q with
  | zero =>
    intro r sl lk v6 hq hJ hc
    have h9 := cntB_le lk (dn D)
    have e9 := hJ.fin (fun i hi => cntB_all (n := dn D) (by omega) i (hJ.1 i hi).1)
    refine xw_iload dX1_slidBy_10 rfl ?_
    refine xw_bipush (v := 6) dX1_slidBy_12 (by decide) ?_
    refine xw_icmp_geN (b := 6) (tgt := 92) dX1_slidBy_14 (by decide) (by omega) (fun c14 => ?_) (fun c14 => ?_)
    · refine xw_iload_n dX1_slidBy_92 rfl ?_
      refine xw_ireti dX1_slidBy_93 rfl ?_
      exact ⟨by rw [e9], rfl⟩
    · exfalso; omega
  | succ q ih =>
    intro r sl lk v6 hq hJ hc
    have hlt := hJ.lt hn6
    refine xw_iload dX1_slidBy_10 rfl ?_
    refine xw_bipush (v := 6) dX1_slidBy_12 (by decide) ?_
    refine xw_icmp_geN (b := 6) (tgt := 92) dX1_slidBy_14 (by decide) (by omega) (fun c14 => ?_) (fun c14 => ?_)
    · exfalso; omega
    · refine xw_iload dX1_slidBy_17 rfl ?_
      refine xw_iload_n dX1_slidBy_19 rfl ?_
      refine xw_icmp_eqN (tgt := 92) dX1_slidBy_20 (by decide) (by omega) (fun c20 => ?_) (fun c20 => ?_)
      · refine xw_iload_n dX1_slidBy_92 rfl ?_
        refine xw_ireti dX1_slidBy_93 rfl ?_
        have e9 := hJ.fin (fun i hi => by rw [c20]; exact hi)
        exact ⟨by rw [e9], rfl⟩
      · refine xw_iconst (v := 0) dX1_slidBy_23 (by decide) ?_
        refine xw_istore dX1_slidBy_24 rfl rfl ?_
        refine lpi_X1_slidBy hF hC0 hP hh (r := r) (sl0 := sl) (lk0 := lk) (by omega) (fun sl2 lk2 hJ2 h1 h2 => ?_) (dn D) 0 sl lk (by omega) hJ (fun _ z => z) (fun _ z => absurd z (by omega)) (fun _ z => z)
        obtain ⟨i, hi1, hi2⟩ : ∃ i, sl.testBit i = true ∧ lk.testBit i = false := Classical.byContradiction fun z => c20 (bits_eq fun i => ⟨fun w => (hJ.2.2 i w).1, fun w => by
          rcases hb : lk.testBit i with _ | _
          · exact absurd ⟨i, w, hb⟩ z
          · rfl⟩)
        have h3 := cntB_lt (s := lk) (t := lk2) (i := i) (n := dn D) (fun j _ w => h2 j w) (hJ.1 i hi1).1 hi2 (h1 i hi1)
        exact ih (r + 1) sl2 lk2 _ (by omega) hJ2 (by omega)
set_option maxRecDepth 20000 in
theorem s_X1_slidBy {f : Nat} {D : FD} (hF : XF f) (hC : FCS M f D) {P h : Nat} (hP : P < 2 ^ 24) (hh : h < dn D) : XC g l mX1_slidBy (d + 3) [xr f, xi (nI P), xi (nI h)] M (XE (some (xi (nI (slV D P h)))) M) := by
  have hC0 := hC
  obtain ⟨hn6, ⟨hT, hT2⟩, ⟨hB, hB2⟩, hN, hwl, hwl2, hpt, hpt2, hK, hY, hW, hH, hG⟩ := hC
  have hp2 := p2_lt (k := h) (by omega)
  show XW g l mX1_slidBy _ 0 [some (xr f), some (xi (nI P)), some (xi (nI h)), none, none, none, none] [] M _
  refine xw_iconst (v := 1) dX1_slidBy_0 (by decide) ?_
  refine xw_iload_n dX1_slidBy_1 rfl ?_
  refine xw_ishlN (a := 1) dX1_slidBy_2 ?_ ?_ ?_
  · omega
  · omega
  refine xw_istore_n dX1_slidBy_3 rfl rfl ?_
  refine xw_iconst (v := 0) dX1_slidBy_4 (by decide) ?_
  refine xw_istore dX1_slidBy_5 rfl rfl ?_
  refine xw_iconst (v := 0) dX1_slidBy_7 (by decide) ?_
  refine xw_istore dX1_slidBy_8 rfl rfl ?_
  refine lpo_X1_slidBy hF hC0 hP hh 6 0 (1 * 2 ^ h) 0 none (by omega) ⟨fun i hi => ?_, ?_, fun i hi => ?_⟩ (Nat.zero_le _)
  · rw [Nat.one_mul, Nat.testBit_two_pow, decide_eq_true_eq] at hi
    subst hi
    exact ⟨hh, Rch.self⟩
  · rw [Nat.one_mul, Nat.testBit_two_pow]; simp
  · simp at hi
set_option maxRecDepth 20000 in
theorem lp_X1_afterSlide {f : Nat} {D : FD} (hF : XF f) (hC : FCS M f D) {P s : Nat} (hs : s < 64) : ∀ (q k : Nat), k + q = dn D → XW g l mX1_afterSlide d 5 [some (xr f), some (xi (nI P)), some (xi (nI s)), some (xi (nI (P + addS s k))), some (xi (nI k))] [] M (XE (some (xi (nI (P + addS s (dn D))))) M) := by
  have hC0 := hC
  obtain ⟨hn6, ⟨hT, hT2⟩, ⟨hB, hB2⟩, hN, hwl, hwl2, hpt, hpt2, hK, hY, hW, hH, hG⟩ := hC
  intro q
  induction q with
  | zero =>
    intro k hk
    have hk : k = dn D := by omega
    subst hk
    refine xw_iload dX1_afterSlide_5 rfl ?_
    refine xw_aload_n dX1_afterSlide_7 rfl ?_
    refine xw_getV dX1_afterSlide_8 fl_X1_18 hF.1 rfl (hN) ?_
    refine xw_icmp_geN (tgt := 34) dX1_afterSlide_11 (by decide) (by omega) (fun c11 => ?_) (fun c11 => ?_)
    · refine xw_iload_n dX1_afterSlide_34 rfl ?_
      refine xw_ireti dX1_afterSlide_35 rfl ?_
      first | exact ⟨rfl, rfl⟩ | exact ⟨by simp_all, rfl⟩ | grind [XE]
    · exfalso; omega
  | succ q ih =>
    intro k hk
    have ih2 := ih (k + 1) (by omega)
    rw [show P + addS s (k + 1) = P + addS s k + (s / 2 ^ k &&& 1) * 2 ^ (4 * k) by rw [addS, Nat.add_assoc, and1]] at ih2
    refine xw_iload dX1_afterSlide_5 rfl ?_
    refine xw_aload_n dX1_afterSlide_7 rfl ?_
    refine xw_getV dX1_afterSlide_8 fl_X1_18 hF.1 rfl (hN) ?_
    refine xw_icmp_geN (tgt := 34) dX1_afterSlide_11 (by decide) (by omega) (fun c11 => ?_) (fun c11 => ?_)
    · exfalso; omega
    · refine xw_iload_n dX1_afterSlide_14 rfl ?_
      refine xw_iload_n dX1_afterSlide_15 rfl ?_
      refine xw_iload dX1_afterSlide_16 rfl ?_
      refine xw_ishrN dX1_afterSlide_18 ?_ ?_ ?_
      · omega
      · omega
      refine xw_iconst (v := 1) dX1_afterSlide_19 (by decide) ?_
      refine xw_iandN (b := 1) dX1_afterSlide_20 ?_
      refine xw_iconst (v := 4) dX1_afterSlide_21 (by decide) ?_
      refine xw_iload dX1_afterSlide_22 rfl ?_
      refine xw_imulN (a := 4) dX1_afterSlide_24 ?_
      refine xw_ishlN dX1_afterSlide_25 ?_ ?_ ?_
      · omega
      · exact sh_lt _ (by omega)
      refine xw_iaddN dX1_afterSlide_26 ?_
      refine xw_istore_n dX1_afterSlide_27 rfl rfl ?_
      refine xw_iincN (v := 1) dX1_afterSlide_28 (by decide) rfl rfl rfl ?_
      refine xw_goto (tgt := 5) dX1_afterSlide_31 (by decide) ?_
      exact ih2
set_option maxRecDepth 20000 in
theorem s_X1_afterSlide {f : Nat} {D : FD} (hF : XF f) (hC : FCS M f D) {P s : Nat} (hs : s < 64) : XC g l mX1_afterSlide d [xr f, xi (nI P), xi (nI s)] M (XE (some (xi (nI (P + addS s (dn D))))) M) := by
  have hC0 := hC
  obtain ⟨hn6, ⟨hT, hT2⟩, ⟨hB, hB2⟩, hN, hwl, hwl2, hpt, hpt2, hK, hY, hW, hH, hG⟩ := hC
  show XW g l mX1_afterSlide _ 0 [some (xr f), some (xi (nI P)), some (xi (nI s)), none, none] [] M _
  refine xw_iload_n dX1_afterSlide_0 rfl ?_
  refine xw_istore_n dX1_afterSlide_1 rfl rfl ?_
  refine xw_iconst (v := 0) dX1_afterSlide_2 (by decide) ?_
  refine xw_istore dX1_afterSlide_3 rfl rfl ?_
  exact lp_X1_afterSlide hF hC0 hs (dn D) 0 (by omega)
set_option maxRecDepth 20000 in
theorem s_X1_isLie {f : Nat} {D : FD} (hF : XF f) (hC : FCS M f D) {c : Nat} (hc : c < 16) : XC g l mX1_isLie d [xr f, xi (nI c)] M (XB (dtr D / 2 ^ (c / 2) % 2 ≠ c % 2) M M) := by
  have hC0 := hC
  obtain ⟨hn6, ⟨hT, hT2⟩, ⟨hB, hB2⟩, hN, hwl, hwl2, hpt, hpt2, hK, hY, hW, hH, hG⟩ := hC
  show XW g l mX1_isLie _ 0 [some (xr f), some (xi (nI c))] [] M _
  refine xw_aload_n dX1_isLie_0 rfl ?_
  refine xw_getV dX1_isLie_1 fl_X1_9 hF.1 rfl (hT) ?_
  refine xw_iload_n dX1_isLie_4 rfl ?_
  refine xw_iconst (v := 2) dX1_isLie_5 (by decide) ?_
  refine xw_idivN (b := 2) dX1_isLie_6 (by omega) ?_
  refine xw_ishrN dX1_isLie_7 ?_ ?_ ?_
  · omega
  · omega
  refine xw_iconst (v := 1) dX1_isLie_8 (by decide) ?_
  refine xw_iandN (b := 1) dX1_isLie_9 ?_
  refine xw_iload_n dX1_isLie_10 rfl ?_
  refine xw_iconst (v := 2) dX1_isLie_11 (by decide) ?_
  refine xw_iremN (b := 2) dX1_isLie_12 (by omega) ?_
  rw [and1]
  have hm := Nat.mod_lt (dtr D / 2 ^ (c / 2)) (show 2 > 0 by decide)
  refine xw_icmp_eqN (tgt := 20) dX1_isLie_13 (by decide) (by omega) (fun c13 => ?_) (fun c13 => ?_)
  · refine xw_iconst (v := 0) dX1_isLie_20 (by decide) ?_
    refine xw_iretz dX1_isLie_21 rfl (Or.inl rfl) (Or.inr ⟨?_, rfl, rfl⟩)
    omega
  · refine xw_iconst (v := 1) dX1_isLie_16 (by decide) ?_
    refine xw_goto (tgt := 21) dX1_isLie_17 (by decide) ?_
    refine xw_iretz dX1_isLie_21 rfl (Or.inr rfl) (Or.inl ⟨?_, rfl, rfl⟩)
    omega
end SLIDE
