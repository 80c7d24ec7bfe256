section WANTM
variable {g : XG} {l : Launch} {d : Nat} {M : XM}
theorem p6_le {j : Nat} (h : j ≤ 4) : 6 ^ j ≤ 1296 := Nat.le_trans (Nat.pow_le_pow_right (by decide) h) (by decide)
theorem p6_pos (j : Nat) : 0 < 6 ^ j := Nat.pos_of_ne_zero (by simp)
set_option maxRecDepth 20000 in
theorem lp_X8_rows {n : Nat} (hn : n ≤ 4) : ∀ (q k : Nat), k + q = n → XW g l mX8_rows d 4 [some (xi (nI n)), some (xi (nI (6 ^ k))), some (xi (nI k))] [] M (XE (some (xi (nI (6 ^ n)))) M) := by
  intro q
  induction q with
  | zero =>
    intro k hk
    have hk : k = n := by omega
    subst hk
    refine xw_iload_n dX8_rows_4 rfl ?_
    refine xw_iload_n dX8_rows_5 rfl ?_
    refine xw_icmp_geN (tgt := 20) dX8_rows_6 (by decide) (by omega) (fun c6 => ?_) (fun c6 => ?_)
    · refine xw_iload_n dX8_rows_20 rfl ?_
      refine xw_ireti dX8_rows_21 rfl ?_
      first | exact ⟨rfl, rfl⟩ | exact ⟨by simp_all, rfl⟩ | grind [XE]
    · exfalso; omega
  | succ q ih =>
    intro k hk
    have ih2 := ih (k + 1) (by omega)
    rw [Nat.pow_succ] at ih2
    refine xw_iload_n dX8_rows_4 rfl ?_
    refine xw_iload_n dX8_rows_5 rfl ?_
    refine xw_icmp_geN (tgt := 20) dX8_rows_6 (by decide) (by omega) (fun c6 => ?_) (fun c6 => ?_)
    · exfalso; omega
    · refine xw_iload_n dX8_rows_9 rfl ?_
      refine xw_bipush (v := 6) dX8_rows_10 (by decide) ?_
      refine xw_imulN (b := 6) dX8_rows_12 ?_
      refine xw_istore_n dX8_rows_13 rfl rfl ?_
      refine xw_iincN (v := 1) dX8_rows_14 (by decide) rfl rfl rfl ?_
      refine xw_goto (tgt := 4) dX8_rows_17 (by decide) ?_
      exact ih2
set_option maxRecDepth 20000 in
theorem s_X8_rows {n : Nat} (hn : n ≤ 4) : XC g l mX8_rows d [xi (nI n)] M (XE (some (xi (nI (6 ^ n)))) M) := by
  show XW g l mX8_rows _ 0 [some (xi (nI n)), none, none] [] M _
  refine xw_iconst (v := 1) dX8_rows_0 (by decide) ?_
  refine xw_istore_n dX8_rows_1 rfl rfl ?_
  refine xw_iconst (v := 0) dX8_rows_2 (by decide) ?_
  refine xw_istore_n dX8_rows_3 rfl rfl ?_
  exact lp_X8_rows hn n 0 (by omega)
set_option maxRecDepth 20000 in
theorem s_X8_whose {c n k : Nat} (hn : n ≤ 4) (hk : k < n) (hc : c < 2 ^ 31) : XC g l mX8_whose (d + 1) [xi (nI c), xi (nI n), xi (nI k)] M (XE (some (xi (nI (c / 6 ^ (n - 1 - k) % 6)))) M) := by
  have h1 := p6_le (j := n - 1 - k) (by omega)
  have h2 := p6_pos (n - 1 - k)
  have h3 : c / 6 ^ (n - 1 - k) ≤ c := Nat.div_le_self _ _
  show XW g l mX8_whose _ 0 [some (xi (nI c)), some (xi (nI n)), some (xi (nI k))] [] M _
  refine xw_iload_n dX8_whose_0 rfl ?_
  refine xw_iload_n dX8_whose_1 rfl ?_
  refine xw_iconst (v := 1) dX8_whose_2 (by decide) ?_
  refine xw_isubN (b := 1) dX8_whose_3 ?_ ?_
  · omega
  refine xw_iload_n dX8_whose_4 rfl ?_
  refine xw_isubN dX8_whose_5 ?_ ?_
  · omega
  refine xw_cS1E dX8_whose_6 okX8_rows ml_X8_236 rfl rfl (s_X8_rows (by omega)) ?_
  refine xw_idivN dX8_whose_9 (by omega) ?_
  refine xw_bipush (v := 6) dX8_whose_10 (by decide) ?_
  refine xw_iremN (b := 6) dX8_whose_12 (by omega) ?_
  refine xw_ireti dX8_whose_13 rfl ?_
  first | exact ⟨rfl, rfl⟩ | exact ⟨by simp_all, rfl⟩ | grind [XE]
set_option maxRecDepth 20000 in
theorem lpn_X8_brings {D : FD} {h x c n PP : Nat} (hC : FMS M 54 D) (hX : XMP M 54 PP) (hh : h < dn D) (hx : x < 16) (hn : n ≤ 4) (hc : c < 2 ^ 31) {k : Nat} {N : XM} {v7 : Option XV} (hk : k ≤ n) (hF : FrS M N PP) (hno : ¬ okD D h x c n PP) : XW g l mX8_brings (d + 3) 10 [some (xr 49), some (xi (nI c)), some (xi (nI n)), some (xi (nI h)), some (xi (nI x)), some (xi 0), some (xi (nI k)), v7] [] N (fun r M' => ((okD D h x c n PP ∧ r = some (xi 1)) ∨ (¬ okD D h x c n PP ∧ r = some (xi 0))) ∧ Fr59 M M') := by
  refine xw_iload dX8_brings_10 rfl ?_
  refine xw_iload_n dX8_brings_12 rfl ?_
  refine xw_icmp_geN (tgt := 84) dX8_brings_13 (by decide) (by omega) (fun c13 => ?_) (fun c13 => ?_)
  · refine xw_iload dX8_brings_84 rfl ?_
    refine xw_if_eq (tgt := 107) dX8_brings_86 (by decide) (fun _ => ?_) (fun q9 => absurd q9 (by decide))
    refine xw_iconst (v := 0) dX8_brings_107 (by decide) ?_
    refine xw_istore dX8_brings_108 rfl rfl ?_
    refine xw_aload_n dX8_brings_110 rfl ?_
    refine xw_cV0N dX8_brings_111 okX8_putBack ml_X8_222 rfl rfl rfl rfl (s_X8_putBack hF.2.2) ?_
    refine xw_iload dX8_brings_114 rfl ?_
    refine xw_iretz dX8_brings_116 rfl ?_ ?_
    · exact Or.inl rfl
    · exact ⟨Or.inr ⟨hno, rfl⟩, hF.back hX (N2 := pbM N PP 6) (fun a b => pbM_at N PP 6 a b) rfl⟩
  · refine xw_iload dX8_brings_16 rfl ?_
    refine xw_if_eq (tgt := 84) dX8_brings_18 (by decide) (fun _ => ?_) (fun q9 => absurd q9 (by decide))
    refine xw_iload dX8_brings_84 rfl ?_
    refine xw_if_eq (tgt := 107) dX8_brings_86 (by decide) (fun _ => ?_) (fun q9 => absurd q9 (by decide))
    refine xw_iconst (v := 0) dX8_brings_107 (by decide) ?_
    refine xw_istore dX8_brings_108 rfl rfl ?_
    refine xw_aload_n dX8_brings_110 rfl ?_
    refine xw_cV0N dX8_brings_111 okX8_putBack ml_X8_222 rfl rfl rfl rfl (s_X8_putBack hF.2.2) ?_
    refine xw_iload dX8_brings_114 rfl ?_
    refine xw_iretz dX8_brings_116 rfl ?_ ?_
    · exact Or.inl rfl
    · exact ⟨Or.inr ⟨hno, rfl⟩, hF.back hX (N2 := pbM N PP 6) (fun a b => pbM_at N PP 6 a b) rfl⟩
set_option maxRecDepth 20000 in
theorem lp_X8_brings {D : FD} {h x c n PP : Nat} (hC : FMS M 54 D) (hX : XMP M 54 PP) (hh : h < dn D) (hx : x < 16) (hn : n ≤ 4) (hc : c < 2 ^ 31)  : ∀ (q k Q : Nat) (N : XM) (v7 : Option XV), k + q = n → FrS M N PP → XMP N 54 Q → Q < 2 ^ 24 → GW D Q → (okD D h x c n PP ↔ okD D h x c q Q) → XW g l mX8_brings (d + 3) 10 [some (xr 49), some (xi (nI c)), some (xi (nI n)), some (xi (nI h)), some (xi (nI x)), some (xi 1), some (xi (nI k)), v7] [] N (fun r M' => ((okD D h x c n PP ∧ r = some (xi 1)) ∨ (¬ okD D h x c n PP ∧ r = some (xi 0))) ∧ Fr59 M M') := by
  have hhs : ∀ h, h < dn D → 1 ≤ dW D h := fun k hk => (hC.2.2.2.2.2.2.2.2.2 k hk).2.1
  have hn6 := hC.1
  intro q
  induction q with
  | zero =>
    intro k Q N v7 hk hF hX2 hQ hgQ he
    have hpx := px_lt Q h
    refine xw_iload dX8_brings_10 rfl ?_
    refine xw_iload_n dX8_brings_12 rfl ?_
    refine xw_icmp_geN (tgt := 84) dX8_brings_13 (by decide) (by omega) (fun c13 => ?_) (fun c13 => ?_)
    · refine xw_iload dX8_brings_84 rfl ?_
      refine xw_if_eq (tgt := 107) dX8_brings_86 (by decide) (fun q9 => absurd q9 (by decide)) (fun _ => ?_)
      refine xw_aload_n dX8_brings_89 rfl ?_
      refine xw_getR dX8_brings_90 fl_X8_22 rfl rfl ?_
      refine xw_bipush (v := 10) dX8_brings_93 (by decide) ?_
      refine xw_iload_n dX8_brings_95 rfl ?_
      refine xw_iaddN (a := 10) dX8_brings_96 ?_
      refine xw_ialN _ dX8_brings_97 rfl (rfl) (hX2 h (by omega)) rfl ?_ ?_
      · omega
      refine xw_iload dX8_brings_98 rfl ?_
      refine xw_icmp_ltN (tgt := 107) dX8_brings_100 (by decide) (by omega) (fun c100 => ?_) (fun c100 => ?_)
      · refine xw_iconst (v := 0) dX8_brings_107 (by decide) ?_
        refine xw_istore dX8_brings_108 rfl rfl ?_
        refine xw_aload_n dX8_brings_110 rfl ?_
        refine xw_cV0N dX8_brings_111 okX8_putBack ml_X8_222 rfl rfl rfl rfl (s_X8_putBack hF.2.2) ?_
        refine xw_iload dX8_brings_114 rfl ?_
        refine xw_iretz dX8_brings_116 rfl ?_ ?_
        · first | exact Or.inl rfl | exact Or.inr rfl
        · first | exact ⟨Or.inl ⟨he.mpr (show x ≤ px Q h by omega), rfl⟩, hF.back hX (N2 := pbM N PP 6) (fun a b => pbM_at N PP 6 a b) rfl⟩ | exact ⟨Or.inr ⟨fun z => absurd (show x ≤ px Q h from he.mp z) (by omega), rfl⟩, hF.back hX (N2 := pbM N PP 6) (fun a b => pbM_at N PP 6 a b) rfl⟩
      · refine xw_iconst (v := 1) dX8_brings_103 (by decide) ?_
        refine xw_goto (tgt := 108) dX8_brings_104 (by decide) ?_
        refine xw_istore dX8_brings_108 rfl rfl ?_
        refine xw_aload_n dX8_brings_110 rfl ?_
        refine xw_cV0N dX8_brings_111 okX8_putBack ml_X8_222 rfl rfl rfl rfl (s_X8_putBack hF.2.2) ?_
        refine xw_iload dX8_brings_114 rfl ?_
        refine xw_iretz dX8_brings_116 rfl ?_ ?_
        · first | exact Or.inl rfl | exact Or.inr rfl
        · first | exact ⟨Or.inl ⟨he.mpr (show x ≤ px Q h by omega), rfl⟩, hF.back hX (N2 := pbM N PP 6) (fun a b => pbM_at N PP 6 a b) rfl⟩ | exact ⟨Or.inr ⟨fun z => absurd (show x ≤ px Q h from he.mp z) (by omega), rfl⟩, hF.back hX (N2 := pbM N PP 6) (fun a b => pbM_at N PP 6 a b) rfl⟩
    · exfalso; omega
  | succ q ih =>
    intro k Q N v7 hk hF hX2 hQ hgQ he
    have hC2 := hC.frS hF
    have hN := hC2.2.2.2.1
    have hw := s_X8_whose (g := g) (l := l) (d := d + 1) (M := N) hn (show k < n by omega) hc
    rw [show n - 1 - k = q by omega] at hw
    have hlt : c / 6 ^ q % 6 < 6 := Nat.mod_lt _ (by decide)
    refine xw_iload dX8_brings_10 rfl ?_
    refine xw_iload_n dX8_brings_12 rfl ?_
    refine xw_icmp_geN (tgt := 84) dX8_brings_13 (by decide) (by omega) (fun c13 => ?_) (fun c13 => ?_)
    · exfalso; omega
    · refine xw_iload dX8_brings_16 rfl ?_
      refine xw_if_eq (tgt := 84) dX8_brings_18 (by decide) (fun q9 => absurd q9 (by decide)) (fun _ => ?_)
      refine xw_iload_n dX8_brings_21 rfl ?_
      refine xw_iload_n dX8_brings_22 rfl ?_
      refine xw_iload dX8_brings_23 rfl ?_
      refine xw_cS3E dX8_brings_25 okX8_whose ml_X8_239 rfl rfl (hw) ?_
      refine xw_istore dX8_brings_28 rfl rfl ?_
      refine xw_iload dX8_brings_30 rfl ?_
      refine xw_aload_n dX8_brings_32 rfl ?_
      refine xw_getR dX8_brings_33 fl_X8_22 rfl rfl ?_
      refine xw_iconst (v := 3) dX8_brings_36 (by decide) ?_
      refine xw_ialN 3 dX8_brings_37 rfl (rfl) (hN) rfl ?_ ?_
      · omega
      refine xw_icmp_geN (tgt := 54) dX8_brings_38 (by decide) (by omega) (fun c38 => ?_) (fun c38 => ?_)
      · refine xw_iconst (v := 0) dX8_brings_54 (by decide) ?_
        refine xw_istore dX8_brings_55 rfl rfl ?_
        refine xw_iload dX8_brings_57 rfl ?_
        refine xw_if_eq (tgt := 78) dX8_brings_59 (by decide) (fun _ => ?_) (fun q9 => absurd q9 (by decide))
        refine xw_iincN (v := 1) dX8_brings_78 (by decide) rfl rfl rfl ?_
        refine xw_goto (tgt := 10) dX8_brings_81 (by decide) ?_
        first
        | exact lpn_X8_brings hC hX hh hx hn hc (by omega) hF (fun z => absurd (he.mp z).1.1 (by omega))
        | exact lpn_X8_brings hC hX hh hx hn hc (by omega) hF (fun z => absurd (by assumption) (he.mp z).1.2)
      · refine xw_aload_n dX8_brings_41 rfl ?_
        refine xw_iload dX8_brings_42 rfl ?_
        refine xw_cV1B dX8_brings_44 okX8_isDrowned ml_X8_202 rfl rfl rfl rfl (s_X8_isDrowned hC2 hX2 (by omega)) (fun p44 => ?_) (fun p44 => ?_)
        · refine xw_if_ne (tgt := 54) dX8_brings_47 (by decide) (fun _ => ?_) (fun q9 => absurd q9 (by decide))
          refine xw_iconst (v := 0) dX8_brings_54 (by decide) ?_
          refine xw_istore dX8_brings_55 rfl rfl ?_
          refine xw_iload dX8_brings_57 rfl ?_
          refine xw_if_eq (tgt := 78) dX8_brings_59 (by decide) (fun _ => ?_) (fun q9 => absurd q9 (by decide))
          refine xw_iincN (v := 1) dX8_brings_78 (by decide) rfl rfl rfl ?_
          refine xw_goto (tgt := 10) dX8_brings_81 (by decide) ?_
          first
          | exact lpn_X8_brings hC hX hh hx hn hc (by omega) hF (fun z => absurd (he.mp z).1.1 (by omega))
          | exact lpn_X8_brings hC hX hh hx hn hc (by omega) hF (fun z => absurd (by assumption) (he.mp z).1.2)
        · refine xw_if_ne (tgt := 54) dX8_brings_47 (by decide) (fun q9 => absurd q9 (by decide)) (fun _ => ?_)
          refine xw_iconst (v := 1) dX8_brings_50 (by decide) ?_
          refine xw_goto (tgt := 55) dX8_brings_51 (by decide) ?_
          refine xw_istore dX8_brings_55 rfl rfl ?_
          refine xw_iload dX8_brings_57 rfl ?_
          refine xw_if_eq (tgt := 78) dX8_brings_59 (by decide) (fun q9 => absurd q9 (by decide)) (fun _ => ?_)
          refine xw_aload_n dX8_brings_62 rfl ?_
          refine xw_iload dX8_brings_63 rfl ?_
          refine xw_cV1E dX8_brings_65 okX8_slide ml_X8_196 rfl rfl rfl rfl (s_X8_slide hC2 hX2 hgQ (by omega)) ?_
          refine xw_if_ltN (tgt := 75) dX8_brings_68 (by decide) (by have := slV_lt D Q (c / 6 ^ q % 6) hn6; omega) ?_
          refine xw_iconst (v := 1) dX8_brings_71 (by decide) ?_
          refine xw_goto (tgt := 76) dX8_brings_72 (by decide) ?_
          refine xw_istore dX8_brings_76 rfl rfl ?_
          refine xw_iincN (v := 1) dX8_brings_78 (by decide) rfl rfl rfl ?_
          refine xw_goto (tgt := 10) dX8_brings_81 (by decide) ?_
          exact ih (k + 1) (slP D Q (c / 6 ^ q % 6)) _ _ (by omega) (hF.mv hn6) (mvX_XMP hX2 hQ hn6 hgQ hhs) (slP_px hQ hn6 hgQ hhs).1 (slP_GW hQ hn6 (by omega) hgQ hhs) (he.trans ⟨fun z => z.2, fun z => ⟨⟨by omega, p44⟩, z⟩⟩)
set_option maxRecDepth 20000 in
theorem s_X8_brings {D : FD} {h x c n PP : Nat} (hC : FMS M 54 D) (hX : XMP M 54 PP) (hh : h < dn D) (hx : x < 16) (hn : n ≤ 4) (hc : c < 2 ^ 31) (hP : PP < 2 ^ 24) (hg : GW D PP) : XC g l mX8_brings (d + 3) [xr 49, xi (nI c), xi (nI n), xi (nI h), xi (nI x)] M (fun r M' => ((okD D h x c n PP ∧ r = some (xi 1)) ∨ (¬ okD D h x c n PP ∧ r = some (xi 0))) ∧ Fr59 M M') := by
  show XW g l mX8_brings _ 0 [some (xr 49), some (xi (nI c)), some (xi (nI n)), some (xi (nI h)), some (xi (nI x)), none, none, none] [] M _
  refine xw_aload_n dX8_brings_0 rfl ?_
  refine xw_cV0N dX8_brings_1 okX8_putAside ml_X8_219 rfl rfl rfl rfl (s_X8_putAside hX) ?_
  refine xw_iconst (v := 1) dX8_brings_4 (by decide) ?_
  refine xw_istore dX8_brings_5 rfl rfl ?_
  refine xw_iconst (v := 0) dX8_brings_7 (by decide) ?_
  refine xw_istore dX8_brings_8 rfl rfl ?_
  exact lp_X8_brings hC hX hh hx hn hc n 0 PP _ none (by omega) ⟨fun a b q1 q2 => by rw [paM_at, if_neg (by omega)], rfl, fun i hi => by rw [paM_at, if_pos ⟨rfl, hi⟩]⟩ (fun k hk => by rw [paM_at, if_neg (by omega)]; exact hX k hk) hP hg Iff.rfl
set_option maxRecDepth 20000 in
theorem lp_X8_wantin {D : FD} {h x PP : Nat} {k : Int32} (hC : FMS M 54 D) (hX : XMP M 54 PP) (hh : h < dn D) (hx : x < 16) (hP : PP < 2 ^ 24) (hg : GW D PP) (hk : -1 ≤ k) {j : Nat} (hj : j ≤ 4) (hno : ∀ j2, j2 < j → ¬ exD D h x j2 PP) (K : ∀ (M1 : XM) (v5 : Option XV), Fr59 M M1 → ¬ exD D h x j PP → XW g l mX8_wanted (d + 4) 29 [some (xr 49), some (xi (nI h)), some (xi (nI x)), some (xi k), some (xi (nI (j + 1))), v5] [] M1 (fun r M' => (∃ w, r = some (xi w) ∧ wnA D h x PP k w) ∧ Fr59 M M')) : ∀ (q c : Nat) (M1 : XM), c + q = 6 ^ j → Fr59 M M1 → (∀ c2, c2 < c → ¬ okD D h x c2 j PP) → XW g l mX8_wanted (d + 4) 38 [some (xr 49), some (xi (nI h)), some (xi (nI x)), some (xi k), some (xi (nI j)), some (xi (nI c))] [] M1 (fun r M' => (∃ w, r = some (xi w) ∧ wnA D h x PP k w) ∧ Fr59 M M') := by
  have h6 := p6_le hj
  have hn6 := hC.1
  intro q
  induction q with
  | zero =>
    intro c M1 hc hF hn
    refine xw_iload dX8_wanted_38 rfl ?_
    refine xw_iload dX8_wanted_40 rfl ?_
    refine xw_cS1E dX8_wanted_42 okX8_rows ml_X8_236 rfl rfl (s_X8_rows hj) ?_
    refine xw_icmp_geN (tgt := 97) dX8_wanted_45 (by decide) (by omega) (fun c45 => ?_) (fun c45 => ?_)
    · refine xw_iincN (v := 1) dX8_wanted_97 (by decide) rfl rfl rfl ?_
      refine xw_goto (tgt := 29) dX8_wanted_100 (by decide) ?_
      exact K M1 _ hF (fun ⟨c2, z1, z2⟩ => hn c2 (by omega) z2)
    · exfalso; omega
  | succ q ih =>
    intro c M1 hc hF hn
    refine xw_iload dX8_wanted_38 rfl ?_
    refine xw_iload dX8_wanted_40 rfl ?_
    refine xw_cS1E dX8_wanted_42 okX8_rows ml_X8_236 rfl rfl (s_X8_rows hj) ?_
    refine xw_icmp_geN (tgt := 97) dX8_wanted_45 (by decide) (by omega) (fun c45 => ?_) (fun c45 => ?_)
    · exfalso; omega
    · refine xw_aload_n dX8_wanted_48 rfl ?_
      refine xw_iload dX8_wanted_49 rfl ?_
      refine xw_iload dX8_wanted_51 rfl ?_
      refine xw_iload_n dX8_wanted_53 rfl ?_
      refine xw_iload_n dX8_wanted_54 rfl ?_
      refine xw_cV4Q dX8_wanted_55 okX8_brings ml_X8_243 rfl rfl rfl rfl (s_X8_brings (hC.f59 hF) (hX.f59 hF) hh hx hj (by omega) hP hg) ?_
      rintro _ M2 ⟨hz, hF2⟩
      have hF3 := hF.tr hF2
      rcases hz with ⟨hz, rfl⟩ | ⟨hz, rfl⟩
      · refine xw_if_eq (tgt := 91) dX8_wanted_58 (by decide) (fun q9 => absurd q9 (by decide)) (fun _ => ?_)
        have hR : wnR D h x PP j c := ⟨hj, hno, ⟨by omega, hz, hn⟩⟩
        refine xw_iload_n dX8_wanted_61 rfl ?_
        refine xw_iconst (v := (-1)) dX8_wanted_62 (by decide) ?_
        refine xw_icmp_ne (tgt := 71) dX8_wanted_63 (by decide) (fun c63 => ?_) (fun c63 => ?_)
        · refine xw_iload_n dX8_wanted_71 rfl ?_
          refine xw_iload dX8_wanted_72 rfl ?_
          refine xw_icmp_ge (tgt := 88) dX8_wanted_74 (by decide) (fun c74 => ?_) (fun c74 => ?_)
          · refine xw_ldc dX8_wanted_88 kc_X8_50 ?_
            refine xw_ireti dX8_wanted_90 rfl ?_
            first | exact ⟨⟨_, rfl, Or.inl ⟨j, c, hR, Or.inl ⟨by assumption, rfl⟩⟩⟩, hF3⟩ | exact ⟨⟨_, rfl, Or.inl ⟨j, c, hR, Or.inl ⟨Classical.not_not.mp (by assumption), rfl⟩⟩⟩, hF3⟩ | exact ⟨⟨_, rfl, Or.inl ⟨j, c, hR, Or.inr (Or.inl ⟨i, hi, rfl, rfl⟩)⟩⟩, hF3⟩ | exact ⟨⟨_, rfl, Or.inl ⟨j, c, hR, Or.inr (Or.inr ⟨by assumption, by grind, rfl⟩)⟩⟩, hF3⟩
          · obtain ⟨i, hi, rfl⟩ := nv_lit (x := k) (n := j) (by omega) (by grind) (by grind)
            refine xw_iload dX8_wanted_77 rfl ?_
            refine xw_iload dX8_wanted_79 rfl ?_
            refine xw_iload_n dX8_wanted_81 rfl ?_
            refine xw_cS3E dX8_wanted_82 okX8_whose ml_X8_239 rfl rfl (s_X8_whose hj hi (by omega)) ?_
            refine xw_goto (tgt := 90) dX8_wanted_85 (by decide) ?_
            refine xw_ireti dX8_wanted_90 rfl ?_
            first | exact ⟨⟨_, rfl, Or.inl ⟨j, c, hR, Or.inl ⟨by assumption, rfl⟩⟩⟩, hF3⟩ | exact ⟨⟨_, rfl, Or.inl ⟨j, c, hR, Or.inl ⟨Classical.not_not.mp (by assumption), rfl⟩⟩⟩, hF3⟩ | exact ⟨⟨_, rfl, Or.inl ⟨j, c, hR, Or.inr (Or.inl ⟨i, hi, rfl, rfl⟩)⟩⟩, hF3⟩ | exact ⟨⟨_, rfl, Or.inl ⟨j, c, hR, Or.inr (Or.inr ⟨by assumption, by grind, rfl⟩)⟩⟩, hF3⟩
        · refine xw_iload dX8_wanted_66 rfl ?_
          refine xw_goto (tgt := 90) dX8_wanted_68 (by decide) ?_
          refine xw_ireti dX8_wanted_90 rfl ?_
          first | exact ⟨⟨_, rfl, Or.inl ⟨j, c, hR, Or.inl ⟨by assumption, rfl⟩⟩⟩, hF3⟩ | exact ⟨⟨_, rfl, Or.inl ⟨j, c, hR, Or.inl ⟨Classical.not_not.mp (by assumption), rfl⟩⟩⟩, hF3⟩ | exact ⟨⟨_, rfl, Or.inl ⟨j, c, hR, Or.inr (Or.inl ⟨i, hi, rfl, rfl⟩)⟩⟩, hF3⟩ | exact ⟨⟨_, rfl, Or.inl ⟨j, c, hR, Or.inr (Or.inr ⟨by assumption, by grind, rfl⟩)⟩⟩, hF3⟩
      · refine xw_if_eq (tgt := 91) dX8_wanted_58 (by decide) (fun _ => ?_) (fun q9 => absurd rfl q9)
        refine xw_iincN (v := 1) dX8_wanted_91 (by decide) rfl rfl rfl ?_
        refine xw_goto (tgt := 38) dX8_wanted_94 (by decide) ?_
        exact ih (c + 1) M2 (by omega) hF3 (fun c2 hc2 => by
          rcases Nat.lt_or_ge c2 c with z | z
          · exact hn c2 z
          · rw [show c2 = c by omega]; exact hz)
set_option maxRecDepth 20000 in
theorem lp_X8_wanted {D : FD} {h x PP : Nat} {k : Int32} (hC : FMS M 54 D) (hX : XMP M 54 PP) (hh : h < dn D) (hx : x < 16) (hP : PP < 2 ^ 24) (hg : GW D PP) (hk : -1 ≤ k)  : ∀ (q j : Nat) (M1 : XM) (v5 : Option XV), j + q = 5 → Fr59 M M1 → (∀ j2, j2 < j → ¬ exD D h x j2 PP) → XW g l mX8_wanted (d + 4) 29 [some (xr 49), some (xi (nI h)), some (xi (nI x)), some (xi k), some (xi (nI j)), v5] [] M1 (fun r M' => (∃ w, r = some (xi w) ∧ wnA D h x PP k w) ∧ Fr59 M M') := by
  intro q
  induction q with
  | zero =>
    intro j M1 v5 hj hF hno
    refine xw_iload dX8_wanted_29 rfl ?_
    refine xw_iconst (v := 5) dX8_wanted_31 (by decide) ?_
    refine xw_icmp_geN (b := 5) (tgt := 103) dX8_wanted_32 (by decide) (by omega) (fun c32 => ?_) (fun c32 => ?_)
    · refine xw_ldc dX8_wanted_103 kc_X8_50 ?_
      refine xw_ireti dX8_wanted_105 rfl ?_
      exact ⟨⟨_, rfl, Or.inr ⟨fun j2 hj2 => hno j2 (by omega), rfl⟩⟩, hF⟩
    · exfalso; omega
  | succ q ih =>
    intro j M1 v5 hj hF hno
    refine xw_iload dX8_wanted_29 rfl ?_
    refine xw_iconst (v := 5) dX8_wanted_31 (by decide) ?_
    refine xw_icmp_geN (b := 5) (tgt := 103) dX8_wanted_32 (by decide) (by omega) (fun c32 => ?_) (fun c32 => ?_)
    · exfalso; omega
    · refine xw_iconst (v := 0) dX8_wanted_35 (by decide) ?_
      refine xw_istore dX8_wanted_36 rfl rfl ?_
      refine lp_X8_wantin hC hX hh hx hP hg hk (by omega) hno (fun M2 u5 z1 z2 => ih (j + 1) M2 u5 (by omega) z1 (fun j2 hj2 => ?_)) (6 ^ j) 0 M1 (by omega) hF (fun _ z => absurd z (by omega))
      rcases Nat.lt_or_ge j2 j with z | z
      · exact hno j2 z
      · rw [show j2 = j by omega]; exact z2
set_option maxRecDepth 20000 in
theorem k_X8_wanted_bad {n : Nat} {a x k : Int32} (hN : M.1 54 3 = nI n) (hn6 : n ≤ 6) (h : ¬ ((0 ≤ a ∧ a < nI n) ∧ (0 ≤ x ∧ x ≤ 15) ∧ -1 ≤ k)) : XC g l mX8_wanted (d + 4) [xr 49, xi a, xi x, xi k] M (XE (some (xi (-1000001))) M) := by
  show XW g l mX8_wanted _ 0 [some (xr 49), some (xi a), some (xi x), some (xi k), none, none] [] M _
  refine xw_aload_n dX8_wanted_0 rfl ?_
  refine xw_iload_n dX8_wanted_1 rfl ?_
  refine xw_cV1B dX8_wanted_2 okX8_isThere ml_X8_199 rfl rfl rfl rfl (s_X8_isThere hN hn6 _) (fun p2 => ?_) (fun p2 => ?_)
  · refine xw_if_eq (tgt := 23) dX8_wanted_5 (by decide) (fun q9 => absurd q9 (by decide)) (fun _ => ?_)
    refine xw_iload_n dX8_wanted_8 rfl ?_
    refine xw_iconst (v := 0) dX8_wanted_9 (by decide) ?_
    refine xw_bipush (v := 15) dX8_wanted_10 (by decide) ?_
    refine xw_cS3B dX8_wanted_12 okX8_in ml_X8_56 rfl rfl (s_X8_in _ _ _) (fun p12 => ?_) (fun p12 => ?_)
    · refine xw_if_eq (tgt := 23) dX8_wanted_15 (by decide) (fun q9 => absurd q9 (by decide)) (fun _ => ?_)
      refine xw_iload_n dX8_wanted_18 rfl ?_
      refine xw_iconst (v := (-1)) dX8_wanted_19 (by decide) ?_
      refine xw_icmp_ge (tgt := 26) dX8_wanted_20 (by decide) (fun c20 => ?_) (fun c20 => ?_)
      · exfalso; first | contradiction | omega | grind | simp_all
      · refine xw_ldc dX8_wanted_23 kc_X8_64 ?_
        refine xw_ireti dX8_wanted_25 rfl ?_
        first | exact ⟨rfl, rfl⟩ | exact ⟨by simp_all, rfl⟩ | grind [XE]
    · refine xw_if_eq (tgt := 23) dX8_wanted_15 (by decide) (fun _ => ?_) (fun q9 => absurd q9 (by decide))
      refine xw_ldc dX8_wanted_23 kc_X8_64 ?_
      refine xw_ireti dX8_wanted_25 rfl ?_
      first | exact ⟨rfl, rfl⟩ | exact ⟨by simp_all, rfl⟩ | grind [XE]
  · refine xw_if_eq (tgt := 23) dX8_wanted_5 (by decide) (fun _ => ?_) (fun q9 => absurd q9 (by decide))
    refine xw_ldc dX8_wanted_23 kc_X8_64 ?_
    refine xw_ireti dX8_wanted_25 rfl ?_
    first | exact ⟨rfl, rfl⟩ | exact ⟨by simp_all, rfl⟩ | grind [XE]
set_option maxRecDepth 20000 in
theorem m_wanted {D : FD} {h x PP : Nat} {k : Int32} (hC : FMS M 54 D) (hX : XMP M 54 PP) (hh : h < dn D) (hx : x < 16) (hP : PP < 2 ^ 24) (hg : GW D PP) (hk : -1 ≤ k)  : XC g l mX8_wanted (d + 4) [xr 49, xi (nI h), xi (nI x), xi k] M (fun r M' => (∃ w, r = some (xi w) ∧ wnA D h x PP k w) ∧ Fr59 M M') := by
  have hN := hC.2.2.2.1
  have hn6 := hC.1
  have e0 : 0 ≤ nI h ∧ nI h < nI (dn D) := nI_in0 (by omega) hh
  have e1 : nI 0 ≤ nI x ∧ nI x ≤ 15 := ⟨nI_pos' (by omega), nI_le (b := 15) (by omega) (by decide)⟩
  show XW g l mX8_wanted _ 0 [some (xr 49), some (xi (nI h)), some (xi (nI x)), some (xi k), none, none] [] M _
  refine xw_aload_n dX8_wanted_0 rfl ?_
  refine xw_iload_n dX8_wanted_1 rfl ?_
  refine xw_cV1B dX8_wanted_2 okX8_isThere ml_X8_199 rfl rfl rfl rfl (s_X8_isThere hN hn6 _) (fun p2 => ?_) (fun p2 => ?_)
  · refine xw_if_eq (tgt := 23) dX8_wanted_5 (by decide) (fun q9 => absurd q9 (by decide)) (fun _ => ?_)
    refine xw_iload_n dX8_wanted_8 rfl ?_
    refine xw_iconst (v := 0) dX8_wanted_9 (by decide) ?_
    refine xw_bipush (v := 15) dX8_wanted_10 (by decide) ?_
    refine xw_cS3B dX8_wanted_12 okX8_in ml_X8_56 rfl rfl (s_X8_in _ _ _) (fun p12 => ?_) (fun p12 => ?_)
    · refine xw_if_eq (tgt := 23) dX8_wanted_15 (by decide) (fun q9 => absurd q9 (by decide)) (fun _ => ?_)
      refine xw_iload_n dX8_wanted_18 rfl ?_
      refine xw_iconst (v := (-1)) dX8_wanted_19 (by decide) ?_
      refine xw_icmp_ge (tgt := 26) dX8_wanted_20 (by decide) (fun c20 => ?_) (fun c20 => ?_)
      · refine xw_iconst (v := 0) dX8_wanted_26 (by decide) ?_
        refine xw_istore dX8_wanted_27 rfl rfl ?_
        exact lp_X8_wanted hC hX hh hx hP hg hk 5 0 M none (by omega) (Fr59.rf _) (fun _ z => absurd z (by omega))
      · exfalso; first | contradiction | omega | grind
    · exfalso; first | contradiction | omega | grind
  · exfalso; first | contradiction | omega | grind
end WANTM
