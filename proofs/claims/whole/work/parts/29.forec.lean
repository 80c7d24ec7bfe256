section FORE
variable {g : XG} {l : Launch} {d : Nat} {M : XM}
def FrF (M M' : XM) : Prop := (∀ a b, a ≠ 44 → a ≠ 45 → a ≠ 46 → ¬ (a = 43 ∧ b = 2) → M'.1 a b = M.1 a b) ∧ M'.2 = M.2
theorem FrF.rf (M : XM) : FrF M M := ⟨fun _ _ _ _ _ _ => rfl, rfl⟩
theorem FrF.tr {M M1 M2 : XM} (h : FrF M M1) (h2 : FrF M1 M2) : FrF M M2 := ⟨fun a b q1 q2 q3 q4 => (h2.1 a b q1 q2 q3 q4).trans (h.1 a b q1 q2 q3 q4), h2.2.trans h.2⟩
theorem FCS.fr {M M' : XM} {D : FD} (h : FCS M 8 D) (hF : FrF M M') : FCS M' 8 D := h.keep (fun b _ => hF.1 8 b (by omega) (by omega) (by omega) (by omega)) (fun c b h1 h2 => hF.1 c b (by omega) (by omega) (by omega) (by omega))
theorem p8 {k : Nat} (h : k < 8) : 1 * 2 ^ k ≤ 128 := by
  rcases (show k = 0 ∨ k = 1 ∨ k = 2 ∨ k = 3 ∨ k = 4 ∨ k = 5 ∨ k = 6 ∨ k = 7 by omega) with rfl | rfl | rfl | rfl | rfl | rfl | rfl | rfl <;> decide
theorem p9 {k : Nat} (h : k ≤ 8) : 1 * 2 ^ k ≤ 256 := by
  rcases (show k = 0 ∨ k = 1 ∨ k = 2 ∨ k = 3 ∨ k = 4 ∨ k = 5 ∨ k = 6 ∨ k = 7 ∨ k = 8 by omega) with rfl | rfl | rfl | rfl | rfl | rfl | rfl | rfl | rfl <;> decide
theorem sh16 {x k : Nat} (hx : x < 16) (hk : k < 6) : x * 2 ^ (4 * k) < 2 ^ 32 := by
  rcases k6 hk with rfl | rfl | rfl | rfl | rfl | rfl <;> simp <;> omega
noncomputable def adM (M : XM) (D : FD) (st : Nat → Nat) (h k t : Nat) : XM := xum M 44 (fun i => if 1 * 2 ^ k ≤ i ∧ i < 1 * 2 ^ k + t then nI (slP D (st (i - 1 * 2 ^ k)) h) else M.1 44 i)
theorem adM_at (M : XM) (D : FD) (st : Nat → Nat) (h k t a b : Nat) : (adM M D st h k t).1 a b = if a = 44 ∧ 1 * 2 ^ k ≤ b ∧ b < 1 * 2 ^ k + t then nI (slP D (st (b - 1 * 2 ^ k)) h) else M.1 a b := by
  unfold adM
  rw [xum_at]
  by_cases e : a = 44
  · subst e; simp
  · simp [e]
theorem adM_s (M : XM) (D : FD) (st : Nat → Nat) (h k t : Nat) : xup (adM M D st h k t) 44 (t + 1 * 2 ^ k) (nI (slP D (st t) h)) = adM M D st h k (t + 1) := xm_ext (fun a b => by
  rw [xup_at, adM_at, adM_at]
  by_cases q : a = 44 ∧ b = t + 1 * 2 ^ k
  · rw [if_pos q, if_pos (by omega), show b - 1 * 2 ^ k = t by omega]
  · rw [if_neg q]
    by_cases z : a = 44 ∧ 1 * 2 ^ k ≤ b ∧ b < 1 * 2 ^ k + t
    · rw [if_pos z, if_pos (by omega)]
    · rw [if_neg z, if_neg (show ¬ (a = 44 ∧ 1 * 2 ^ k ≤ b ∧ b < 1 * 2 ^ k + (t + 1)) by omega)]) (fun _ _ => rfl)
theorem adM_fr (M : XM) (D : FD) (st : Nat → Nat) (h k t : Nat) : FrF M (adM M D st h k t) := ⟨fun a b q1 _ _ _ => by rw [adM_at, if_neg (by omega)], rfl⟩
set_option maxRecDepth 20000 in
theorem s_X2_beginAt {v : Int32} : XC g l mX2_beginAt d [xr 43, xi v] M (XE none (xup M 44 0 v)) := by
  show XW g l mX2_beginAt _ 0 [some (xr 43), some (xi v)] [] M _
  refine xw_aload_n dX2_beginAt_0 rfl ?_
  refine xw_getR dX2_beginAt_1 fl_X2_11 rfl rfl ?_
  refine xw_iconst (v := 0) dX2_beginAt_4 (by decide) ?_
  refine xw_iload_n dX2_beginAt_5 rfl ?_
  refine xw_iasN 0 dX2_beginAt_6 rfl (rfl) rfl ?_ ?_
  · omega
  refine xw_ret dX2_beginAt_7 rfl ?_
  first | exact ⟨rfl, rfl⟩ | exact ⟨rfl, by simp_all⟩
set_option maxRecDepth 20000 in
theorem lp_X2_addSaying {D : FD} {st : Nat → Nat} {h k : Nat} (hC : FCS M 8 D) (hh : h < dn D) (hk : k < 8) (hst : ∀ s, s < 1 * 2 ^ k → M.1 44 s = nI (st s) ∧ st s < 2 ^ 24)  : ∀ (q t : Nat) (v6 : Option XV), t + q = 1 * 2 ^ k → XW g l mX2_addSaying (d + 4) 8 [some (xr 43), some (xr 8), some (xi (nI h)), some (xi (nI k)), some (xi (nI (1 * 2 ^ k))), some (xi (nI t)), v6] [] (adM M D st h k t) (XE none (adM M D st h k (1 * 2 ^ k))) := by
  have hp := p8 hk
  intro q
  induction q with
  | zero =>
    intro t v6 ht
    have ht : t = 1 * 2 ^ k := by omega
    subst ht
    refine xw_iload dX2_addSaying_8 rfl ?_
    refine xw_iload dX2_addSaying_10 rfl ?_
    refine xw_icmp_geN (tgt := 53) dX2_addSaying_12 (by decide) (by omega) (fun c12 => ?_) (fun c12 => ?_)
    · refine xw_ret dX2_addSaying_53 rfl ?_
      first | exact ⟨rfl, rfl⟩ | exact ⟨rfl, by simp_all⟩
    · exfalso; omega
  | succ q ih =>
    intro t v6 ht
    have ih2 := fun u6 => ih (t + 1) u6 (by omega)
    rw [← adM_s] at ih2
    obtain ⟨hs1, hs2⟩ := hst t (by omega)
    have hC2 := hC.fr (adM_fr M D st h k t)
    have hsl := slV_lt D (st t) h hC.1
    refine xw_iload dX2_addSaying_8 rfl ?_
    refine xw_iload dX2_addSaying_10 rfl ?_
    refine xw_icmp_geN (tgt := 53) dX2_addSaying_12 (by decide) (by omega) (fun c12 => ?_) (fun c12 => ?_)
    · exfalso; omega
    · refine xw_aload_n dX2_addSaying_15 rfl ?_
      refine xw_getR dX2_addSaying_16 fl_X2_11 rfl rfl ?_
      refine xw_iload dX2_addSaying_19 rfl ?_
      refine xw_ialN _ dX2_addSaying_21 rfl (rfl) (show _ = nI (st t) by rw [adM_at, if_neg (by omega)]; exact hs1) rfl ?_ ?_
      · omega
      refine xw_istore dX2_addSaying_22 rfl rfl ?_
      refine xw_aload_n dX2_addSaying_24 rfl ?_
      refine xw_getR dX2_addSaying_25 fl_X2_11 rfl rfl ?_
      refine xw_iload dX2_addSaying_28 rfl ?_
      refine xw_iload dX2_addSaying_30 rfl ?_
      refine xw_iaddN dX2_addSaying_32 ?_
      refine xw_aload_n dX2_addSaying_33 rfl ?_
      refine xw_iload dX2_addSaying_34 rfl ?_
      refine xw_aload_n dX2_addSaying_36 rfl ?_
      refine xw_iload dX2_addSaying_37 rfl ?_
      refine xw_iload_n dX2_addSaying_39 rfl ?_
      refine xw_cV2E dX2_addSaying_40 okX1_slidBy ml_X2_25 rfl rfl rfl rfl (s_X1_slidBy xf_8 hC2 hs2 hh) ?_
      refine xw_cV2E dX2_addSaying_43 okX1_afterSlide ml_X2_31 rfl rfl rfl rfl (s_X1_afterSlide xf_8 hC2 hsl) ?_
      refine xw_iasN _ dX2_addSaying_46 rfl (rfl) rfl ?_ ?_
      · omega
      refine xw_iincN (v := 1) dX2_addSaying_47 (by decide) rfl rfl rfl ?_
      refine xw_goto (tgt := 8) dX2_addSaying_50 (by decide) ?_
      exact ih2 _
set_option maxRecDepth 20000 in
theorem s_X2_addSaying {D : FD} {st : Nat → Nat} {h k : Nat} (hC : FCS M 8 D) (hh : h < dn D) (hk : k < 8) (hst : ∀ s, s < 1 * 2 ^ k → M.1 44 s = nI (st s) ∧ st s < 2 ^ 24)  : XC g l mX2_addSaying (d + 4) [xr 43, xr 8, xi (nI h), xi (nI k)] M (XE none (adM M D st h k (1 * 2 ^ k))) := by
  have hp := p8 hk
  have e0 : adM M D st h k 0 = M := xm_ext (fun a b => by rw [adM_at, if_neg (by omega)]) (fun _ _ => rfl)
  show XW g l mX2_addSaying _ 0 [some (xr 43), some (xr 8), some (xi (nI h)), some (xi (nI k)), none, none, none] [] M _
  refine xw_iconst (v := 1) dX2_addSaying_0 (by decide) ?_
  refine xw_iload_n dX2_addSaying_1 rfl ?_
  refine xw_ishlN (a := 1) dX2_addSaying_2 ?_ ?_ ?_
  · omega
  · omega
  refine xw_istore dX2_addSaying_3 rfl rfl ?_
  refine xw_iconst (v := 0) dX2_addSaying_5 (by decide) ?_
  refine xw_istore dX2_addSaying_6 rfl rfl ?_
  have e9 := lp_X2_addSaying (g := g) (l := l) (d := d) hC hh hk hst (1 * 2 ^ k) 0 none (by omega)
  rwa [e0] at e9
/-- a row of stands, item by item -/
def okV (D : FD) (v : Nat → Int32) : Prop := ∀ h, h < dn D → 0 ≤ v h ∧ v h < 16
noncomputable def oneV (D : FD) (v : Nat → Int32) : Int32 := if decP (okV D v) then nI (pkV (fun h => (v h).toNatClampNeg) (dn D)) else -1
theorem nv16 {x : Int32} (h : 0 ≤ x ∧ x < 16) : x.toNatClampNeg < 16 ∧ x = nI x.toNatClampNeg := by
  obtain ⟨j, h1, h2⟩ := nv_lit (n := 16) (by decide) h.1 h.2
  rw [h2, nI_clamp (by omega)]
  exact ⟨h1, rfl⟩
theorem fit_iff {D : FD} {v : Nat → Int32} {Q : Nat} (hn : dn D ≤ 6) (hQ : Q < 2 ^ (4 * dn D)) : nI Q = oneV D v ↔ ∀ h, h < dn D → nI (px Q h) = v h := by
  have hQ24 : Q < 2 ^ 24 := Nat.lt_of_lt_of_le hQ (Nat.pow_le_pow_right (by decide) (by omega))
  unfold oneV
  by_cases ho : okV D v
  · rw [if_pos (decP_t ho)]
    obtain ⟨h1, h2⟩ := pkV_px (v := fun h => (v h).toNatClampNeg) (dn D) hn (fun j hj => (nv16 (ho j hj)).1)
    have h3 : pkV (fun h => (v h).toNatClampNeg) (dn D) < 2 ^ 24 := Nat.lt_of_lt_of_le h1 (Nat.pow_le_pow_right (by decide) (by omega))
    rw [nI_eq (by omega) (by omega)]
    constructor
    · intro e h hh
      rw [e, h2 h hh]
      exact (nv16 (ho h hh)).2.symm
    · intro e
      refine px_ext hn hQ h1 (fun k hk => ?_)
      rw [h2 k hk]
      have e1 := e k hk
      rw [(nv16 (ho k hk)).2] at e1
      exact (nI_eq (by have := px_lt Q k; omega) (by have := (nv16 (ho k hk)).1; omega)).mp e1
  · rw [decP_f ho, if_neg (by decide)]
    constructor
    · intro e
      exact absurd e (nI_ne_m1 (by omega))
    · intro e
      refine absurd (fun h hh => ?_) ho
      rw [← e h hh]
      exact ⟨nI_pos' (by have := px_lt Q h; omega), nI_lt (b := 16) (px_lt Q h) (by decide)⟩
set_option maxRecDepth 20000 in
theorem lp_X7_standsAsOne {D : FD} {r : Nat} {v : Nat → Int32} (hC : FCS M 8 D) (hr : r < 8) (hv : ∀ h, h < dn D → M.1 4 (r * 40 + h) = v h)  : ∀ (q k : Nat) (v4 : Option XV), k + q = dn D → (∀ h, h < k → 0 ≤ v h ∧ v h < 16) → XW g l mX7_standsAsOne (d + 1) 4 [some (xr 0), some (xi (nI r)), some (xi (nI (pkV (fun h => (v h).toNatClampNeg) k))), some (xi (nI k)), v4] [] M (XE (some (xi (oneV D v))) M) := by
  have hn6 := hC.1
  have hN := hC.2.2.2.1
  intro q
  induction q with
  | zero =>
    intro k v4 hk h0
    have hk : k = dn D := by omega
    subst hk
    refine xw_iload_n dX7_standsAsOne_4 rfl ?_
    refine xw_aload_n dX7_standsAsOne_5 rfl ?_
    refine xw_getR dX7_standsAsOne_6 fl_X7_26 rfl rfl ?_
    refine xw_getV dX7_standsAsOne_9 fl_X7_127 rfl rfl (hN) ?_
    refine xw_icmp_geN (tgt := 55) dX7_standsAsOne_12 (by decide) (by omega) (fun c12 => ?_) (fun c12 => ?_)
    · refine xw_iload_n dX7_standsAsOne_55 rfl ?_
      refine xw_ireti dX7_standsAsOne_56 rfl ?_
      exact ⟨by unfold oneV; rw [if_pos (decP_t (show okV D v from h0))], rfl⟩
    · exfalso; omega
  | succ q ih =>
    intro k v4 hk h0
    have hvk := hv k (by omega)
    refine xw_iload_n dX7_standsAsOne_4 rfl ?_
    refine xw_aload_n dX7_standsAsOne_5 rfl ?_
    refine xw_getR dX7_standsAsOne_6 fl_X7_26 rfl rfl ?_
    refine xw_getV dX7_standsAsOne_9 fl_X7_127 rfl rfl (hN) ?_
    refine xw_icmp_geN (tgt := 55) dX7_standsAsOne_12 (by decide) (by omega) (fun c12 => ?_) (fun c12 => ?_)
    · exfalso; omega
    · refine xw_aload_n dX7_standsAsOne_15 rfl ?_
      refine xw_getR dX7_standsAsOne_16 fl_X7_10 rfl rfl ?_
      refine xw_iload_n dX7_standsAsOne_19 rfl ?_
      refine xw_iload_n dX7_standsAsOne_20 rfl ?_
      refine xw_cV2E dX7_standsAsOne_21 okX6_item ml_X7_265 rfl rfl rfl rfl ((s_X6_item (by omega)).eqv (by rw [hvk]) rfl) ?_
      refine xw_istore dX7_standsAsOne_24 rfl rfl ?_
      refine xw_iload dX7_standsAsOne_26 rfl ?_
      refine xw_if_lt (tgt := 38) dX7_standsAsOne_28 (by decide) (fun c28 => ?_) (fun c28 => ?_)
      · refine xw_iconst (v := (-1)) dX7_standsAsOne_38 (by decide) ?_
        refine xw_ireti dX7_standsAsOne_39 rfl ?_
        have e9 : ¬ okV D v := fun z => absurd (z k (by omega)) (by grind)
        exact ⟨by unfold oneV; rw [decP_f e9]; rfl, rfl⟩
      · refine xw_iload dX7_standsAsOne_31 rfl ?_
        refine xw_bipush (v := 16) dX7_standsAsOne_33 (by decide) ?_
        refine xw_icmp_lt (tgt := 40) dX7_standsAsOne_35 (by decide) (fun c35 => ?_) (fun c35 => ?_)
        · have e8 : 0 ≤ v k ∧ v k < 16 := by grind
          obtain ⟨e6, e7⟩ := nv16 e8
          have ih2 := fun u4 => ih (k + 1) u4 (by omega) (fun h hh => by
            rcases Nat.lt_or_ge h k with z | z
            · exact h0 h z
            · rw [show h = k by omega]; exact e8)
          rw [show pkV (fun h => (v h).toNatClampNeg) (k + 1) = pkV (fun h => (v h).toNatClampNeg) k ||| (v k).toNatClampNeg * 2 ^ (4 * k) from rfl] at ih2
          rw [e7]
          rw [← e7]
          refine Eq.mp (congrArg (fun z => XW g l mX7_standsAsOne (d + 1) 40 ([some (xr 0), some (xi (nI r)), some (xi (nI (pkV (fun h => (v h).toNatClampNeg) k))), some (xi (nI k)), some (xi z)]) [] M (XE (some (xi (oneV D v))) M)) e7.symm) ?_
          refine xw_iload_n dX7_standsAsOne_40 rfl ?_
          refine xw_iload dX7_standsAsOne_41 rfl ?_
          refine xw_iconst (v := 4) dX7_standsAsOne_43 (by decide) ?_
          refine xw_iload_n dX7_standsAsOne_44 rfl ?_
          refine xw_imulN (a := 4) dX7_standsAsOne_45 ?_
          refine xw_ishlN dX7_standsAsOne_46 ?_ ?_ ?_
          · omega
          · exact sh16 e6 (by omega)
          refine xw_iorN dX7_standsAsOne_47 ?_
          refine xw_istore_n dX7_standsAsOne_48 rfl rfl ?_
          refine xw_iincN (v := 1) dX7_standsAsOne_49 (by decide) rfl rfl rfl ?_
          refine xw_goto (tgt := 4) dX7_standsAsOne_52 (by decide) ?_
          exact ih2 _
        · refine xw_iconst (v := (-1)) dX7_standsAsOne_38 (by decide) ?_
          refine xw_ireti dX7_standsAsOne_39 rfl ?_
          have e9 : ¬ okV D v := fun z => absurd (z k (by omega)) (by grind)
          exact ⟨by unfold oneV; rw [decP_f e9]; rfl, rfl⟩
set_option maxRecDepth 20000 in
theorem s_X7_standsAsOne {D : FD} {r : Nat} {v : Nat → Int32} (hC : FCS M 8 D) (hr : r < 8) (hv : ∀ h, h < dn D → M.1 4 (r * 40 + h) = v h)  : XC g l mX7_standsAsOne (d + 1) [xr 0, xi (nI r)] M (XE (some (xi (oneV D v))) M) := by
  show XW g l mX7_standsAsOne _ 0 [some (xr 0), some (xi (nI r)), none, none, none] [] M _
  refine xw_iconst (v := 0) dX7_standsAsOne_0 (by decide) ?_
  refine xw_istore_n dX7_standsAsOne_1 rfl rfl ?_
  refine xw_iconst (v := 0) dX7_standsAsOne_2 (by decide) ?_
  refine xw_istore_n dX7_standsAsOne_3 rfl rfl ?_
  exact lp_X7_standsAsOne hC hr hv (dn D) 0 none (by omega) (fun _ z => absurd z (by omega))
/-- so many fit, and which -/
def Fits (M : XM) (p : Nat → Prop) (N : Nat) : Prop := M.1 43 2 = nI (ctF p N) ∧ ∀ s, s < N → p s → M.1 45 (ctF p s) = nI s
set_option maxRecDepth 20000 in
theorem lp_X2_keepFitting {p : Nat → Prop} {n : Nat} {v : Int32} (hn : n ≤ 8) (hp : ∀ s, s < 1 * 2 ^ n → (M.1 44 s = v ↔ p s))  : ∀ (q s : Nat) (M1 : XM), s + q = 1 * 2 ^ n → Fits M1 p s → FrF M M1 → (∀ s, M1.1 44 s = M.1 44 s) → XW g l mX2_keepFitting d 7 [some (xr 43), some (xi (nI n)), some (xi v), some (xi (nI s))] [] M1 (fun r M' => r = none ∧ Fits M' p (1 * 2 ^ n) ∧ FrF M M') := by
  have h9 := p9 hn
  intro q
  induction q with
  | zero =>
    intro s M1 hs hF hFr h44
    have hs : s = 1 * 2 ^ n := by omega
    subst hs
    refine xw_iload_n dX2_keepFitting_7 rfl ?_
    refine xw_iconst (v := 1) dX2_keepFitting_8 (by decide) ?_
    refine xw_iload_n dX2_keepFitting_9 rfl ?_
    refine xw_ishlN (a := 1) dX2_keepFitting_10 ?_ ?_ ?_
    · omega
    · omega
    refine xw_icmp_geN (tgt := 50) dX2_keepFitting_11 (by decide) (by omega) (fun c11 => ?_) (fun c11 => ?_)
    · refine xw_ret dX2_keepFitting_50 rfl ?_
      exact ⟨rfl, hF, hFr⟩
    · exfalso; omega
  | succ q ih =>
    intro s M1 hs hF hFr h44
    have hc := ctF_le p s
    have hps := hp s (by omega)
    rw [← h44 s] at hps
    refine xw_iload_n dX2_keepFitting_7 rfl ?_
    refine xw_iconst (v := 1) dX2_keepFitting_8 (by decide) ?_
    refine xw_iload_n dX2_keepFitting_9 rfl ?_
    refine xw_ishlN (a := 1) dX2_keepFitting_10 ?_ ?_ ?_
    · omega
    · omega
    refine xw_icmp_geN (tgt := 50) dX2_keepFitting_11 (by decide) (by omega) (fun c11 => ?_) (fun c11 => ?_)
    · exfalso; omega
    · refine xw_aload_n dX2_keepFitting_14 rfl ?_
      refine xw_getR dX2_keepFitting_15 fl_X2_11 rfl rfl ?_
      refine xw_iload_n dX2_keepFitting_18 rfl ?_
      refine xw_ialN _ dX2_keepFitting_19 rfl (rfl) (rfl) rfl ?_ ?_
      · omega
      refine xw_iload_n dX2_keepFitting_20 rfl ?_
      refine xw_icmp_ne (tgt := 44) dX2_keepFitting_21 (by decide) (fun c21 => ?_) (fun c21 => ?_)
      · refine xw_iincN (v := 1) dX2_keepFitting_44 (by decide) rfl rfl rfl ?_
        refine xw_goto (tgt := 7) dX2_keepFitting_47 (by decide) ?_
        first
        | (have e9 : p s := hps.mp c21
           refine ih (s + 1) _ (by omega) ⟨by rw [xup_same, ctF_t e9], fun t ht hpt => ?_⟩ ⟨fun a b q1 q2 q3 q4 => by rw [xup_at, if_neg q4, xup_cell _ _ q2]; exact hFr.1 a b q1 q2 q3 q4, hFr.2⟩ (fun t => by rw [xup_cell _ _ (by decide), xup_cell _ _ (by decide)]; exact h44 t)
           rw [xup_cell _ _ (by decide), xup_at]
           rcases Nat.lt_or_ge t s with z | z
           · have := ctF_lt hpt z
             rw [if_neg (by omega)]; exact hF.2 t z hpt
           · have z : t = s := by omega
             subst z
             rw [if_pos ⟨rfl, rfl⟩])
        | (have e9 : ¬ p s := fun z => c21 (hps.mpr z)
           refine ih (s + 1) _ (by omega) ⟨by rw [ctF_f e9]; exact hF.1, fun t ht hpt => ?_⟩ hFr h44
           rcases Nat.lt_or_ge t s with z | z
           · exact hF.2 t z hpt
           · exact absurd hpt (by rw [show t = s by omega]; exact e9))
      · refine xw_aload_n dX2_keepFitting_24 rfl ?_
        refine xw_getR dX2_keepFitting_25 fl_X2_15 rfl rfl ?_
        refine xw_aload_n dX2_keepFitting_28 rfl ?_
        refine xw_getV dX2_keepFitting_29 fl_X2_18 rfl rfl (hF.1) ?_
        refine xw_iload_n dX2_keepFitting_32 rfl ?_
        refine xw_iasN _ dX2_keepFitting_33 rfl (rfl) rfl ?_ ?_
        · omega
        refine xw_aload_n dX2_keepFitting_34 rfl ?_
        refine xw_dup dX2_keepFitting_35 rfl ?_
        refine xw_getV dX2_keepFitting_36 fl_X2_18 rfl rfl (show _ = nI (ctF p s) by rw [xup_cell _ _ (by decide)]; exact hF.1) ?_
        refine xw_iconst (v := 1) dX2_keepFitting_39 (by decide) ?_
        refine xw_iaddN (b := 1) dX2_keepFitting_40 ?_
        refine xw_putI dX2_keepFitting_41 fp_X2_18 rfl rfl ?_
        refine xw_iincN (v := 1) dX2_keepFitting_44 (by decide) rfl rfl rfl ?_
        refine xw_goto (tgt := 7) dX2_keepFitting_47 (by decide) ?_
        first
        | (have e9 : p s := hps.mp c21
           refine ih (s + 1) _ (by omega) ⟨by rw [xup_same, ctF_t e9], fun t ht hpt => ?_⟩ ⟨fun a b q1 q2 q3 q4 => by rw [xup_at, if_neg q4, xup_cell _ _ q2]; exact hFr.1 a b q1 q2 q3 q4, hFr.2⟩ (fun t => by rw [xup_cell _ _ (by decide), xup_cell _ _ (by decide)]; exact h44 t)
           rw [xup_cell _ _ (by decide), xup_at]
           rcases Nat.lt_or_ge t s with z | z
           · have := ctF_lt hpt z
             rw [if_neg (by omega)]; exact hF.2 t z hpt
           · have z : t = s := by omega
             subst z
             rw [if_pos ⟨rfl, rfl⟩])
        | (have e9 : ¬ p s := fun z => c21 (hps.mpr z)
           refine ih (s + 1) _ (by omega) ⟨by rw [ctF_f e9]; exact hF.1, fun t ht hpt => ?_⟩ hFr h44
           rcases Nat.lt_or_ge t s with z | z
           · exact hF.2 t z hpt
           · exact absurd hpt (by rw [show t = s by omega]; exact e9))
set_option maxRecDepth 20000 in
theorem s_X2_keepFitting {p : Nat → Prop} {n : Nat} {v : Int32} (hn : n ≤ 8) (hp : ∀ s, s < 1 * 2 ^ n → (M.1 44 s = v ↔ p s))  : XC g l mX2_keepFitting d [xr 43, xi (nI n), xi v] M (fun r M' => r = none ∧ Fits M' p (1 * 2 ^ n) ∧ FrF M M') := by
  show XW g l mX2_keepFitting _ 0 [some (xr 43), some (xi (nI n)), some (xi v), none] [] M _
  refine xw_aload_n dX2_keepFitting_0 rfl ?_
  refine xw_iconst (v := 0) dX2_keepFitting_1 (by decide) ?_
  refine xw_putI dX2_keepFitting_2 fp_X2_18 rfl rfl ?_
  refine xw_iconst (v := 0) dX2_keepFitting_5 (by decide) ?_
  refine xw_istore_n dX2_keepFitting_6 rfl rfl ?_
  have h9 := p9 hn
  refine lp_X2_keepFitting (M := M) hn hp (1 * 2 ^ n) 0 _ (by omega) ⟨xup_same _ _ _ _, fun t ht => absurd ht (by omega)⟩ ⟨fun a b q1 q2 q3 q4 => by rw [xup_at, if_neg q4], rfl⟩ (fun t => xup_cell _ _ (by decide))
set_option maxRecDepth 20000 in
theorem s_X2_fitting  : XC g l mX2_fitting d [xr 43] M (XE (some (xi (M.1 43 2))) M) := by
  show XW g l mX2_fitting _ 0 [some (xr 43)] [] M _
  refine xw_aload_n dX2_fitting_0 rfl ?_
  refine xw_getI dX2_fitting_1 fl_X2_18 rfl rfl ?_
  refine xw_ireti dX2_fitting_4 rfl ?_
  first | exact ⟨rfl, rfl⟩ | exact ⟨by simp_all, rfl⟩ | grind [XE]
set_option maxRecDepth 20000 in
theorem s_X2_fittingSet {p : Nat → Prop} {N : Nat} (hF : Fits M p N) (hN : N ≤ 256) {i : Int32} (hi : ¬ i = -1) : XC g l mX2_fittingSet d [xr 43, xi i] M (fun r M' => (∃ v, r = some (xi v) ∧ isAns p N i v) ∧ M' = M) := by
  have hc := ctF_le p N
  have hm1 := fun s (hs : s < N) (hp : p s) => ctF_lt hp hs
  show XW g l mX2_fittingSet _ 0 [some (xr 43), some (xi i)] [] M _
  refine xw_iload_n dX2_fittingSet_0 rfl ?_
  refine xw_if_lt (tgt := 21) dX2_fittingSet_1 (by decide) (fun c1 => ?_) (fun c1 => ?_)
  · refine xw_ldc dX2_fittingSet_21 kc_X2_34 ?_
    refine xw_ireti dX2_fittingSet_23 rfl ?_
    first
    | exact ⟨⟨_, rfl, Or.inr (Or.inl ⟨s, hs1, hs2, by rw [hs3], rfl⟩)⟩, rfl⟩
    | exact ⟨⟨_, rfl, Or.inr (Or.inr ⟨hi, fun s hs hp e => absurd (e ▸ nI_pos' (n := ctF p s) (by have := hm1 s hs hp; omega)) (by rw [Int32.not_le]; assumption), rfl⟩)⟩, rfl⟩
    | exact ⟨⟨_, rfl, Or.inr (Or.inr ⟨hi, fun s hs hp e => absurd (e ▸ nI_lt (hm1 s hs hp) (by omega)) (by rw [Int32.not_lt]; assumption), rfl⟩)⟩, rfl⟩
  · refine xw_iload_n dX2_fittingSet_4 rfl ?_
    refine xw_aload_n dX2_fittingSet_5 rfl ?_
    refine xw_getV dX2_fittingSet_6 fl_X2_18 rfl rfl (hF.1) ?_
    refine xw_icmp_ge (tgt := 21) dX2_fittingSet_9 (by decide) (fun c9 => ?_) (fun c9 => ?_)
    · refine xw_ldc dX2_fittingSet_21 kc_X2_34 ?_
      refine xw_ireti dX2_fittingSet_23 rfl ?_
      first
      | exact ⟨⟨_, rfl, Or.inr (Or.inl ⟨s, hs1, hs2, by rw [hs3], rfl⟩)⟩, rfl⟩
      | exact ⟨⟨_, rfl, Or.inr (Or.inr ⟨hi, fun s hs hp e => absurd (e ▸ nI_pos' (n := ctF p s) (by have := hm1 s hs hp; omega)) (by rw [Int32.not_le]; assumption), rfl⟩)⟩, rfl⟩
      | exact ⟨⟨_, rfl, Or.inr (Or.inr ⟨hi, fun s hs hp e => absurd (e ▸ nI_lt (hm1 s hs hp) (by omega)) (by rw [Int32.not_lt]; assumption), rfl⟩)⟩, rfl⟩
    · obtain ⟨j, hj, rfl⟩ := nv_lit (x := i) (n := ctF p N) (by omega) (by grind) (by grind)
      obtain ⟨s, hs1, hs2, hs3⟩ := ctF_kth hj
      have hv := hF.2 s hs1 hs2
      rw [hs3] at hv
      refine xw_aload_n dX2_fittingSet_12 rfl ?_
      refine xw_getR dX2_fittingSet_13 fl_X2_15 rfl rfl ?_
      refine xw_iload_n dX2_fittingSet_16 rfl ?_
      refine xw_ialN _ dX2_fittingSet_17 rfl (rfl) (hv) rfl ?_ ?_
      · omega
      refine xw_goto (tgt := 23) dX2_fittingSet_18 (by decide) ?_
      refine xw_ireti dX2_fittingSet_23 rfl ?_
      first
      | exact ⟨⟨_, rfl, Or.inr (Or.inl ⟨s, hs1, hs2, by rw [hs3], rfl⟩)⟩, rfl⟩
      | exact ⟨⟨_, rfl, Or.inr (Or.inr ⟨hi, fun s hs hp e => absurd (e ▸ nI_pos' (n := ctF p s) (by have := hm1 s hs hp; omega)) (by rw [Int32.not_le]; assumption), rfl⟩)⟩, rfl⟩
      | exact ⟨⟨_, rfl, Or.inr (Or.inr ⟨hi, fun s hs hp e => absurd (e ▸ nI_lt (hm1 s hs hp) (by omega)) (by rw [Int32.not_lt]; assumption), rfl⟩)⟩, rfl⟩
set_option maxRecDepth 20000 in
theorem lp_X2_fewest {p : Nat → Prop} {N : Nat} (hF : Fits M p N) (hN : N ≤ 256)  : ∀ (q k t : Nat), k + q = ctF p N → t ≤ N → ctF p t = k → XW g l mX2_fewestLies (d + 1) 5 [some (xr 43), some (xi (encF (ffF p fewF 0 t))), some (xi (nI k))] [] M (XE (some (xi (encF (ffF p fewF 0 N)))) M) := by
  have hc := ctF_le p N
  intro q
  induction q with
  | zero =>
    intro k t hk ht hct
    have e9 : ffF p fewF 0 t = ffF p fewF 0 N := ffF_ct (by omega)
    rw [e9]
    refine xw_iload_n dX2_fewestLies_5 rfl ?_
    refine xw_aload_n dX2_fewestLies_6 rfl ?_
    refine xw_getV dX2_fewestLies_7 fl_X2_18 rfl rfl (hF.1) ?_
    refine xw_icmp_geN (tgt := 48) dX2_fewestLies_10 (by decide) (by omega) (fun c10 => ?_) (fun c10 => ?_)
    · refine xw_iload_n dX2_fewestLies_48 rfl ?_
      refine xw_ireti dX2_fewestLies_49 rfl ?_
      first | exact ⟨rfl, rfl⟩ | exact ⟨by simp_all, rfl⟩ | grind [XE]
    · exfalso; omega
  | succ q ih =>
    intro k t hk ht hct
    obtain ⟨s, hs1, hs2, hs3⟩ := ctF_kth (p := p) (k := k) (n := N) (by omega)
    have hv := hF.2 s hs1 hs2
    rw [hs3] at hv
    have e9 : ffF p fewF 0 t = ffF p fewF 0 s := ffF_ct (by omega)
    rw [e9]
    have ih2 := ih (k + 1) (s + 1) (by omega) (by omega) (by rw [ctF_t hs2, hs3])
    rw [ffF_t hs2, fewF] at ih2
    have hb := fewF_le p s
    have en := encF_none (b := ffF p fewF 0 s) (by omega)
    refine xw_iload_n dX2_fewestLies_5 rfl ?_
    refine xw_aload_n dX2_fewestLies_6 rfl ?_
    refine xw_getV dX2_fewestLies_7 fl_X2_18 rfl rfl (hF.1) ?_
    refine xw_icmp_geN (tgt := 48) dX2_fewestLies_10 (by decide) (by omega) (fun c10 => ?_) (fun c10 => ?_)
    · exfalso; omega
    · refine xw_iload_n dX2_fewestLies_13 rfl ?_
      refine xw_ldc dX2_fewestLies_14 kc_X2_34 ?_
      refine xw_icmp_eq (tgt := 35) dX2_fewestLies_16 (by decide) (fun c16 => ?_) (fun c16 => ?_)
      · rw [if_pos (Or.inl (en.mp c16)), show encF (s + 1) = nI s by unfold encF; rw [if_neg (by omega)]; rfl] at ih2
        refine xw_aload_n dX2_fewestLies_35 rfl ?_
        refine xw_getR dX2_fewestLies_36 fl_X2_15 rfl rfl ?_
        refine xw_iload_n dX2_fewestLies_39 rfl ?_
        refine xw_ialN _ dX2_fewestLies_40 rfl (rfl) (hv) rfl ?_ ?_
        · omega
        refine xw_istore_n dX2_fewestLies_41 rfl rfl ?_
        refine xw_iincN (v := 1) dX2_fewestLies_42 (by decide) rfl rfl rfl ?_
        refine xw_goto (tgt := 5) dX2_fewestLies_45 (by decide) ?_
        exact ih2
      · have e8 : ¬ ffF p fewF 0 s = 0 := fun z => c16 (en.mpr z)
        have e7 : encF (ffF p fewF 0 s) = nI (ffF p fewF 0 s - 1) := by unfold encF; rw [if_neg e8]
        rw [e7]
        refine xw_aload_n dX2_fewestLies_19 rfl ?_
        refine xw_getR dX2_fewestLies_20 fl_X2_15 rfl rfl ?_
        refine xw_iload_n dX2_fewestLies_23 rfl ?_
        refine xw_ialN _ dX2_fewestLies_24 rfl (rfl) (hv) rfl ?_ ?_
        · omega
        refine xw_cS1E dX2_fewestLies_25 okJ6_bitCount_0f7a4 ml_X2_35 rfl rfl (s_J6_bitCount_0f7a4 (by omega)) ?_
        refine xw_iload_n dX2_fewestLies_28 rfl ?_
        refine xw_cS1E dX2_fewestLies_29 okJ6_bitCount_0f7a4 ml_X2_35 rfl rfl (s_J6_bitCount_0f7a4 (by omega)) ?_
        refine xw_icmp_geN (tgt := 42) dX2_fewestLies_32 (by decide) (by have h1 := popc_le s; have h2 := popc_le (ffF p fewF 0 s - 1); omega) (fun c32 => ?_) (fun c32 => ?_)
        · rw [if_neg (by omega), e7] at ih2
          refine xw_iincN (v := 1) dX2_fewestLies_42 (by decide) rfl rfl rfl ?_
          refine xw_goto (tgt := 5) dX2_fewestLies_45 (by decide) ?_
          exact ih2
        · rw [if_pos (Or.inr (by omega)), show encF (s + 1) = nI s by unfold encF; rw [if_neg (by omega)]; rfl] at ih2
          refine xw_aload_n dX2_fewestLies_35 rfl ?_
          refine xw_getR dX2_fewestLies_36 fl_X2_15 rfl rfl ?_
          refine xw_iload_n dX2_fewestLies_39 rfl ?_
          refine xw_ialN _ dX2_fewestLies_40 rfl (rfl) (hv) rfl ?_ ?_
          · omega
          refine xw_istore_n dX2_fewestLies_41 rfl rfl ?_
          refine xw_iincN (v := 1) dX2_fewestLies_42 (by decide) rfl rfl rfl ?_
          refine xw_goto (tgt := 5) dX2_fewestLies_45 (by decide) ?_
          exact ih2
set_option maxRecDepth 20000 in
theorem s_X2_fewestLies {p : Nat → Prop} {N : Nat} (hF : Fits M p N) (hN : N ≤ 256)  : XC g l mX2_fewestLies (d + 1) [xr 43] M (XE (some (xi (encF (ffF p fewF 0 N)))) M) := by
  show XW g l mX2_fewestLies _ 0 [some (xr 43), none, none] [] M _
  refine xw_ldc dX2_fewestLies_0 kc_X2_34 ?_
  refine xw_istore_n dX2_fewestLies_2 rfl rfl ?_
  refine xw_iconst (v := 0) dX2_fewestLies_3 (by decide) ?_
  refine xw_istore_n dX2_fewestLies_4 rfl rfl ?_
  exact lp_X2_fewest hF hN (ctF p N) 0 0 (by omega) (by omega) rfl
noncomputable def surV (p : Nat → Prop) (N : Nat) : Int32 := if ctF p N = 0 then -1000000 else nI (ffF p surF 255 N)
set_option maxRecDepth 20000 in
theorem lp_X2_sure {p : Nat → Prop} {N : Nat} (hF : Fits M p N) (hN : N ≤ 256)  : ∀ (q k t : Nat), k + q = ctF p N → t ≤ N → ctF p t = k → XW g l mX2_sureLies d 6 [some (xr 43), some (xi (nI (ffF p surF 255 t))), some (xi (nI k))] [] M (XE (some (xi (surV p N))) M) := by
  have hc := ctF_le p N
  intro q
  induction q with
  | zero =>
    intro k t hk ht hct
    have e9 : ffF p surF 255 t = ffF p surF 255 N := ffF_ct (by omega)
    rw [e9]
    refine xw_iload_n dX2_sureLies_6 rfl ?_
    refine xw_aload_n dX2_sureLies_7 rfl ?_
    refine xw_getV dX2_sureLies_8 fl_X2_18 rfl rfl (hF.1) ?_
    refine xw_icmp_geN (tgt := 29) dX2_sureLies_11 (by decide) (by omega) (fun c11 => ?_) (fun c11 => ?_)
    · refine xw_aload_n dX2_sureLies_29 rfl ?_
      refine xw_getV dX2_sureLies_30 fl_X2_18 rfl rfl (hF.1) ?_
      refine xw_if_neN (tgt := 41) dX2_sureLies_33 (by decide) (by omega) (fun c33 => ?_) (fun c33 => ?_)
      · refine xw_iload_n dX2_sureLies_41 rfl ?_
        refine xw_ireti dX2_sureLies_42 rfl ?_
        first | exact ⟨by unfold surV; rw [if_pos (by assumption)], rfl⟩ | exact ⟨by unfold surV; rw [if_neg (by assumption)], rfl⟩
      · refine xw_ldc dX2_sureLies_36 kc_X2_34 ?_
        refine xw_goto (tgt := 42) dX2_sureLies_38 (by decide) ?_
        refine xw_ireti dX2_sureLies_42 rfl ?_
        first | exact ⟨by unfold surV; rw [if_pos (by assumption)], rfl⟩ | exact ⟨by unfold surV; rw [if_neg (by assumption)], rfl⟩
    · exfalso; omega
  | succ q ih =>
    intro k t hk ht hct
    obtain ⟨s, hs1, hs2, hs3⟩ := ctF_kth (p := p) (k := k) (n := N) (by omega)
    have hv := hF.2 s hs1 hs2
    rw [hs3] at hv
    have e9 : ffF p surF 255 t = ffF p surF 255 s := ffF_ct (by omega)
    rw [e9]
    have ih2 := ih (k + 1) (s + 1) (by omega) (by omega) (by rw [ctF_t hs2, hs3])
    rw [ffF_t hs2, surF] at ih2
    refine xw_iload_n dX2_sureLies_6 rfl ?_
    refine xw_aload_n dX2_sureLies_7 rfl ?_
    refine xw_getV dX2_sureLies_8 fl_X2_18 rfl rfl (hF.1) ?_
    refine xw_icmp_geN (tgt := 29) dX2_sureLies_11 (by decide) (by omega) (fun c11 => ?_) (fun c11 => ?_)
    · exfalso; omega
    · refine xw_iload_n dX2_sureLies_14 rfl ?_
      refine xw_aload_n dX2_sureLies_15 rfl ?_
      refine xw_getR dX2_sureLies_16 fl_X2_15 rfl rfl ?_
      refine xw_iload_n dX2_sureLies_19 rfl ?_
      refine xw_ialN _ dX2_sureLies_20 rfl (rfl) (hv) rfl ?_ ?_
      · omega
      refine xw_iandN dX2_sureLies_21 ?_
      refine xw_istore_n dX2_sureLies_22 rfl rfl ?_
      refine xw_iincN (v := 1) dX2_sureLies_23 (by decide) rfl rfl rfl ?_
      refine xw_goto (tgt := 6) dX2_sureLies_26 (by decide) ?_
      exact ih2
set_option maxRecDepth 20000 in
theorem s_X2_sureLies {p : Nat → Prop} {N : Nat} (hF : Fits M p N) (hN : N ≤ 256)  : XC g l mX2_sureLies d [xr 43] M (XE (some (xi (surV p N))) M) := by
  show XW g l mX2_sureLies _ 0 [some (xr 43), none, none] [] M _
  refine xw_sipush (v := 255) dX2_sureLies_0 (by decide) ?_
  refine xw_istore_n dX2_sureLies_3 rfl rfl ?_
  refine xw_iconst (v := 0) dX2_sureLies_4 (by decide) ?_
  refine xw_istore_n dX2_sureLies_5 rfl rfl ?_
  exact lp_X2_sure hF hN (ctF p N) 0 0 (by omega) (by omega) rfl
set_option maxRecDepth 20000 in
theorem lpi_X2_best {p : Nat → Prop} {N : Nat} (hF : Fits M p N) (hN : N ≤ 256) {n a ll : Nat} {bb : Int32} (ha : a < 8) {Q : Option XV → XM → Prop} (hk : XW g l mX2_bestQuestion (d + 1) 55 [some (xr 43), some (xi (nI n)), some (xi bb), some (xi (nI ll)), some (xi (nI a)), some (xi (nI (ffF p (witF a) 0 N))), some (xi (nI (ctF p N)))] [] M Q) : ∀ (q k t : Nat), k + q = ctF p N → t ≤ N → ctF p t = k → XW g l mX2_bestQuestion (d + 1) 23 [some (xr 43), some (xi (nI n)), some (xi bb), some (xi (nI ll)), some (xi (nI a)), some (xi (nI (ffF p (witF a) 0 t))), some (xi (nI k))] [] M Q := by
  have hc := ctF_le p N
  intro q
  induction q with
  | zero =>
    intro k t hk2 ht hct
    have hk2 : k = ctF p N := by omega
    subst hk2
    have e9 : ffF p (witF a) 0 t = ffF p (witF a) 0 N := ffF_ct (by omega)
    rw [e9]
    refine xw_iload dX2_bestQuestion_23 rfl ?_
    refine xw_aload_n dX2_bestQuestion_25 rfl ?_
    refine xw_getV dX2_bestQuestion_26 fl_X2_18 rfl rfl (hF.1) ?_
    refine xw_icmp_geN (tgt := 55) dX2_bestQuestion_29 (by decide) (by omega) (fun c29 => ?_) (fun c29 => ?_)
    · exact hk
    · exfalso; omega
  | succ q ih =>
    intro k t hk2 ht hct
    obtain ⟨s, hs1, hs2, hs3⟩ := ctF_kth (p := p) (k := k) (n := N) (by omega)
    have hv := hF.2 s hs1 hs2
    rw [hs3] at hv
    have e9 : ffF p (witF a) 0 t = ffF p (witF a) 0 s := ffF_ct (by omega)
    rw [e9]
    have ih2 := ih (k + 1) (s + 1) (by omega) (by omega) (by rw [ctF_t hs2, hs3])
    rw [ffF_t hs2, witF] at ih2
    refine xw_iload dX2_bestQuestion_23 rfl ?_
    refine xw_aload_n dX2_bestQuestion_25 rfl ?_
    refine xw_getV dX2_bestQuestion_26 fl_X2_18 rfl rfl (hF.1) ?_
    refine xw_icmp_geN (tgt := 55) dX2_bestQuestion_29 (by decide) (by omega) (fun c29 => ?_) (fun c29 => ?_)
    · exfalso; omega
    · refine xw_iload dX2_bestQuestion_32 rfl ?_
      refine xw_aload_n dX2_bestQuestion_34 rfl ?_
      refine xw_getR dX2_bestQuestion_35 fl_X2_15 rfl rfl ?_
      refine xw_iload dX2_bestQuestion_38 rfl ?_
      refine xw_ialN _ dX2_bestQuestion_40 rfl (rfl) (hv) rfl ?_ ?_
      · omega
      refine xw_iload dX2_bestQuestion_41 rfl ?_
      refine xw_ishrN dX2_bestQuestion_43 ?_ ?_ ?_
      · omega
      · omega
      refine xw_iconst (v := 1) dX2_bestQuestion_44 (by decide) ?_
      refine xw_iandN (b := 1) dX2_bestQuestion_45 ?_
      rw [and1]
      refine xw_iaddN dX2_bestQuestion_46 ?_
      refine xw_istore dX2_bestQuestion_47 rfl rfl ?_
      refine xw_iincN (v := 1) dX2_bestQuestion_49 (by decide) rfl rfl rfl ?_
      refine xw_goto (tgt := 23) dX2_bestQuestion_52 (by decide) ?_
      exact ih2
noncomputable def bqV (p : Nat → Prop) (N n : Nat) : Nat × Nat := bqF (fun k => ffF p (witF k) 0 N) (ctF p N) n
theorem mmax_nat {a b : Nat} (ha : a < 2 ^ 31) (hb : b < 2 ^ 31) : (if nI a < nI b then nI b else nI a) = nI (max a b) := by
  rw [Nat.max_def]
  have e := nI_ltI ha hb
  by_cases h : a < b
  · rw [if_pos (e.mpr h), if_pos (by omega)]
  · rw [if_neg (fun z => h (e.mp z))]
    by_cases q : a ≤ b
    · rw [if_pos q, show a = b by omega]
    · rw [if_neg q]
set_option maxRecDepth 20000 in
theorem lpo_X2_best {p : Nat → Prop} {N : Nat} (hF : Fits M p N) (hN : N ≤ 256) {n : Nat} (hn : n ≤ 8) : ∀ (q a : Nat) (v5 v6 : Option XV), a + q = n → XW g l mX2_bestQuestion (d + 1) 11 [some (xr 43), some (xi (nI n)), some (xi (encF (bqV p N a).1)), some (xi (nI (bqV p N a).2)), some (xi (nI a)), v5, v6] [] M (XE (some (xi (encF (bqV p N n).1))) M) := by
  have hc := ctF_le p N
  intro q
  induction q with
  | zero =>
    intro a v5 v6 ha
    have ha : a = n := by omega
    subst ha
    refine xw_iload dX2_bestQuestion_11 rfl ?_
    refine xw_iload_n dX2_bestQuestion_13 rfl ?_
    refine xw_icmp_geN (tgt := 87) dX2_bestQuestion_14 (by decide) (by omega) (fun c14 => ?_) (fun c14 => ?_)
    · refine xw_iload_n dX2_bestQuestion_87 rfl ?_
      refine xw_ireti dX2_bestQuestion_88 rfl ?_
      first | exact ⟨rfl, rfl⟩ | exact ⟨by simp_all, rfl⟩ | grind [XE]
    · exfalso; omega
  | succ q ih =>
    intro a v5 v6 ha
    have hw := witF_le p a N
    have hb := bqF_le (fun k => ffF p (witF k) 0 N) (ctF p N) a
    have hb2 : (bqV p N a).2 ≤ ctF p N := hb.2
    have ih2 := fun u5 u6 => ih (a + 1) u5 u6 (by omega)
    have e9 : bqV p N (a + 1) = if max (ffF p (witF a) 0 N) (ctF p N - ffF p (witF a) 0 N) < (bqV p N a).2 then (a + 1, max (ffF p (witF a) 0 N) (ctF p N - ffF p (witF a) 0 N)) else bqV p N a := rfl
    rw [e9] at ih2
    refine xw_iload dX2_bestQuestion_11 rfl ?_
    refine xw_iload_n dX2_bestQuestion_13 rfl ?_
    refine xw_icmp_geN (tgt := 87) dX2_bestQuestion_14 (by decide) (by omega) (fun c14 => ?_) (fun c14 => ?_)
    · exfalso; omega
    · refine xw_iconst (v := 0) dX2_bestQuestion_17 (by decide) ?_
      refine xw_istore dX2_bestQuestion_18 rfl rfl ?_
      refine xw_iconst (v := 0) dX2_bestQuestion_20 (by decide) ?_
      refine xw_istore dX2_bestQuestion_21 rfl rfl ?_
      refine lpi_X2_best hF hN (by omega) ?_ (ctF p N) 0 0 (by omega) (by omega) rfl
      refine xw_iload dX2_bestQuestion_55 rfl ?_
      refine xw_aload_n dX2_bestQuestion_57 rfl ?_
      refine xw_getV dX2_bestQuestion_58 fl_X2_18 rfl rfl (hF.1) ?_
      refine xw_iload dX2_bestQuestion_61 rfl ?_
      refine xw_isubN dX2_bestQuestion_63 ?_ ?_
      · omega
      refine xw_mmax dX2_bestQuestion_64 ml_X2_41 kz_max rfl ?_
      rw [mmax_nat (by omega) (by omega)]
      refine xw_istore dX2_bestQuestion_67 rfl rfl ?_
      refine xw_iload dX2_bestQuestion_69 rfl ?_
      refine xw_iload_n dX2_bestQuestion_71 rfl ?_
      refine xw_icmp_geN (tgt := 81) dX2_bestQuestion_72 (by decide) (by omega) (fun c72 => ?_) (fun c72 => ?_)
      · rw [if_neg (by omega)] at ih2
        refine xw_iincN (v := 1) dX2_bestQuestion_81 (by decide) rfl rfl rfl ?_
        refine xw_goto (tgt := 11) dX2_bestQuestion_84 (by decide) ?_
        exact ih2 _ _
      · rw [if_pos (by omega), show encF (a + 1) = nI a by unfold encF; rw [if_neg (by omega)]; rfl] at ih2
        refine xw_iload dX2_bestQuestion_75 rfl ?_
        refine xw_istore_n dX2_bestQuestion_77 rfl rfl ?_
        refine xw_iload dX2_bestQuestion_78 rfl ?_
        refine xw_istore_n dX2_bestQuestion_80 rfl rfl ?_
        refine xw_iincN (v := 1) dX2_bestQuestion_81 (by decide) rfl rfl rfl ?_
        refine xw_goto (tgt := 11) dX2_bestQuestion_84 (by decide) ?_
        exact ih2 _ _
set_option maxRecDepth 20000 in
theorem s_X2_bestQuestion {p : Nat → Prop} {N : Nat} (hF : Fits M p N) (hN : N ≤ 256) {n : Nat} (hn : n ≤ 8) : XC g l mX2_bestQuestion (d + 1) [xr 43, xi (nI n)] M (XE (some (xi (encF (bqV p N n).1))) M) := by
  show XW g l mX2_bestQuestion _ 0 [some (xr 43), some (xi (nI n)), none, none, none, none, none] [] M _
  refine xw_ldc dX2_bestQuestion_0 kc_X2_34 ?_
  refine xw_istore_n dX2_bestQuestion_2 rfl rfl ?_
  refine xw_aload_n dX2_bestQuestion_3 rfl ?_
  refine xw_getV dX2_bestQuestion_4 fl_X2_18 rfl rfl (hF.1) ?_
  refine xw_istore_n dX2_bestQuestion_7 rfl rfl ?_
  refine xw_iconst (v := 0) dX2_bestQuestion_8 (by decide) ?_
  refine xw_istore dX2_bestQuestion_9 rfl rfl ?_
  exact lpo_X2_best hF hN hn n 0 none none (by omega)
end FORE
