section TOKN
variable {g : XG} {l : Launch} {d : Nat} {M : XM}
theorem lg_eq0 (x y : Int64) : lg_cmp x y = 0 ↔ x = y := by
  unfold lg_cmp
  by_cases h1 : x > y
  · rw [if_pos h1]
    exact ⟨fun z => absurd z (by decide), fun z => absurd (z ▸ h1) (Int64.lt_irrefl)⟩
  · rw [if_neg h1]
    by_cases h2 : x = y
    · rw [if_pos h2]; exact ⟨fun _ => h2, fun _ => rfl⟩
    · rw [if_neg h2]; exact ⟨fun z => absurd z (by decide), fun z => absurd z h2⟩
set_option maxRecDepth 20000 in
theorem s_X8_nextToken {T : TX} {p : Nat} (hT : TM M T) (hE : M.1 49 6 = nI p) (hp : p ≤ T.2) : XC g l mX8_nextToken (d + 1) [xr 49] M (fun r M' => r = none ∧ FrT M M' ∧ TkM M' T p) := by
  have h6 := hT.2.1
  have hs := tkS_le hp
  generalize hSd : tkS T p = s at hs
  have fin : ∀ t n w, t = nI (kdT T s) → (kdT T s = 2 → n = nI (nuV T s (min 3 (enT T s - s)))) → (kdT T s = 1 → w = naL T s (enT T s - s)) → none = (none : Option XV) ∧ FrT M (tm M (nI (enT T s)) (nI s) t n w) ∧ TkM (tm M (nI (enT T s)) (nI s) t n w) T p := fun t n w a1 a2 a3 => ⟨rfl, FrT.tm _ _ _ _ _ _, by subst hSd; exact ⟨rfl, rfl, a1, a2, a3, hp⟩⟩
  show XW g l mX8_nextToken _ 0 [some (xr 49)] [] M _
  have g0 := lpS_X8_next (g := g) (l := l) (d := d) (s := M.1 49 7) (t := M.1 49 8) (n := M.1 49 10) (w := M.2 49 9) (Q := (fun r M' => r = none ∧ FrT M M' ∧ TkM M' T p)) hT (T.2 - p) p (by omega)
  rw [← hE, ← tm_self M] at g0
  apply g0
  have hSd : skW T (T.2 - p) p = s := hSd
  rw [hSd]
  refine xw_aload_n dX8_nextToken_31 rfl ?_
  refine xw_aload_n dX8_nextToken_32 rfl ?_
  refine xw_getV dX8_nextToken_33 fl_X8_81 rfl rfl (tm_g6) ?_
  refine xw_putI dX8_nextToken_36 fp_X8_88 rfl rfl ?_
  rw [tm_7]
  rcases Nat.eq_or_lt_of_le hs.2 with hb | hb
  · refine xw_aload_n dX8_nextToken_39 rfl ?_
    refine xw_cV0E dX8_nextToken_40 okX8_here ml_X8_84 rfl rfl rfl rfl (s_X8_here_out hT.tm tm_g6 hb) ?_
    refine xw_if_ge (tgt := 54) dX8_nextToken_43 (by decide) (fun q9 => absurd q9 (by decide)) (fun _ => ?_)
    refine xw_aload_n dX8_nextToken_46 rfl ?_
    refine xw_iconst (v := 0) dX8_nextToken_47 (by decide) ?_
    refine xw_putI dX8_nextToken_48 fp_X8_91 rfl rfl ?_
    refine xw_goto (tgt := 285) dX8_nextToken_51 (by decide) ?_
    refine xw_ret dX8_nextToken_285 rfl ?_
    rw [tm_8]
    refine (fun h => ?_ : _ → _) (fin (nI 0) (M.1 49 10) (M.2 49 9) (by rw [kdT_end hb]) (fun z => by rw [kdT_end hb] at z; exact absurd z (by decide)) (fun z => by rw [kdT_end hb] at z; exact absurd z (by decide)))
    rw [enT_end hb] at h
    exact h
  refine xw_aload_n dX8_nextToken_39 rfl ?_
  refine xw_cV0E dX8_nextToken_40 okX8_here ml_X8_84 rfl rfl rfl rfl (s_X8_here_in hT.tm tm_g6 hb) ?_
  refine xw_if_geN (tgt := 54) dX8_nextToken_43 (by decide) (by have := (hT.2.2 s hb).2; omega) ?_
  have hne : ¬ s = T.2 := by omega
  have h5 := (hT.2.2 s hb).2
  have hiL := in_N (c := T.1 s) (lo := 97) (hi := 122) (by omega) (by decide) (by decide)
  have hiD := in_N (c := T.1 s) (lo := 48) (hi := 57) (by omega) (by decide) (by decide)
  refine xw_aload_n dX8_nextToken_54 rfl ?_
  refine xw_cV0E dX8_nextToken_55 okX8_here ml_X8_84 rfl rfl rfl rfl (s_X8_here_in hT.tm tm_g6 hb) ?_
  refine xw_bipush (v := 97) dX8_nextToken_58 (by decide) ?_
  refine xw_bipush (v := 122) dX8_nextToken_60 (by decide) ?_
  refine xw_cS3B dX8_nextToken_62 okX8_in ml_X8_56 rfl rfl (s_X8_in _ _ _) (fun p62 => ?_) (fun p62 => ?_)
  · refine xw_if_eq (tgt := 147) dX8_nextToken_65 (by decide) (fun q9 => absurd q9 (by decide)) (fun _ => ?_)
    have hl : isLt T s := hiL.mp p62
    refine xw_aload_n dX8_nextToken_68 rfl ?_
    refine xw_iconst (v := 1) dX8_nextToken_69 (by decide) ?_
    refine xw_putI dX8_nextToken_70 fp_X8_91 rfl rfl ?_
    rw [tm_8]
    refine xw_aload_n dX8_nextToken_73 rfl ?_
    refine xw_lconst (v := 0) dX8_nextToken_74 (by decide) ?_
    refine xw_putL dX8_nextToken_75 fp_X8_94 rfl rfl ?_
    rw [tm_9]
    refine lpL_X8_next (w := 0) (S := s) hT (T.2 - s) 0 (by omega) rfl (fun e he => ?_)
    have he : e = enT T s := he.trans (enT_lt hne hl).symm
    subst he
    refine xw_ret dX8_nextToken_285 rfl ?_
    exact fin _ _ _ (by rw [kdT_lt hne hl]; rfl) (fun z => by rw [kdT_lt hne hl] at z; exact absurd z (by decide)) (fun _ => rfl)
  · refine xw_if_eq (tgt := 147) dX8_nextToken_65 (by decide) (fun _ => ?_) (fun q9 => absurd q9 (by decide))
    have hl : ¬ isLt T s := fun z => p62 (hiL.mpr z)
    refine xw_aload_n dX8_nextToken_147 rfl ?_
    refine xw_cV0E dX8_nextToken_148 okX8_here ml_X8_84 rfl rfl rfl rfl (s_X8_here_in hT.tm tm_g6 hb) ?_
    refine xw_bipush (v := 48) dX8_nextToken_151 (by decide) ?_
    refine xw_bipush (v := 57) dX8_nextToken_153 (by decide) ?_
    refine xw_cS3B dX8_nextToken_155 okX8_in ml_X8_56 rfl rfl (s_X8_in _ _ _) (fun p155 => ?_) (fun p155 => ?_)
    · refine xw_if_eq (tgt := 257) dX8_nextToken_158 (by decide) (fun q9 => absurd q9 (by decide)) (fun _ => ?_)
      have hd : isDg T s := hiD.mp p155
      have hkd := kdT_dg hne hl hd
      have hel := enT_le hs.2
      refine xw_aload_n dX8_nextToken_161 rfl ?_
      refine xw_iconst (v := 0) dX8_nextToken_162 (by decide) ?_
      refine xw_putI dX8_nextToken_163 fp_X8_104 rfl rfl ?_
      rw [tm_10]
      refine lpD_X8_next (S := s) hT (T.2 - s) 0 (by omega) rfl (fun e he => ?_)
      have he : e = enT T s := he.trans (enT_dg hne hl hd).symm
      subst he
      refine xw_aload_n dX8_nextToken_232 rfl ?_
      refine xw_aload_n dX8_nextToken_233 rfl ?_
      refine xw_getV dX8_nextToken_234 fl_X8_81 rfl rfl (tm_g6) ?_
      refine xw_aload_n dX8_nextToken_237 rfl ?_
      refine xw_getV dX8_nextToken_238 fl_X8_88 rfl rfl (tm_g7) ?_
      refine xw_isubN dX8_nextToken_241 ?_ ?_
      · omega
      refine xw_iconst (v := 3) dX8_nextToken_242 (by decide) ?_
      refine xw_icmp_leN (b := 3) (tgt := 250) dX8_nextToken_243 (by decide) (by omega) (fun c243 => ?_) (fun c243 => ?_)
      · refine xw_iconst (v := 2) dX8_nextToken_250 (by decide) ?_
        refine xw_putI dX8_nextToken_251 fp_X8_91 rfl rfl ?_
        refine xw_goto (tgt := 285) dX8_nextToken_254 (by decide) ?_
        refine xw_ret dX8_nextToken_285 rfl ?_
        rw [tm_8]
        exact fin _ _ _ (by rw [hkd]; first | (rw [if_pos (by omega)]; rfl) | (rw [if_neg (by omega)]; rfl)) (fun _ => rfl) (fun z => by rw [hkd] at z; split at z <;> exact absurd z (by decide))
      · refine xw_iconst (v := 4) dX8_nextToken_246 (by decide) ?_
        refine xw_goto (tgt := 251) dX8_nextToken_247 (by decide) ?_
        refine xw_putI dX8_nextToken_251 fp_X8_91 rfl rfl ?_
        refine xw_goto (tgt := 285) dX8_nextToken_254 (by decide) ?_
        refine xw_ret dX8_nextToken_285 rfl ?_
        rw [tm_8]
        exact fin _ _ _ (by rw [hkd]; first | (rw [if_pos (by omega)]; rfl) | (rw [if_neg (by omega)]; rfl)) (fun _ => rfl) (fun z => by rw [hkd] at z; split at z <;> exact absurd z (by decide))
    · refine xw_if_eq (tgt := 257) dX8_nextToken_158 (by decide) (fun _ => ?_) (fun q9 => absurd q9 (by decide))
      have hd : ¬ isDg T s := fun z => p155 (hiD.mpr z)
      have hkd := kdT_ot hne hl hd
      have hen := enT_ot hne hl hd
      refine xw_aload_n dX8_nextToken_257 rfl ?_
      refine xw_aload_n dX8_nextToken_258 rfl ?_
      refine xw_cV0E dX8_nextToken_259 okX8_here ml_X8_84 rfl rfl rfl rfl (s_X8_here_in hT.tm tm_g6 hb) ?_
      refine xw_bipush (v := 59) dX8_nextToken_262 (by decide) ?_
      refine xw_icmp_neN (b := 59) (tgt := 271) dX8_nextToken_264 (by decide) (by omega) (fun c264 => ?_) (fun c264 => ?_)
      · refine xw_iconst (v := 4) dX8_nextToken_271 (by decide) ?_
        refine xw_putI dX8_nextToken_272 fp_X8_91 rfl rfl ?_
        rw [tm_8]
        refine xw_aload_n dX8_nextToken_275 rfl ?_
        refine xw_dup dX8_nextToken_276 rfl ?_
        refine xw_getV dX8_nextToken_277 fl_X8_81 rfl rfl (tm_g6) ?_
        refine xw_iconst (v := 1) dX8_nextToken_280 (by decide) ?_
        refine xw_iaddN (b := 1) dX8_nextToken_281 ?_
        refine xw_putI dX8_nextToken_282 fp_X8_81 rfl rfl ?_
        refine xw_ret dX8_nextToken_285 rfl ?_
        rw [tm_6, ← hen]
        exact fin _ _ _ (by rw [hkd]; first | (rw [if_pos (by omega)]; rfl) | (rw [if_neg (by omega)]; rfl)) (fun z => by rw [hkd] at z; split at z <;> exact absurd z (by decide)) (fun z => by rw [hkd] at z; split at z <;> exact absurd z (by decide))
      · refine xw_iconst (v := 3) dX8_nextToken_267 (by decide) ?_
        refine xw_goto (tgt := 272) dX8_nextToken_268 (by decide) ?_
        refine xw_putI dX8_nextToken_272 fp_X8_91 rfl rfl ?_
        rw [tm_8]
        refine xw_aload_n dX8_nextToken_275 rfl ?_
        refine xw_dup dX8_nextToken_276 rfl ?_
        refine xw_getV dX8_nextToken_277 fl_X8_81 rfl rfl (tm_g6) ?_
        refine xw_iconst (v := 1) dX8_nextToken_280 (by decide) ?_
        refine xw_iaddN (b := 1) dX8_nextToken_281 ?_
        refine xw_putI dX8_nextToken_282 fp_X8_81 rfl rfl ?_
        refine xw_ret dX8_nextToken_285 rfl ?_
        rw [tm_6, ← hen]
        exact fin _ _ _ (by rw [hkd]; first | (rw [if_pos (by omega)]; rfl) | (rw [if_neg (by omega)]; rfl)) (fun z => by rw [hkd] at z; split at z <;> exact absurd z (by decide)) (fun z => by rw [hkd] at z; split at z <;> exact absurd z (by decide))
set_option maxRecDepth 20000 in
theorem s_X8_fails {n : Int32} : XC g l mX8_fails d [xr 49, xi n] M (XE (some (xi 0)) (xup M 49 12 n)) := by
  show XW g l mX8_fails _ 0 [some (xr 49), some (xi n)] [] M _
  refine xw_aload_n dX8_fails_0 rfl ?_
  refine xw_iload_n dX8_fails_1 rfl ?_
  refine xw_putI dX8_fails_2 fp_X8_107 rfl rfl ?_
  refine xw_iconst (v := 0) dX8_fails_5 (by decide) ?_
  refine xw_iretz dX8_fails_6 rfl (Or.inl rfl) ?_
  exact ⟨rfl, rfl⟩
set_option maxRecDepth 20000 in
theorem s_X8_isName {T : TX} {p i : Nat} {w : Int64} (hi : i < 9) (hk : TkM M T p) (hw : w = wcd i) : XC g l mX8_isName d [xr 49, xl w] M (XB (isWd T i p) M M) := by
  have h9 : tkK T p ≤ 4 := kdT_le T (tkS T p)
  have hna := isWd_na (T := T) (p := p) hi
  rw [← hw] at hna
  show XW g l mX8_isName _ 0 [some (xr 49), some (xl w), none] [] M _
  refine xw_aload_n dX8_isName_0 rfl ?_
  refine xw_getV dX8_isName_1 fl_X8_91 rfl rfl (hk.2.2.1) ?_
  refine xw_iconst (v := 1) dX8_isName_4 (by decide) ?_
  refine xw_icmp_neN (b := 1) (tgt := 21) dX8_isName_5 (by decide) (by omega) (fun c5 => ?_) (fun c5 => ?_)
  · refine xw_iconst (v := 0) dX8_isName_21 (by decide) ?_
    refine xw_iretz dX8_isName_22 rfl (Or.inl rfl) (Or.inr ⟨?_, rfl, rfl⟩)
    first | exact fun z => absurd (hna.mp z).1 (by omega) | exact fun z => absurd (hna.mp z).1 c5 | exact fun z => absurd z (fun z => by have z2 := (hna.mp z).2; rw [← hk.2.2.2.2.1 (hna.mp z).1] at z2; exact c14 ((lg_eq0 _ _).mpr z2))
  · have hnm := hk.2.2.2.2.1 (by omega)
    have hc := lg_eq0 (M.2 49 9) w
    refine xw_aload_n dX8_isName_8 rfl ?_
    refine xw_getL dX8_isName_9 fl_X8_94 rfl rfl ?_
    refine xw_lload_n dX8_isName_12 rfl ?_
    refine xw_lcmp dX8_isName_13 ?_
    refine xw_if_ne (tgt := 21) dX8_isName_14 (by decide) (fun c14 => ?_) (fun c14 => ?_)
    · refine xw_iconst (v := 0) dX8_isName_21 (by decide) ?_
      refine xw_iretz dX8_isName_22 rfl (Or.inl rfl) (Or.inr ⟨?_, rfl, rfl⟩)
      first | exact fun z => absurd (hna.mp z).1 (by omega) | exact fun z => absurd (hna.mp z).1 c5 | exact fun z => absurd z (fun z => by have z2 := (hna.mp z).2; rw [← hk.2.2.2.2.1 (hna.mp z).1] at z2; exact c14 ((lg_eq0 _ _).mpr z2))
    · refine xw_iconst (v := 1) dX8_isName_17 (by decide) ?_
      refine xw_goto (tgt := 22) dX8_isName_18 (by decide) ?_
      refine xw_iretz dX8_isName_22 rfl (Or.inr rfl) (Or.inl ⟨?_, rfl, rfl⟩)
      exact hna.mpr ⟨by omega, hnm.symm.trans (hc.mp c14)⟩
/-- a fault: what it is, and where -/
def FlM (M M' : XM) (n s : Nat) : Prop := M'.1 49 12 = nI n ∧ M'.1 49 7 = nI s ∧ FrT M (xup M' 49 12 (M.1 49 12))
theorem FlM.of {M M1 : XM} {n s : Nat} (h : FrT M M1) (hS : M1.1 49 7 = nI s) : FlM M (xup M1 49 12 (nI n)) n s := ⟨xup_same _ _ _ _, (xup_place _ _ (by decide)).trans hS, by
  rw [xup2]
  exact ⟨fun a b q => by
    rw [xup_at]
    by_cases z : a = 49 ∧ b = 12
    · rw [if_pos z, z.1, z.2]
    · rw [if_neg z]; exact h.1 a b q, h.2⟩⟩
set_option maxRecDepth 20000 in
theorem s_X8_isNumber {T : TX} {p : Nat} (hT : TM M T) (hE : M.1 49 6 = nI p) (hp : p ≤ T.2) {lo hi : Nat} (hlo : lo ≤ 255) (hhi : hi ≤ 255) : XC g l mX8_isNumber (d + 2) [xr 49, xi (nI lo), xi (nI hi)] M (fun r M' => (r = some (xi 1) ∧ ∃ v, nuP T lo hi p = .inr (v, tkE T p) ∧ M'.1 49 10 = nI v ∧ (lo ≤ v ∧ v ≤ hi) ∧ FrT M M' ∧ TkM M' T p) ∨ (r = some (xi 0) ∧ ∃ n s, nuP T lo hi p = .inl (n, s) ∧ FlM M M' n s)) := by
  show XW g l mX8_isNumber _ 0 [some (xr 49), some (xi (nI lo)), some (xi (nI hi))] [] M _
  refine xw_aload_n dX8_isNumber_0 rfl ?_
  refine xw_cV0Q dX8_isNumber_1 okX8_nextToken ml_X8_110 rfl rfl rfl rfl (s_X8_nextToken hT hE hp) ?_
  rintro _ M1 ⟨rfl, hF, hk⟩
  have h9 : tkK T p ≤ 4 := kdT_le T (tkS T p)
  refine xw_aload_n dX8_isNumber_4 rfl ?_
  refine xw_getV dX8_isNumber_5 fl_X8_91 rfl rfl (hk.2.2.1) ?_
  refine xw_iconst (v := 2) dX8_isNumber_8 (by decide) ?_
  refine xw_icmp_eqN (b := 2) (tgt := 18) dX8_isNumber_9 (by decide) (by omega) (fun c9 => ?_) (fun c9 => ?_)
  · have hv := tkV_lt (T := T) (p := p) (by omega)
    have hk2 := hk.2.2.2.1 (by omega)
    have hin := in_N (c := tkV T p) (lo := lo) (hi := hi) (by omega) (by omega) (by omega)
    refine xw_aload_n dX8_isNumber_18 rfl ?_
    refine xw_getV dX8_isNumber_19 fl_X8_104 rfl rfl (hk2) ?_
    refine xw_iload_n dX8_isNumber_22 rfl ?_
    refine xw_iload_n dX8_isNumber_23 rfl ?_
    refine xw_cS3B dX8_isNumber_24 okX8_in ml_X8_56 rfl rfl (s_X8_in _ _ _) (fun p24 => ?_) (fun p24 => ?_)
    · refine xw_if_ne (tgt := 38) dX8_isNumber_27 (by decide) (fun _ => ?_) (fun q9 => absurd q9 (by decide))
      refine xw_iconst (v := 1) dX8_isNumber_38 (by decide) ?_
      refine xw_goto (tgt := 43) dX8_isNumber_39 (by decide) ?_
      refine xw_iretz dX8_isNumber_43 rfl (Or.inr rfl) ?_
      exact Or.inl ⟨rfl, tkV T p, nuP_3 (by omega) (hin.mp p24), hk2, hin.mp p24, hF, hk⟩
    · refine xw_if_ne (tgt := 38) dX8_isNumber_27 (by decide) (fun q9 => absurd q9 (by decide)) (fun _ => ?_)
      refine xw_aload_n dX8_isNumber_30 rfl ?_
      refine xw_iconst (v := 2) dX8_isNumber_31 (by decide) ?_
      refine xw_cV1E dX8_isNumber_32 okX8_fails ml_X8_113 rfl rfl rfl rfl (s_X8_fails) ?_
      refine xw_if_eq (tgt := 42) dX8_isNumber_35 (by decide) (fun _ => ?_) (fun q9 => absurd q9 (by decide))
      refine xw_iconst (v := 0) dX8_isNumber_42 (by decide) ?_
      refine xw_iretz dX8_isNumber_43 rfl (Or.inl rfl) ?_
      exact Or.inr ⟨rfl, 2, tkS T p, nuP_2 (by omega) (fun z => p24 (hin.mpr z)), FlM.of (n := 2) hF hk.2.1⟩
  · refine xw_aload_n dX8_isNumber_12 rfl ?_
    refine xw_iconst (v := 1) dX8_isNumber_13 (by decide) ?_
    refine xw_cV1E dX8_isNumber_14 okX8_fails ml_X8_113 rfl rfl rfl rfl (s_X8_fails) ?_
    refine xw_iretz dX8_isNumber_17 rfl (Or.inl rfl) ?_
    exact Or.inr ⟨rfl, 1, tkS T p, nuP_1 (by omega), FlM.of (n := 1) hF hk.2.1⟩
set_option maxRecDepth 20000 in
theorem s_X8_isEnd {T : TX} {p : Nat} (hT : TM M T) (hE : M.1 49 6 = nI p) (hp : p ≤ T.2)  : XC g l mX8_isEnd (d + 2) [xr 49] M (fun r M' => (r = some (xi 1) ∧ ∃ q, seP T p = .inr q ∧ FrT M M' ∧ M'.1 49 6 = nI q ∧ q ≤ T.2) ∨ (r = some (xi 0) ∧ ∃ n s, seP T p = .inl (n, s) ∧ FlM M M' n s)) := by
  show XW g l mX8_isEnd _ 0 [some (xr 49)] [] M _
  refine xw_aload_n dX8_isEnd_0 rfl ?_
  refine xw_cV0Q dX8_isEnd_1 okX8_nextToken ml_X8_110 rfl rfl rfl rfl (s_X8_nextToken hT hE hp) ?_
  rintro _ M1 ⟨rfl, hF, hk⟩
  have h9 : tkK T p ≤ 4 := kdT_le T (tkS T p)
  refine xw_aload_n dX8_isEnd_4 rfl ?_
  refine xw_getV dX8_isEnd_5 fl_X8_91 rfl rfl (hk.2.2.1) ?_
  refine xw_iconst (v := 3) dX8_isEnd_8 (by decide) ?_
  refine xw_icmp_eqN (b := 3) (tgt := 20) dX8_isEnd_9 (by decide) (by omega) (fun c9 => ?_) (fun c9 => ?_)
  · refine xw_iconst (v := 1) dX8_isEnd_20 (by decide) ?_
    refine xw_goto (tgt := 25) dX8_isEnd_21 (by decide) ?_
    refine xw_iretz dX8_isEnd_25 rfl (Or.inr rfl) ?_
    exact Or.inl ⟨rfl, tkE T p, seP_2 (by omega), hF, hk.1, (tkE_le hp).2.1⟩
  · refine xw_aload_n dX8_isEnd_12 rfl ?_
    refine xw_iconst (v := 1) dX8_isEnd_13 (by decide) ?_
    refine xw_cV1E dX8_isEnd_14 okX8_fails ml_X8_113 rfl rfl rfl rfl (s_X8_fails) ?_
    refine xw_if_eq (tgt := 24) dX8_isEnd_17 (by decide) (fun _ => ?_) (fun q9 => absurd q9 (by decide))
    refine xw_iconst (v := 0) dX8_isEnd_24 (by decide) ?_
    refine xw_iretz dX8_isEnd_25 rfl (Or.inl rfl) ?_
    exact Or.inr ⟨rfl, 1, tkS T p, seP_1 (by omega), FlM.of (n := 1) hF hk.2.1⟩
end TOKN
