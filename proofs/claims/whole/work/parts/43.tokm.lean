section TOKM
variable {g : XG} {l : Launch} {d : Nat} {M : XM}
def tm (M : XM) (p s t n : Int32) (w : Int64) : XM := (fun a b => if a = 49 ∧ b = 6 then p else if a = 49 ∧ b = 7 then s else if a = 49 ∧ b = 8 then t else if a = 49 ∧ b = 10 then n else M.1 a b, fun a b => if a = 49 ∧ b = 9 then w else M.2 a b)
theorem tm_at (M : XM) (p s t n : Int32) (w : Int64) (a b : Nat) : (tm M p s t n w).1 a b = if a = 49 ∧ b = 6 then p else if a = 49 ∧ b = 7 then s else if a = 49 ∧ b = 8 then t else if a = 49 ∧ b = 10 then n else M.1 a b := rfl
theorem tm_at2 (M : XM) (p s t n : Int32) (w : Int64) (a b : Nat) : (tm M p s t n w).2 a b = if a = 49 ∧ b = 9 then w else M.2 a b := rfl
theorem tm_self (M : XM) : M = tm M (M.1 49 6) (M.1 49 7) (M.1 49 8) (M.1 49 10) (M.2 49 9) := xm_ext (fun a b => by
  rw [tm_at]
  repeat' split
  all_goals first | rfl | (rename_i h; rw [h.1, h.2])) (fun a b => by
  rw [tm_at2]
  split
  · rename_i h; rw [h.1, h.2]
  · rfl)
theorem tm_6 (M : XM) (p s t n x : Int32) (w : Int64) : xup (tm M p s t n w) 49 6 x = tm M x s t n w := xm_ext (fun a b => by
  rw [xup_at, tm_at, tm_at]
  repeat' split
  all_goals first | rfl | omega) (fun _ _ => rfl)
theorem tm_7 (M : XM) (p s t n x : Int32) (w : Int64) : xup (tm M p s t n w) 49 7 x = tm M p x t n w := xm_ext (fun a b => by
  rw [xup_at, tm_at, tm_at]
  repeat' split
  all_goals first | rfl | omega) (fun _ _ => rfl)
theorem tm_8 (M : XM) (p s t n x : Int32) (w : Int64) : xup (tm M p s t n w) 49 8 x = tm M p s x n w := xm_ext (fun a b => by
  rw [xup_at, tm_at, tm_at]
  repeat' split
  all_goals first | rfl | omega) (fun _ _ => rfl)
theorem tm_10 (M : XM) (p s t n x : Int32) (w : Int64) : xup (tm M p s t n w) 49 10 x = tm M p s t x w := xm_ext (fun a b => by
  rw [xup_at, tm_at, tm_at]
  repeat' split
  all_goals first | rfl | omega) (fun _ _ => rfl)
theorem tm_9 (M : XM) (p s t n : Int32) (w x : Int64) : xul (tm M p s t n w) 49 9 x = tm M p s t n x := xm_ext (fun _ _ => rfl) (fun a b => by
  rw [xul_at, tm_at2, tm_at2]
  repeat' split
  all_goals first | rfl | omega)
theorem tm_g6 {M : XM} {p s t n : Int32} {w : Int64} : (tm M p s t n w).1 49 6 = p := rfl
theorem tm_g7 {M : XM} {p s t n : Int32} {w : Int64} : (tm M p s t n w).1 49 7 = s := rfl
theorem tm_g8 {M : XM} {p s t n : Int32} {w : Int64} : (tm M p s t n w).1 49 8 = t := rfl
theorem tm_g10 {M : XM} {p s t n : Int32} {w : Int64} : (tm M p s t n w).1 49 10 = n := rfl
theorem tm_g9 {M : XM} {p s t n : Int32} {w : Int64} : (tm M p s t n w).2 49 9 = w := rfl
def TM (M : XM) (T : TX) : Prop := M.1 49 4 = nI T.2 ∧ T.2 ≤ 400 ∧ ∀ i, i < T.2 → M.1 53 i = nI (T.1 i) ∧ T.1 i < 256
theorem TM.tm {M : XM} {T : TX} {p s t n : Int32} {w : Int64} (h : TM M T) : TM (tm M p s t n w) T := h
def FrT (M M' : XM) : Prop := (∀ a b, ¬ (a = 49 ∧ (b = 6 ∨ b = 7 ∨ b = 8 ∨ b = 10)) → M'.1 a b = M.1 a b) ∧ ∀ a b, ¬ (a = 49 ∧ b = 9) → M'.2 a b = M.2 a b
theorem FrT.rf (M : XM) : FrT M M := ⟨fun _ _ _ => rfl, fun _ _ _ => rfl⟩
theorem FrT.tr {M M1 M2 : XM} (h : FrT M M1) (h2 : FrT M1 M2) : FrT M M2 := ⟨fun a b q => (h2.1 a b q).trans (h.1 a b q), fun a b q => (h2.2 a b q).trans (h.2 a b q)⟩
theorem FrT.tm (M : XM) (p s t n : Int32) (w : Int64) : FrT M (tm M p s t n w) := ⟨fun a b q => by rw [tm_at, if_neg (by omega), if_neg (by omega), if_neg (by omega), if_neg (by omega)], fun a b q => by rw [tm_at2, if_neg q]⟩
theorem TM.fr {M M' : XM} {T : TX} (h : TM M T) (hF : FrT M M') : TM M' T := ⟨(hF.1 49 4 (by omega)).trans h.1, h.2.1, fun i hi => ⟨(hF.1 53 i (by omega)).trans (h.2.2 i hi).1, (h.2.2 i hi).2⟩⟩
def TkM (M : XM) (T : TX) (p : Nat) : Prop := M.1 49 6 = nI (tkE T p) ∧ M.1 49 7 = nI (tkS T p) ∧ M.1 49 8 = nI (tkK T p) ∧ (tkK T p = 2 → M.1 49 10 = nI (tkV T p)) ∧ (tkK T p = 1 → M.2 49 9 = naL T (tkS T p) (tkE T p - tkS T p)) ∧ p ≤ T.2
theorem in_N {c lo hi : Nat} (hc : c < 2 ^ 31) (hl : lo < 2 ^ 31) (hh : hi < 2 ^ 31) : (nI lo ≤ nI c ∧ nI c ≤ nI hi) ↔ (lo ≤ c ∧ c ≤ hi) := by
  rw [fa_le, fa_le, nI_toInt hc, nI_toInt hl, nI_toInt hh]; omega
theorem l_of : ∀ c, c < 256 → (nI c).toInt64 = Int64.ofNat c := by decide +kernel
theorem naL_s {T : TX} {s k : Nat} (hk : k < 9) (hc : 97 ≤ T.1 (s + k) ∧ T.1 (s + k) ≤ 122) : 27 * naL T s k + (nI (T.1 (s + k))).toInt64 - 96 = naL T s (k + 1) := by
  rw [naL, naL, if_pos (by omega), if_pos (by omega), naF, l_of _ (by omega)]
  generalize naF (fun j => T.1 (s + j)) k = a
  generalize T.1 (s + k) = c at hc
  obtain ⟨e, rfl⟩ : ∃ e, c = e + 96 := ⟨c - 96, by omega⟩
  rw [show e + 96 - 96 = e by omega, Int64.ofNat_add, Int64.ofNat_add, Int64.ofNat_mul, show Int64.ofNat 96 = 96 from rfl, show Int64.ofNat 27 = 27 from rfl]
  grind
theorem naL_b {T : TX} {s k : Nat} (hk : ¬ k < 9) : naL T s (k + 1) = -1 := by rw [naL, if_neg (by omega)]
set_option maxRecDepth 20000 in
theorem s_X8_here_in {T : TX} {p : Nat} (hT : TM M T) (hp : M.1 49 6 = nI p) (h : p < T.2) : XC g l mX8_here d [xr 49] M (XE (some (xi (nI (T.1 p)))) M) := by
  have h6 := hT.2.1
  show XW g l mX8_here _ 0 [some (xr 49)] [] M _
  refine xw_aload_n dX8_here_0 rfl ?_
  refine xw_getV dX8_here_1 fl_X8_81 rfl rfl (hp) ?_
  refine xw_aload_n dX8_here_4 rfl ?_
  refine xw_getV dX8_here_5 fl_X8_75 rfl rfl (hT.1) ?_
  refine xw_icmp_geN (tgt := 23) dX8_here_8 (by decide) (by omega) (fun c8 => ?_) (fun c8 => ?_)
  · exfalso; omega
  · refine xw_aload_n dX8_here_11 rfl ?_
    refine xw_getR dX8_here_12 fl_X8_19 rfl rfl ?_
    refine xw_aload_n dX8_here_15 rfl ?_
    refine xw_getV dX8_here_16 fl_X8_81 rfl rfl (hp) ?_
    refine xw_ialN _ dX8_here_19 rfl (rfl) ((hT.2.2 p h).1) rfl ?_ ?_
    · omega
    refine xw_goto (tgt := 24) dX8_here_20 (by decide) ?_
    refine xw_ireti dX8_here_24 rfl ?_
    first | exact ⟨rfl, rfl⟩ | exact ⟨by simp_all, rfl⟩ | grind [XE]
set_option maxRecDepth 20000 in
theorem s_X8_here_out {T : TX} {p : Nat} (hT : TM M T) (hp : M.1 49 6 = nI p) (h : p = T.2) : XC g l mX8_here d [xr 49] M (XE (some (xi (-1))) M) := by
  have h6 := hT.2.1
  show XW g l mX8_here _ 0 [some (xr 49)] [] M _
  refine xw_aload_n dX8_here_0 rfl ?_
  refine xw_getV dX8_here_1 fl_X8_81 rfl rfl (hp) ?_
  refine xw_aload_n dX8_here_4 rfl ?_
  refine xw_getV dX8_here_5 fl_X8_75 rfl rfl (hT.1) ?_
  refine xw_icmp_geN (tgt := 23) dX8_here_8 (by decide) (by omega) (fun c8 => ?_) (fun c8 => ?_)
  · refine xw_iconst (v := (-1)) dX8_here_23 (by decide) ?_
    refine xw_ireti dX8_here_24 rfl ?_
    first | exact ⟨rfl, rfl⟩ | exact ⟨by simp_all, rfl⟩ | grind [XE]
  · exfalso; omega
set_option maxRecDepth 20000 in
theorem lpS_X8_next {T : TX} {s t n : Int32} {w : Int64} {Q : Option XV → XM → Prop} (hT : TM M T) : ∀ (q p : Nat), p + q = T.2 → XW g l mX8_nextToken (d + 1) 31 [some (xr 49)] [] (tm M (nI (skW T q p)) s t n w) Q → XW g l mX8_nextToken (d + 1) 0 [some (xr 49)] [] (tm M (nI p) s t n w) Q := by
  have h6 := hT.2.1
  intro q
  induction q with
  | zero =>
    intro p hp K
    refine xw_aload_n dX8_nextToken_0 rfl ?_
    refine xw_cV0E dX8_nextToken_1 okX8_here ml_X8_84 rfl rfl rfl rfl (s_X8_here_out hT.tm tm_g6 (by omega)) ?_
    refine xw_bipush (v := 32) dX8_nextToken_4 (by decide) ?_
    refine xw_icmp_eq (tgt := 18) dX8_nextToken_6 (by decide) (fun q9 => absurd q9 (by decide)) (fun _ => ?_)
    refine xw_aload_n dX8_nextToken_9 rfl ?_
    refine xw_cV0E dX8_nextToken_10 okX8_here ml_X8_84 rfl rfl rfl rfl (s_X8_here_out hT.tm tm_g6 (by omega)) ?_
    refine xw_bipush (v := 10) dX8_nextToken_13 (by decide) ?_
    refine xw_icmp_ne (tgt := 31) dX8_nextToken_15 (by decide) (fun _ => ?_) (fun q9 => absurd q9 (by decide))
    exact K
  | succ q ih =>
    intro p hp K
    have h5 := (hT.2.2 p (by omega)).2
    rw [skW] at K
    refine xw_aload_n dX8_nextToken_0 rfl ?_
    refine xw_cV0E dX8_nextToken_1 okX8_here ml_X8_84 rfl rfl rfl rfl (s_X8_here_in hT.tm tm_g6 (by omega)) ?_
    refine xw_bipush (v := 32) dX8_nextToken_4 (by decide) ?_
    refine xw_icmp_eqN (b := 32) (tgt := 18) dX8_nextToken_6 (by decide) (by omega) (fun c6 => ?_) (fun c6 => ?_)
    · refine xw_aload_n dX8_nextToken_18 rfl ?_
      refine xw_dup dX8_nextToken_19 rfl ?_
      refine xw_getV dX8_nextToken_20 fl_X8_81 rfl rfl (tm_g6) ?_
      refine xw_iconst (v := 1) dX8_nextToken_23 (by decide) ?_
      refine xw_iaddN (b := 1) dX8_nextToken_24 ?_
      refine xw_putI dX8_nextToken_25 fp_X8_81 rfl rfl ?_
      refine xw_goto (tgt := 0) dX8_nextToken_28 (by decide) ?_
      rw [tm_6]
      rw [if_pos (by omega)] at K
      exact ih (p + 1) (by omega) K
    · refine xw_aload_n dX8_nextToken_9 rfl ?_
      refine xw_cV0E dX8_nextToken_10 okX8_here ml_X8_84 rfl rfl rfl rfl (s_X8_here_in hT.tm tm_g6 (by omega)) ?_
      refine xw_bipush (v := 10) dX8_nextToken_13 (by decide) ?_
      refine xw_icmp_neN (b := 10) (tgt := 31) dX8_nextToken_15 (by decide) (by omega) (fun c15 => ?_) (fun c15 => ?_)
      · rw [if_neg (by omega)] at K
        exact K
      · refine xw_aload_n dX8_nextToken_18 rfl ?_
        refine xw_dup dX8_nextToken_19 rfl ?_
        refine xw_getV dX8_nextToken_20 fl_X8_81 rfl rfl (tm_g6) ?_
        refine xw_iconst (v := 1) dX8_nextToken_23 (by decide) ?_
        refine xw_iaddN (b := 1) dX8_nextToken_24 ?_
        refine xw_putI dX8_nextToken_25 fp_X8_81 rfl rfl ?_
        refine xw_goto (tgt := 0) dX8_nextToken_28 (by decide) ?_
        rw [tm_6]
        rw [if_pos (by omega)] at K
        exact ih (p + 1) (by omega) K
set_option maxRecDepth 20000 in
theorem lpL_X8_next {T : TX} {n : Int32} {w : Int64} {Q : Option XV → XM → Prop} (hT : TM M T) {S : Nat} : ∀ (q k : Nat) {w : Int64}, S + k + q = T.2 → w = naL T S k → (∀ e, e = rnE T 97 122 q (S + k) → XW g l mX8_nextToken (d + 1) 285 [some (xr 49)] [] (tm M (nI e) (nI S) 1 n (naL T S (e - S))) Q) → XW g l mX8_nextToken (d + 1) 78 [some (xr 49)] [] (tm M (nI (S + k)) (nI S) 1 n w) Q := by
  have h6 := hT.2.1
  intro q
  induction q with
  | zero =>
    intro k w hk hw K
    subst hw
    have K := K (S + k) rfl
    rw [show S + k - S = k by omega] at K
    refine xw_aload_n dX8_nextToken_78 rfl ?_
    refine xw_cV0E dX8_nextToken_79 okX8_here ml_X8_84 rfl rfl rfl rfl (s_X8_here_out hT.tm tm_g6 (by omega)) ?_
    refine xw_bipush (v := 97) dX8_nextToken_82 (by decide) ?_
    refine xw_bipush (v := 122) dX8_nextToken_84 (by decide) ?_
    refine xw_cS3B dX8_nextToken_86 okX8_in ml_X8_56 rfl rfl (s_X8_in _ _ _) (fun p86 => ?_) (fun p86 => ?_)
    · exact absurd p86.1 (by decide)
    · refine xw_if_eq (tgt := 285) dX8_nextToken_89 (by decide) (fun _ => ?_) (fun q9 => absurd q9 (by decide))
      exact K
  | succ q ih =>
    intro k w hk hw K
    have h5 := (hT.2.2 (S + k) (by omega)).2
    have hin := in_N (c := T.1 (S + k)) (lo := 97) (hi := 122) (by omega) (by decide) (by decide)
    have go : isLt T (S + k) → XW g l mX8_nextToken (d + 1) 78 [some (xr 49)] [] (tm M (nI (S + k + 1)) (nI S) 1 n (naL T S (k + 1))) Q := fun z => ih (k + 1) (by omega) rfl (fun e he => K e (by rw [rnE, if_pos z]; exact he))
    refine xw_aload_n dX8_nextToken_78 rfl ?_
    refine xw_cV0E dX8_nextToken_79 okX8_here ml_X8_84 rfl rfl rfl rfl (s_X8_here_in hT.tm tm_g6 (by omega)) ?_
    refine xw_bipush (v := 97) dX8_nextToken_82 (by decide) ?_
    refine xw_bipush (v := 122) dX8_nextToken_84 (by decide) ?_
    refine xw_cS3B dX8_nextToken_86 okX8_in ml_X8_56 rfl rfl (s_X8_in _ _ _) (fun p86 => ?_) (fun p86 => ?_)
    · refine xw_if_eq (tgt := 285) dX8_nextToken_89 (by decide) (fun q9 => absurd q9 (by decide)) (fun _ => ?_)
      refine xw_aload_n dX8_nextToken_92 rfl ?_
      refine xw_aload_n dX8_nextToken_93 rfl ?_
      refine xw_getV dX8_nextToken_94 fl_X8_81 rfl rfl (tm_g6) ?_
      refine xw_aload_n dX8_nextToken_97 rfl ?_
      refine xw_getV dX8_nextToken_98 fl_X8_88 rfl rfl (tm_g7) ?_
      refine xw_isubN dX8_nextToken_101 ?_ ?_
      · omega
      refine xw_bipush (v := 9) dX8_nextToken_102 (by decide) ?_
      refine xw_icmp_geN (b := 9) (tgt := 128) dX8_nextToken_104 (by decide) (by omega) (fun c104 => ?_) (fun c104 => ?_)
      · refine xw_ldc2 dX8_nextToken_128 kc_X8_102 ?_
        have hlt := hin.mp p86
        refine xw_putL dX8_nextToken_131 fp_X8_94 rfl rfl ?_
        rw [tm_9]
        refine xw_aload_n dX8_nextToken_134 rfl ?_
        refine xw_dup dX8_nextToken_135 rfl ?_
        refine xw_getV dX8_nextToken_136 fl_X8_81 rfl rfl (tm_g6) ?_
        refine xw_iconst (v := 1) dX8_nextToken_139 (by decide) ?_
        refine xw_iaddN (b := 1) dX8_nextToken_140 ?_
        refine xw_putI dX8_nextToken_141 fp_X8_81 rfl rfl ?_
        refine xw_goto (tgt := 78) dX8_nextToken_144 (by decide) ?_
        rw [tm_6, show ((-1) : Int64) = naL T S (k + 1) from (naL_b (by omega)).symm]
        exact go hlt
      · refine xw_ldc2 dX8_nextToken_107 kc_X8_98 ?_
        refine xw_aload_n dX8_nextToken_110 rfl ?_
        refine xw_getL dX8_nextToken_111 fl_X8_94 rfl rfl ?_
        refine xw_lmul dX8_nextToken_114 ?_
        refine xw_aload_n dX8_nextToken_115 rfl ?_
        refine xw_cV0E dX8_nextToken_116 okX8_here ml_X8_84 rfl rfl rfl rfl (s_X8_here_in hT.tm tm_g6 (by omega)) ?_
        refine xw_i2l dX8_nextToken_119 ?_
        refine xw_ladd dX8_nextToken_120 ?_
        refine xw_ldc2 dX8_nextToken_121 kc_X8_100 ?_
        refine xw_lsub dX8_nextToken_124 ?_
        refine xw_goto (tgt := 131) dX8_nextToken_125 (by decide) ?_
        have hlt := hin.mp p86
        refine xw_putL dX8_nextToken_131 fp_X8_94 rfl rfl ?_
        rw [tm_9]
        refine xw_aload_n dX8_nextToken_134 rfl ?_
        refine xw_dup dX8_nextToken_135 rfl ?_
        refine xw_getV dX8_nextToken_136 fl_X8_81 rfl rfl (tm_g6) ?_
        refine xw_iconst (v := 1) dX8_nextToken_139 (by decide) ?_
        refine xw_iaddN (b := 1) dX8_nextToken_140 ?_
        refine xw_putI dX8_nextToken_141 fp_X8_81 rfl rfl ?_
        refine xw_goto (tgt := 78) dX8_nextToken_144 (by decide) ?_
        rw [tm_6]
        have e9 := naL_s (T := T) (s := S) (k := k) (by omega) hlt
        rw [← hw] at e9
        rw [show ((27 : Int64) * (tm M (nI (S + k)) (nI S) 1 n w).2 49 9 + (nI (T.1 (S + k))).toInt64 - 96) = naL T S (k + 1) from e9]
        exact go hlt
    · refine xw_if_eq (tgt := 285) dX8_nextToken_89 (by decide) (fun _ => ?_) (fun q9 => absurd q9 (by decide))
      have K := K (S + k) (by rw [rnE, if_neg (fun z => p86 (hin.mpr z))])
      rw [show S + k - S = k by omega, ← hw] at K
      exact K
set_option maxRecDepth 20000 in
theorem lpD_X8_next {T : TX} {t : Int32} {w : Int64} {Q : Option XV → XM → Prop} (hT : TM M T) {S : Nat} : ∀ (q k : Nat) {n : Int32}, S + k + q = T.2 → n = nI (nuV T S (min 3 k)) → (∀ e, e = rnE T 48 57 q (S + k) → XW g l mX8_nextToken (d + 1) 232 [some (xr 49)] [] (tm M (nI e) (nI S) t (nI (nuV T S (min 3 (e - S)))) w) Q) → XW g l mX8_nextToken (d + 1) 166 [some (xr 49)] [] (tm M (nI (S + k)) (nI S) t n w) Q := by
  have h6 := hT.2.1
  intro q
  induction q with
  | zero =>
    intro k n hk hn K
    subst hn
    have K := K (S + k) rfl
    rw [show S + k - S = k by omega] at K
    refine xw_aload_n dX8_nextToken_166 rfl ?_
    refine xw_cV0E dX8_nextToken_167 okX8_here ml_X8_84 rfl rfl rfl rfl (s_X8_here_out hT.tm tm_g6 (by omega)) ?_
    refine xw_bipush (v := 48) dX8_nextToken_170 (by decide) ?_
    refine xw_bipush (v := 57) dX8_nextToken_172 (by decide) ?_
    refine xw_cS3B dX8_nextToken_174 okX8_in ml_X8_56 rfl rfl (s_X8_in _ _ _) (fun p174 => ?_) (fun p174 => ?_)
    · exact absurd p174.1 (by decide)
    · refine xw_if_eq (tgt := 232) dX8_nextToken_177 (by decide) (fun _ => ?_) (fun q9 => absurd q9 (by decide))
      exact K
  | succ q ih =>
    intro k n hk hn K
    subst hn
    have h5 := (hT.2.2 (S + k) (by omega)).2
    have hin := in_N (c := T.1 (S + k)) (lo := 48) (hi := 57) (by omega) (by decide) (by decide)
    have go : isDg T (S + k) → XW g l mX8_nextToken (d + 1) 166 [some (xr 49)] [] (tm M (nI (S + k + 1)) (nI S) t (nI (nuV T S (min 3 (k + 1)))) w) Q := fun z => ih (k + 1) (by omega) rfl (fun e he => K e (by rw [rnE, if_pos z]; exact he))
    refine xw_aload_n dX8_nextToken_166 rfl ?_
    refine xw_cV0E dX8_nextToken_167 okX8_here ml_X8_84 rfl rfl rfl rfl (s_X8_here_in hT.tm tm_g6 (by omega)) ?_
    refine xw_bipush (v := 48) dX8_nextToken_170 (by decide) ?_
    refine xw_bipush (v := 57) dX8_nextToken_172 (by decide) ?_
    refine xw_cS3B dX8_nextToken_174 okX8_in ml_X8_56 rfl rfl (s_X8_in _ _ _) (fun p174 => ?_) (fun p174 => ?_)
    · refine xw_if_eq (tgt := 232) dX8_nextToken_177 (by decide) (fun q9 => absurd q9 (by decide)) (fun _ => ?_)
      refine xw_aload_n dX8_nextToken_180 rfl ?_
      refine xw_aload_n dX8_nextToken_181 rfl ?_
      refine xw_getV dX8_nextToken_182 fl_X8_81 rfl rfl (tm_g6) ?_
      refine xw_aload_n dX8_nextToken_185 rfl ?_
      refine xw_getV dX8_nextToken_186 fl_X8_88 rfl rfl (tm_g7) ?_
      refine xw_isubN dX8_nextToken_189 ?_ ?_
      · omega
      refine xw_iconst (v := 3) dX8_nextToken_190 (by decide) ?_
      refine xw_icmp_geN (b := 3) (tgt := 212) dX8_nextToken_191 (by decide) (by omega) (fun c191 => ?_) (fun c191 => ?_)
      · have hlt := hin.mp p174
        have e9 : nuV T S (min 3 (k + 1)) = nuV T S (min 3 k) := by rw [show min 3 (k + 1) = min 3 k by omega]
        refine xw_aload_n dX8_nextToken_212 rfl ?_
        refine xw_getV dX8_nextToken_213 fl_X8_104 rfl rfl (tm_g10) ?_
        refine xw_putI dX8_nextToken_216 fp_X8_104 rfl rfl ?_
        rw [tm_10]
        refine xw_aload_n dX8_nextToken_219 rfl ?_
        refine xw_dup dX8_nextToken_220 rfl ?_
        refine xw_getV dX8_nextToken_221 fl_X8_81 rfl rfl (tm_g6) ?_
        refine xw_iconst (v := 1) dX8_nextToken_224 (by decide) ?_
        refine xw_iaddN (b := 1) dX8_nextToken_225 ?_
        refine xw_putI dX8_nextToken_226 fp_X8_81 rfl rfl ?_
        refine xw_goto (tgt := 166) dX8_nextToken_229 (by decide) ?_
        rw [tm_6, ← e9]
        exact go hlt
      · have hlt := hin.mp p174
        have e9 : nuV T S (min 3 (k + 1)) = 10 * nuV T S (min 3 k) + T.1 (S + k) - 48 := by
          rw [show min 3 (k + 1) = k + 1 by omega, show min 3 k = k by omega, nuV]
          omega
        refine xw_bipush (v := 10) dX8_nextToken_194 (by decide) ?_
        refine xw_aload_n dX8_nextToken_196 rfl ?_
        refine xw_getV dX8_nextToken_197 fl_X8_104 rfl rfl (tm_g10) ?_
        refine xw_imulN (a := 10) dX8_nextToken_200 ?_
        refine xw_aload_n dX8_nextToken_201 rfl ?_
        refine xw_cV0E dX8_nextToken_202 okX8_here ml_X8_84 rfl rfl rfl rfl (s_X8_here_in hT.tm tm_g6 (by omega)) ?_
        refine xw_iaddN dX8_nextToken_205 ?_
        refine xw_bipush (v := 48) dX8_nextToken_206 (by decide) ?_
        refine xw_isubN (b := 48) dX8_nextToken_208 ?_ ?_
        · omega
        refine xw_goto (tgt := 216) dX8_nextToken_209 (by decide) ?_
        refine xw_putI dX8_nextToken_216 fp_X8_104 rfl rfl ?_
        rw [tm_10]
        refine xw_aload_n dX8_nextToken_219 rfl ?_
        refine xw_dup dX8_nextToken_220 rfl ?_
        refine xw_getV dX8_nextToken_221 fl_X8_81 rfl rfl (tm_g6) ?_
        refine xw_iconst (v := 1) dX8_nextToken_224 (by decide) ?_
        refine xw_iaddN (b := 1) dX8_nextToken_225 ?_
        refine xw_putI dX8_nextToken_226 fp_X8_81 rfl rfl ?_
        refine xw_goto (tgt := 166) dX8_nextToken_229 (by decide) ?_
        rw [tm_6, ← e9]
        exact go hlt
    · refine xw_if_eq (tgt := 232) dX8_nextToken_177 (by decide) (fun _ => ?_) (fun q9 => absurd q9 (by decide))
      have K := K (S + k) (by rw [rnE, if_neg (fun z => p174 (hin.mpr z))])
      rw [show S + k - S = k by omega] at K
      exact K
end TOKM
