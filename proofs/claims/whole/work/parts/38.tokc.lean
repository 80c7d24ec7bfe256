section TOKC
variable {g : XG} {l : Launch} {d : Nat} {M : XM}
def sb (c : Nat) : Int32 := (nI c).toInt8.toInt32
theorem sb_all : ∀ c, c < 256 → (c < 128 → sb c = nI c) ∧ (128 ≤ c → sb c < 0) := by decide +kernel
theorem sb_eq {c k : Nat} (hc : c < 256) (hk : k < 128) : sb c = nI k ↔ c = k := by
  have h := sb_all c hc
  rcases Nat.lt_or_ge c 128 with z | z
  · rw [h.1 z]; exact nI_eq (by omega) (by omega)
  · constructor
    · intro q; have := h.2 z; rw [q] at this; exact absurd this (Int32.not_lt.mpr (nI_pos' (by omega)))
    · intro q; omega
theorem sb_in {c lo hi : Nat} (hc : c < 256) (hl : lo < 128) (hh : hi < 128) : (sb c < nI lo → ¬ (lo ≤ c ∧ c ≤ hi)) ∧ (¬ sb c < nI lo → nI hi < sb c → ¬ (lo ≤ c ∧ c ≤ hi)) ∧ (¬ sb c < nI lo → ¬ nI hi < sb c → (lo ≤ c ∧ c ≤ hi)) := by
  have h := sb_all c hc
  rcases Nat.lt_or_ge c 128 with z | z
  · rw [h.1 z, fa_lt, fa_lt, nI_toInt (by omega), nI_toInt (by omega), nI_toInt (by omega)]
    omega
  · have h2 := h.2 z
    rw [fa_lt] at h2
    have h3 : (0 : Int32).toInt = 0 := rfl
    rw [fa_lt, fa_lt, nI_toInt (by omega), nI_toInt (by omega)]
    refine ⟨fun _ => by omega, fun q => ?_, fun q => ?_⟩ <;> omega
def TC (M : XM) (T : TX) : Prop := M.1 5 1 = nI T.2 ∧ T.2 ≤ 400 ∧ ∀ i, i < T.2 → M.1 6 i = sb (T.1 i) ∧ T.1 i < 256
def Tk (M : XM) (T : TX) (p : Nat) : Prop := M.1 5 5 = nI (tkS T p) ∧ M.1 5 6 = nI (tkE T p) ∧ M.1 5 7 = nI (tkK T p) ∧ (tkK T p = 2 → M.1 5 8 = nI (tkV T p)) ∧ p ≤ T.2
def Fr5 (k : Nat) (M M' : XM) : Prop := (∀ a b, ¬ (a = 5 ∧ k ≤ b) → M'.1 a b = M.1 a b) ∧ M'.2 = M.2
theorem Fr5.rf (k : Nat) (M : XM) : Fr5 k M M := ⟨fun _ _ _ => rfl, rfl⟩
theorem Fr5.tr {k : Nat} {M M1 M2 : XM} (h : Fr5 k M M1) (h2 : Fr5 k M1 M2) : Fr5 k M M2 := ⟨fun a b q => (h2.1 a b q).trans (h.1 a b q), h2.2.trans h.2⟩
theorem Fr5.lo {k j : Nat} {M M1 : XM} (h : Fr5 k M M1) (hj : j ≤ k) : Fr5 j M M1 := ⟨fun a b q => h.1 a b (by omega), h.2⟩
theorem Fr5.up {k j : Nat} {M M1 : XM} {x : Int32} (h : Fr5 k M M1) (hj : k ≤ j) : Fr5 k M (xup M1 5 j x) := ⟨fun a b q => by rw [xup_at, if_neg (by omega)]; exact h.1 a b q, h.2⟩
theorem TC.fr {M M' : XM} {T : TX} {k : Nat} (h : TC M T) (hF : Fr5 k M M') (hk : 2 ≤ k) : TC M' T := ⟨(hF.1 5 1 (by omega)).trans h.1, h.2.1, fun i hi => ⟨(hF.1 6 i (by omega)).trans (h.2.2 i hi).1, (h.2.2 i hi).2⟩⟩
def FlC (M M' : XM) (n s : Nat) : Prop := M'.1 5 3 = nI n ∧ M'.1 5 4 = nI s ∧ Fr5 3 M M'
theorem xup2 (M : XM) (k j : Nat) (x z : Int32) : xup (xup M k j x) k j z = xup M k j z := xm_ext (fun a b => by
  rw [xup_at, xup_at, xup_at]
  by_cases q : a = k ∧ b = j
  · rw [if_pos q, if_pos q]
  · rw [if_neg q, if_neg q, if_neg q]) (fun _ _ => rfl)
theorem wl_sh : ∀ i, i < 9 → (Int32.ofNat (xln.getD i 0)) >>> ((0 : Int32) &&& 31) = nI (wln i) := by decide +kernel
theorem wl_le : ∀ i, i < 9 → xln.getD i 0 = wln i ∧ wln i ≤ 5 := by decide +kernel
theorem wc_i2c : ∀ i, i < 9 → ∀ k, k < wln i → ((((xby.getD i []).getD (nI k).toNatClampNeg 0) &&& 255).toUInt32 % 65536).toInt32 = nI (wch i k) ∧ narrow .char (.int (nI (wch i k))) = .int (nI (wch i k)) := by decide +kernel
set_option maxRecDepth 20000 in
theorem s_J0_coder_7d493 {i : Nat} (hi : i < 9)  : XC g l mJ0_coder_7d493 d [xr (1100 + i)] M (XE (some (xi 0)) M) := by
  show XW g l mJ0_coder_7d493 _ 0 [some (xr (1100 + i))] [] M _
  refine xw_getsC dJ0_coder_7d493_0 fs_J0_38 ?_
  refine xw_if_eq (tgt := 13) dJ0_coder_7d493_3 (by decide) (fun q9 => absurd q9 (by decide)) (fun _ => ?_)
  refine xw_aload_n dJ0_coder_7d493_6 rfl ?_
  refine xw_getSc dJ0_coder_7d493_7 rfl hi fj_J0_15 ?_
  refine xw_goto (tgt := 14) dJ0_coder_7d493_10 (by decide) ?_
  refine xw_iretN (ty := .byte) dJ0_coder_7d493_14 rfl ?_ ?_
  · rfl
  · exact ⟨rfl, rfl⟩
set_option maxRecDepth 20000 in
theorem s_J0_length_8abf5 {i : Nat} (hi : i < 9)  : XC g l mJ0_length_8abf5 (d + 1) [xr (1100 + i)] M (XE (some (xi (nI (wln i)))) M) := by
  show XW g l mJ0_length_8abf5 _ 0 [some (xr (1100 + i))] [] M _
  refine xw_aload_n dJ0_length_8abf5_0 rfl ?_
  refine xw_getSv dJ0_length_8abf5_1 rfl hi fj_J0_9 ?_
  refine xw_alenB dJ0_length_8abf5_4 rfl hi ?_
  refine xw_aload_n dJ0_length_8abf5_5 rfl ?_
  refine xw_cT0E dJ0_length_8abf5_6 okJ0_coder_7d493 ml_J0_335 rfl hi rfl rfl rfl (s_J0_coder_7d493 hi) ?_
  refine xw_ishr dJ0_length_8abf5_9 ?_
  refine xw_ireti dJ0_length_8abf5_10 rfl ?_
  exact ⟨by rw [wl_sh i hi], rfl⟩
set_option maxRecDepth 20000 in
theorem s_J0_isLatin1_aae02 {i : Nat} (hi : i < 9)  : XC g l mJ0_isLatin1_aae02 d [xr (1100 + i)] M (XE (some (xi 1)) M) := by
  show XW g l mJ0_isLatin1_aae02 _ 0 [some (xr (1100 + i))] [] M _
  refine xw_getsC dJ0_isLatin1_aae02_0 fs_J0_38 ?_
  refine xw_if_eq (tgt := 17) dJ0_isLatin1_aae02_3 (by decide) (fun q9 => absurd q9 (by decide)) (fun _ => ?_)
  refine xw_aload_n dJ0_isLatin1_aae02_6 rfl ?_
  refine xw_getSc dJ0_isLatin1_aae02_7 rfl hi fj_J0_15 ?_
  refine xw_if_ne (tgt := 17) dJ0_isLatin1_aae02_10 (by decide) (fun q9 => absurd q9 (by decide)) (fun _ => ?_)
  refine xw_iconst (v := 1) dJ0_isLatin1_aae02_13 (by decide) ?_
  refine xw_goto (tgt := 18) dJ0_isLatin1_aae02_14 (by decide) ?_
  refine xw_iretz dJ0_isLatin1_aae02_18 rfl (Or.inr rfl) ?_
  exact ⟨rfl, rfl⟩
set_option maxRecDepth 20000 in
theorem s_J3_checkIndex {k n : Nat} (hk : k < n) (hn : n < 1000) : XW g l mJ3_checkIndex_8e157 d 0 [some (xi (nI k)), some (xi (nI n)), none] [] M (XE (some (xi (nI k))) M) := by
  refine xw_iload_n dJ3_checkIndex_8e157_0 rfl ?_
  refine xw_if_ltN (tgt := 9) dJ3_checkIndex_8e157_1 (by decide) (by omega) ?_
  refine xw_iload_n dJ3_checkIndex_8e157_4 rfl ?_
  refine xw_iload_n dJ3_checkIndex_8e157_5 rfl ?_
  refine xw_icmp_ltN (tgt := 16) dJ3_checkIndex_8e157_6 (by decide) (by omega) (fun c6 => ?_) (fun c6 => ?_)
  · refine xw_iload_n dJ3_checkIndex_8e157_16 rfl ?_
    refine xw_ireti dJ3_checkIndex_8e157_17 rfl ?_
    first | exact ⟨rfl, rfl⟩ | exact ⟨by simp_all, rfl⟩ | grind [XE]
  · exfalso; omega
set_option maxRecDepth 20000 in
theorem s_J0_checkIndex {k n : Nat} (hk : k < n) (hn : n < 1000) : XC g l mJ0_checkIndex_df160 (d + 1) [xi (nI k), xi (nI n)] M (XE none M) := by
  show XW g l mJ0_checkIndex_df160 _ 0 [some (xi (nI k)), some (xi (nI n))] [] M _
  refine xw_iload_n dJ0_checkIndex_df160_0 rfl ?_
  refine xw_iload_n dJ0_checkIndex_df160_1 rfl ?_
  refine xw_fmt dJ0_checkIndex_df160_2 fs_J0_1053 dJ0_checkIndex_df160_5 okJ3_checkIndex_8e157 ml_J0_1059 rfl rfl (s_J3_checkIndex hk hn) ?_
  refine xw_pop dJ0_checkIndex_df160_8 rfl ?_
  refine xw_ret dJ0_checkIndex_df160_9 rfl ?_
  first | exact ⟨rfl, rfl⟩ | exact ⟨rfl, by simp_all⟩
set_option maxRecDepth 20000 in
theorem s_J1_charAt {i : Nat} (hi : i < 9) {k : Nat} (hk : k < wln i) : XC g l mJ1_charAt_3b067 (d + 2) [xr (1200 + i), xi (nI k)] M (XE (some (xi (nI (wch i k)))) M) := by
  have h1 := wl_le i hi
  have h2 := wc_i2c i hi k hk
  show XW g l mJ1_charAt_3b067 _ 0 [some (xr (1200 + i)), some (xi (nI k))] [] M _
  refine xw_iload_n dJ1_charAt_3b067_0 rfl ?_
  refine xw_aload_n dJ1_charAt_3b067_1 rfl ?_
  refine xw_alenB dJ1_charAt_3b067_2 rfl hi ?_
  refine xw_cS2N dJ1_charAt_3b067_3 okJ0_checkIndex_df160 ml_J1_9 rfl rfl (s_J0_checkIndex (n := xln.getD i 0) (by omega) (by omega)) ?_
  refine xw_aload_n dJ1_charAt_3b067_6 rfl ?_
  refine xw_iload_n dJ1_charAt_3b067_7 rfl ?_
  refine xw_baldS dJ1_charAt_3b067_8 rfl hi ?_ ?_
  · exact vp_in_nI (by omega) (by omega)
  refine xw_sipush (v := 255) dJ1_charAt_3b067_9 (by decide) ?_
  refine xw_iand dJ1_charAt_3b067_12 ?_
  refine xw_i2c dJ1_charAt_3b067_13 ?_
  refine xw_iretN (ty := .char) dJ1_charAt_3b067_14 rfl ?_ ?_
  · rw [h2.1]; exact h2.2
  · exact ⟨by rw [h2.1], rfl⟩
set_option maxRecDepth 20000 in
theorem s_J0_charAt {i : Nat} (hi : i < 9) {k : Nat} (hk : k < wln i) : XC g l mJ0_charAt_5068e (d + 3) [xr (1100 + i), xi (nI k)] M (XE (some (xi (nI (wch i k)))) M) := by
  have h2 := wc_i2c i hi k hk
  show XW g l mJ0_charAt_5068e _ 0 [some (xr (1100 + i)), some (xi (nI k))] [] M _
  refine xw_aload_n dJ0_charAt_5068e_0 rfl ?_
  refine xw_cT0E dJ0_charAt_5068e_1 okJ0_isLatin1_aae02 ml_J0_492 rfl hi rfl rfl rfl (s_J0_isLatin1_aae02 hi) ?_
  refine xw_if_eq (tgt := 16) dJ0_charAt_5068e_4 (by decide) (fun q9 => absurd q9 (by decide)) (fun _ => ?_)
  refine xw_aload_n dJ0_charAt_5068e_7 rfl ?_
  refine xw_getSv dJ0_charAt_5068e_8 rfl hi fj_J0_9 ?_
  refine xw_iload_n dJ0_charAt_5068e_11 rfl ?_
  refine xw_cS2E dJ0_charAt_5068e_12 okJ1_charAt_3b067 ml_J0_495 rfl rfl (s_J1_charAt hi hk) ?_
  refine xw_iretN (ty := .char) dJ0_charAt_5068e_15 rfl ?_ ?_
  · exact h2.2
  · exact ⟨rfl, rfl⟩
set_option maxRecDepth 20000 in
theorem lp_X5_isWord {T : TX} {p i : Nat} (hi : i < 9) (hT : TC M T) (hk : Tk M T p) (h1 : tkK T p = 1) (h2 : tkE T p - tkS T p = wln i) : ∀ (q k : Nat), k + q = wln i → (∀ j, j < k → T.1 (tkS T p + j) = wch i j) → XW g l mX5_isWord (d + 4) 28 [some (xr 5), some (xr (1100 + i)), some (xi (nI k))] [] M (XB (isWd T i p) M M) := by
  have h3 := (wl_le i hi).2
  have h4 := tkE_le hk.2.2.2.2
  have h6 := hT.2.1
  have hS := hk.1
  intro q
  induction q with
  | zero =>
    intro k hkq hj
    refine xw_iload_n dX5_isWord_28 rfl ?_
    refine xw_aload_n dX5_isWord_29 rfl ?_
    refine xw_cT0E dX5_isWord_30 okJ0_length_8abf5 ml_X5_126 rfl hi rfl rfl rfl (s_J0_length_8abf5 hi) ?_
    refine xw_icmp_geN (tgt := 63) dX5_isWord_33 (by decide) (by omega) (fun c33 => ?_) (fun c33 => ?_)
    · refine xw_iconst (v := 1) dX5_isWord_63 (by decide) ?_
      refine xw_iretz dX5_isWord_64 rfl (Or.inr rfl) (Or.inl ⟨?_, rfl, rfl⟩)
      exact ⟨h1, h2, fun j hj2 => hj j (by omega)⟩
    · exfalso; omega
  | succ q ih =>
    intro k hkq hj
    have h5 := (hT.2.2 (tkS T p + k) (by omega))
    have h7 := wch_ok i hi k (by omega)
    have h8 := sb_eq (c := T.1 (tkS T p + k)) (k := wch i k) h5.2 (by omega)
    refine xw_iload_n dX5_isWord_28 rfl ?_
    refine xw_aload_n dX5_isWord_29 rfl ?_
    refine xw_cT0E dX5_isWord_30 okJ0_length_8abf5 ml_X5_126 rfl hi rfl rfl rfl (s_J0_length_8abf5 hi) ?_
    refine xw_icmp_geN (tgt := 63) dX5_isWord_33 (by decide) (by omega) (fun c33 => ?_) (fun c33 => ?_)
    · exfalso; omega
    · refine xw_aload_n dX5_isWord_36 rfl ?_
      refine xw_getR dX5_isWord_37 fl_X5_11 rfl rfl ?_
      refine xw_aload_n dX5_isWord_40 rfl ?_
      refine xw_getV dX5_isWord_41 fl_X5_32 rfl rfl (hS) ?_
      refine xw_iload_n dX5_isWord_44 rfl ?_
      refine xw_iaddN dX5_isWord_45 ?_
      refine xw_balN _ dX5_isWord_46 rfl (rfl) (h5.1) rfl ?_ ?_
      · omega
      refine xw_aload_n dX5_isWord_47 rfl ?_
      refine xw_iload_n dX5_isWord_48 rfl ?_
      refine xw_cT1E dX5_isWord_49 okJ0_charAt_5068e ml_X5_131 rfl hi rfl rfl rfl (s_J0_charAt hi (by omega)) ?_
      refine xw_icmp_eq (tgt := 57) dX5_isWord_52 (by decide) (fun c52 => ?_) (fun c52 => ?_)
      · refine xw_iincN (v := 1) dX5_isWord_57 (by decide) rfl rfl rfl ?_
        refine xw_goto (tgt := 28) dX5_isWord_60 (by decide) ?_
        exact ih (k + 1) (by omega) (fun j hj2 => by
          rcases Nat.lt_or_ge j k with z | z
          · exact hj j z
          · rw [show j = k by omega]; exact h8.mp c52)
      · refine xw_iconst (v := 0) dX5_isWord_55 (by decide) ?_
        refine xw_iretz dX5_isWord_56 rfl (Or.inl rfl) (Or.inr ⟨?_, rfl, rfl⟩)
        exact fun z => c52 (h8.mpr (z.2.2 k (by omega)))
set_option maxRecDepth 20000 in
theorem s_X5_isWord {T : TX} {p i : Nat} (hi : i < 9) (hT : TC M T) (hk : Tk M T p)  : XC g l mX5_isWord (d + 4) [xr 5, xr (1100 + i)] M (XB (isWd T i p) M M) := by
  have hS := hk.1
  have hE := hk.2.1
  have hK := hk.2.2.1
  have h4 := tkE_le hk.2.2.2.2
  have h6 := hT.2.1
  have h3 := (wl_le i hi).2
  have h9 := kdT_le T (tkS T p)
  have h9 : tkK T p ≤ 4 := h9
  show XW g l mX5_isWord _ 0 [some (xr 5), some (xr (1100 + i)), none] [] M _
  refine xw_aload_n dX5_isWord_0 rfl ?_
  refine xw_getV dX5_isWord_1 fl_X5_38 rfl rfl (hK) ?_
  refine xw_iconst (v := 1) dX5_isWord_4 (by decide) ?_
  refine xw_icmp_neN (b := 1) (tgt := 24) dX5_isWord_5 (by decide) (by omega) (fun c5 => ?_) (fun c5 => ?_)
  · refine xw_iconst (v := 0) dX5_isWord_24 (by decide) ?_
    refine xw_iretz dX5_isWord_25 rfl (Or.inl rfl) (Or.inr ⟨?_, rfl, rfl⟩)
    exact fun z => by have := z.1; have := z.2.1; omega
  · refine xw_aload_n dX5_isWord_8 rfl ?_
    refine xw_getV dX5_isWord_9 fl_X5_35 rfl rfl (hE) ?_
    refine xw_aload_n dX5_isWord_12 rfl ?_
    refine xw_getV dX5_isWord_13 fl_X5_32 rfl rfl (hS) ?_
    refine xw_isubN dX5_isWord_16 ?_ ?_
    · omega
    refine xw_aload_n dX5_isWord_17 rfl ?_
    refine xw_cT0E dX5_isWord_18 okJ0_length_8abf5 ml_X5_126 rfl hi rfl rfl rfl (s_J0_length_8abf5 hi) ?_
    refine xw_icmp_eqN (tgt := 26) dX5_isWord_21 (by decide) (by omega) (fun c21 => ?_) (fun c21 => ?_)
    · refine xw_iconst (v := 0) dX5_isWord_26 (by decide) ?_
      refine xw_istore_n dX5_isWord_27 rfl rfl ?_
      exact lp_X5_isWord hi hT hk (by omega) (by omega) (wln i) 0 (by omega) (fun _ z => absurd z (by omega))
    · refine xw_iconst (v := 0) dX5_isWord_24 (by decide) ?_
      refine xw_iretz dX5_isWord_25 rfl (Or.inl rfl) (Or.inr ⟨?_, rfl, rfl⟩)
      exact fun z => by have := z.1; have := z.2.1; omega
set_option maxRecDepth 20000 in
theorem lp_X5_endOfRun {T : TX} {lo hi : Nat} (hT : TC M T) (hl : lo < 128) (hh : hi < 128) : ∀ (q p : Nat), p + q = T.2 → XW g l mX5_endOfRun d 5 [some (xr 5), some (xi (nI lo)), some (xi (nI hi)), some (xi (nI p))] [] M (XE (some (xi (nI (rnE T lo hi q p)))) M) := by
  have hB := hT.1
  have h6 := hT.2.1
  intro q
  induction q with
  | zero =>
    intro p hp
    refine xw_iload_n dX5_endOfRun_5 rfl ?_
    refine xw_aload_n dX5_endOfRun_6 rfl ?_
    refine xw_getV dX5_endOfRun_7 fl_X5_15 rfl rfl (hB) ?_
    refine xw_icmp_geN (tgt := 39) dX5_endOfRun_10 (by decide) (by omega) (fun c10 => ?_) (fun c10 => ?_)
    · refine xw_iload_n dX5_endOfRun_39 rfl ?_
      refine xw_ireti dX5_endOfRun_40 rfl ?_
      first | exact ⟨rfl, rfl⟩ | exact ⟨by simp_all, rfl⟩ | grind [XE]
    · exfalso; omega
  | succ q ih =>
    intro p hp
    have h5 := (hT.2.2 p (by omega))
    have h7 := sb_in (c := T.1 p) (lo := lo) (hi := hi) h5.2 hl hh
    refine xw_iload_n dX5_endOfRun_5 rfl ?_
    refine xw_aload_n dX5_endOfRun_6 rfl ?_
    refine xw_getV dX5_endOfRun_7 fl_X5_15 rfl rfl (hB) ?_
    refine xw_icmp_geN (tgt := 39) dX5_endOfRun_10 (by decide) (by omega) (fun c10 => ?_) (fun c10 => ?_)
    · exfalso; omega
    · refine xw_aload_n dX5_endOfRun_13 rfl ?_
      refine xw_getR dX5_endOfRun_14 fl_X5_11 rfl rfl ?_
      refine xw_iload_n dX5_endOfRun_17 rfl ?_
      refine xw_balN _ dX5_endOfRun_18 rfl (rfl) (h5.1) rfl ?_ ?_
      · omega
      refine xw_iload_n dX5_endOfRun_19 rfl ?_
      refine xw_icmp_lt (tgt := 39) dX5_endOfRun_20 (by decide) (fun c20 => ?_) (fun c20 => ?_)
      · refine xw_iload_n dX5_endOfRun_39 rfl ?_
        refine xw_ireti dX5_endOfRun_40 rfl ?_
        first | exact ⟨by rw [rnE, if_neg (h7.1 c20)], rfl⟩ | exact ⟨by rw [rnE, if_neg (h7.2.1 c20 c30)], rfl⟩
      · refine xw_aload_n dX5_endOfRun_23 rfl ?_
        refine xw_getR dX5_endOfRun_24 fl_X5_11 rfl rfl ?_
        refine xw_iload_n dX5_endOfRun_27 rfl ?_
        refine xw_balN _ dX5_endOfRun_28 rfl (rfl) (h5.1) rfl ?_ ?_
        · omega
        refine xw_iload_n dX5_endOfRun_29 rfl ?_
        refine xw_icmp_gt (tgt := 39) dX5_endOfRun_30 (by decide) (fun c30 => ?_) (fun c30 => ?_)
        · refine xw_iload_n dX5_endOfRun_39 rfl ?_
          refine xw_ireti dX5_endOfRun_40 rfl ?_
          first | exact ⟨by rw [rnE, if_neg (h7.1 c20)], rfl⟩ | exact ⟨by rw [rnE, if_neg (h7.2.1 c20 c30)], rfl⟩
        · refine xw_iincN (v := 1) dX5_endOfRun_33 (by decide) rfl rfl rfl ?_
          refine xw_goto (tgt := 5) dX5_endOfRun_36 (by decide) ?_
          rw [rnE, if_pos (h7.2.2 c20 c30)]
          exact ih (p + 1) (by omega)
set_option maxRecDepth 20000 in
theorem s_X5_endOfRun {T : TX} {lo hi s : Nat} (hT : TC M T) (hl : lo < 128) (hh : hi < 128) (hS : M.1 5 5 = nI s) (hs : s ≤ T.2) : XC g l mX5_endOfRun d [xr 5, xi (nI lo), xi (nI hi)] M (XE (some (xi (nI (rnE T lo hi (T.2 - s) s)))) M) := by
  show XW g l mX5_endOfRun _ 0 [some (xr 5), some (xi (nI lo)), some (xi (nI hi)), none] [] M _
  refine xw_aload_n dX5_endOfRun_0 rfl ?_
  refine xw_getV dX5_endOfRun_1 fl_X5_32 rfl rfl (hS) ?_
  refine xw_istore_n dX5_endOfRun_4 rfl rfl ?_
  exact lp_X5_endOfRun hT hl hh (T.2 - s) s (by omega)
set_option maxRecDepth 20000 in
theorem lp_X5_value {T : TX} {s e : Nat} (hT : TC M T) (hS : M.1 5 5 = nI s) (hE : M.1 5 6 = nI e) (hse : s ≤ e) (heb : e ≤ T.2) (hd : ∀ i, s ≤ i → i < e → 48 ≤ T.1 i ∧ T.1 i ≤ 57)  : ∀ (q k : Nat), k + q = min 3 (e - s) → XW g l mX5_valueOfFigures d 7 [some (xr 5), some (xi (nI (nuV T s k))), some (xi (nI (s + k)))] [] M (XE (some (xi (nI (nuV T s (min 3 (e - s)))))) M) := by
  have h6 := hT.2.1
  intro q
  induction q with
  | zero =>
    intro k hk
    have hk : k = min 3 (e - s) := by omega
    subst hk
    refine xw_iload_n dX5_valueOfFigures_7 rfl ?_
    refine xw_aload_n dX5_valueOfFigures_8 rfl ?_
    refine xw_getV dX5_valueOfFigures_9 fl_X5_35 rfl rfl (hE) ?_
    refine xw_icmp_geN (tgt := 46) dX5_valueOfFigures_12 (by decide) (by omega) (fun c12 => ?_) (fun c12 => ?_)
    · refine xw_iload_n dX5_valueOfFigures_46 rfl ?_
      refine xw_ireti dX5_valueOfFigures_47 rfl ?_
      first | exact ⟨rfl, rfl⟩ | exact ⟨by simp_all, rfl⟩ | grind [XE]
    · refine xw_iload_n dX5_valueOfFigures_15 rfl ?_
      refine xw_aload_n dX5_valueOfFigures_16 rfl ?_
      refine xw_getV dX5_valueOfFigures_17 fl_X5_32 rfl rfl (hS) ?_
      refine xw_iconst (v := 3) dX5_valueOfFigures_20 (by decide) ?_
      refine xw_iaddN (b := 3) dX5_valueOfFigures_21 ?_
      refine xw_icmp_geN (tgt := 46) dX5_valueOfFigures_22 (by decide) (by omega) (fun c22 => ?_) (fun c22 => ?_)
      · refine xw_iload_n dX5_valueOfFigures_46 rfl ?_
        refine xw_ireti dX5_valueOfFigures_47 rfl ?_
        first | exact ⟨rfl, rfl⟩ | exact ⟨by simp_all, rfl⟩ | grind [XE]
      · exfalso; omega
  | succ q ih =>
    intro k hk
    have h5 := (hT.2.2 (s + k) (by omega))
    have h7 := hd (s + k) (by omega) (by omega)
    have h8 := (sb_all _ h5.2).1 (by omega)
    have ih2 := ih (k + 1) (by omega)
    rw [nuV, show 10 * nuV T s k + (T.1 (s + k) - 48) = 10 * nuV T s k + T.1 (s + k) - 48 by omega] at ih2
    refine xw_iload_n dX5_valueOfFigures_7 rfl ?_
    refine xw_aload_n dX5_valueOfFigures_8 rfl ?_
    refine xw_getV dX5_valueOfFigures_9 fl_X5_35 rfl rfl (hE) ?_
    refine xw_icmp_geN (tgt := 46) dX5_valueOfFigures_12 (by decide) (by omega) (fun c12 => ?_) (fun c12 => ?_)
    · exfalso; omega
    · refine xw_iload_n dX5_valueOfFigures_15 rfl ?_
      refine xw_aload_n dX5_valueOfFigures_16 rfl ?_
      refine xw_getV dX5_valueOfFigures_17 fl_X5_32 rfl rfl (hS) ?_
      refine xw_iconst (v := 3) dX5_valueOfFigures_20 (by decide) ?_
      refine xw_iaddN (b := 3) dX5_valueOfFigures_21 ?_
      refine xw_icmp_geN (tgt := 46) dX5_valueOfFigures_22 (by decide) (by omega) (fun c22 => ?_) (fun c22 => ?_)
      · exfalso; omega
      · refine xw_bipush (v := 10) dX5_valueOfFigures_25 (by decide) ?_
        refine xw_iload_n dX5_valueOfFigures_27 rfl ?_
        refine xw_imulN (a := 10) dX5_valueOfFigures_28 ?_
        refine xw_aload_n dX5_valueOfFigures_29 rfl ?_
        refine xw_getR dX5_valueOfFigures_30 fl_X5_11 rfl rfl ?_
        refine xw_iload_n dX5_valueOfFigures_33 rfl ?_
        refine xw_balN _ dX5_valueOfFigures_34 rfl (rfl) (h5.1.trans h8) rfl ?_ ?_
        · omega
        refine xw_iaddN dX5_valueOfFigures_35 ?_
        refine xw_bipush (v := 48) dX5_valueOfFigures_36 (by decide) ?_
        refine xw_isubN (b := 48) dX5_valueOfFigures_38 ?_ ?_
        · omega
        refine xw_istore_n dX5_valueOfFigures_39 rfl rfl ?_
        refine xw_iincN (v := 1) dX5_valueOfFigures_40 (by decide) rfl rfl rfl ?_
        refine xw_goto (tgt := 7) dX5_valueOfFigures_43 (by decide) ?_
        exact ih2
set_option maxRecDepth 20000 in
theorem s_X5_value {T : TX} {s e : Nat} (hT : TC M T) (hS : M.1 5 5 = nI s) (hE : M.1 5 6 = nI e) (hse : s ≤ e) (heb : e ≤ T.2) (hd : ∀ i, s ≤ i → i < e → 48 ≤ T.1 i ∧ T.1 i ≤ 57)  : XC g l mX5_valueOfFigures d [xr 5] M (XE (some (xi (nI (nuV T s (min 3 (e - s)))))) M) := by
  show XW g l mX5_valueOfFigures _ 0 [some (xr 5), none, none] [] M _
  refine xw_iconst (v := 0) dX5_valueOfFigures_0 (by decide) ?_
  refine xw_istore_n dX5_valueOfFigures_1 rfl rfl ?_
  refine xw_aload_n dX5_valueOfFigures_2 rfl ?_
  refine xw_getV dX5_valueOfFigures_3 fl_X5_32 rfl rfl (hS) ?_
  refine xw_istore_n dX5_valueOfFigures_6 rfl rfl ?_
  exact lp_X5_value hT hS hE hse heb hd (min 3 (e - s)) 0 (by omega)
set_option maxRecDepth 20000 in
theorem lp_X5_take {T : TX} {Q : Option XV → XM → Prop} (hT : TC M T) : ∀ (q p : Nat), p + q = T.2 → (XW g l mX5_takeToken d 60 [some (xr 5)] [] (xup M 5 5 (nI (skW T q p))) Q) → XW g l mX5_takeToken d 8 [some (xr 5)] [] (xup M 5 5 (nI p)) Q := by
  have h6 := hT.2.1
  have hB : ∀ x, (xup M 5 5 x).1 5 1 = nI T.2 := fun x => (xup_place _ _ (by decide)).trans hT.1
  have hS : ∀ x, (xup M 5 5 x).1 5 5 = x := fun x => xup_same _ _ _ _
  intro q
  induction q with
  | zero =>
    intro p hp K
    refine xw_aload_n dX5_takeToken_8 rfl ?_
    refine xw_getV dX5_takeToken_9 fl_X5_32 rfl rfl (hS _) ?_
    refine xw_aload_n dX5_takeToken_12 rfl ?_
    refine xw_getV dX5_takeToken_13 fl_X5_15 rfl rfl (hB _) ?_
    refine xw_icmp_geN (tgt := 60) dX5_takeToken_16 (by decide) (by omega) (fun c16 => ?_) (fun c16 => ?_)
    · exact K
    · exfalso; omega
  | succ q ih =>
    intro p hp K
    have h5 := (hT.2.2 p (by omega))
    have h7 : (xup M 5 5 (nI p)).1 6 p = sb (T.1 p) := (xup_cell _ _ (by decide)).trans h5.1
    have e32 := sb_eq (c := T.1 p) (k := 32) h5.2 (by decide)
    have e10 := sb_eq (c := T.1 p) (k := 10) h5.2 (by decide)
    rw [skW] at K
    refine xw_aload_n dX5_takeToken_8 rfl ?_
    refine xw_getV dX5_takeToken_9 fl_X5_32 rfl rfl (hS _) ?_
    refine xw_aload_n dX5_takeToken_12 rfl ?_
    refine xw_getV dX5_takeToken_13 fl_X5_15 rfl rfl (hB _) ?_
    refine xw_icmp_geN (tgt := 60) dX5_takeToken_16 (by decide) (by omega) (fun c16 => ?_) (fun c16 => ?_)
    · exfalso; omega
    · refine xw_aload_n dX5_takeToken_19 rfl ?_
      refine xw_getR dX5_takeToken_20 fl_X5_11 rfl rfl ?_
      refine xw_aload_n dX5_takeToken_23 rfl ?_
      refine xw_getV dX5_takeToken_24 fl_X5_32 rfl rfl (hS _) ?_
      refine xw_balN _ dX5_takeToken_27 rfl (rfl) (h7) rfl ?_ ?_
      · omega
      refine xw_bipush (v := 32) dX5_takeToken_28 (by decide) ?_
      refine xw_icmp_eq (tgt := 47) dX5_takeToken_30 (by decide) (fun c30 => ?_) (fun c30 => ?_)
      · refine xw_aload_n dX5_takeToken_47 rfl ?_
        refine xw_dup dX5_takeToken_48 rfl ?_
        refine xw_getV dX5_takeToken_49 fl_X5_32 rfl rfl (hS _) ?_
        refine xw_iconst (v := 1) dX5_takeToken_52 (by decide) ?_
        refine xw_iaddN (b := 1) dX5_takeToken_53 ?_
        refine xw_putI dX5_takeToken_54 fp_X5_32 rfl rfl ?_
        refine xw_goto (tgt := 8) dX5_takeToken_57 (by decide) ?_
        rw [xup2]
        first
        | (rw [if_pos (Or.inl (e32.mp c30))] at K; exact ih (p + 1) (by omega) K)
        | (rw [if_pos (Or.inr (e10.mp c44))] at K; exact ih (p + 1) (by omega) K)
        | (rw [if_pos (Or.inr (e10.mp (Classical.not_not.mp c44)))] at K; exact ih (p + 1) (by omega) K)
      · refine xw_aload_n dX5_takeToken_33 rfl ?_
        refine xw_getR dX5_takeToken_34 fl_X5_11 rfl rfl ?_
        refine xw_aload_n dX5_takeToken_37 rfl ?_
        refine xw_getV dX5_takeToken_38 fl_X5_32 rfl rfl (hS _) ?_
        refine xw_balN _ dX5_takeToken_41 rfl (rfl) (h7) rfl ?_ ?_
        · omega
        refine xw_bipush (v := 10) dX5_takeToken_42 (by decide) ?_
        refine xw_icmp_ne (tgt := 60) dX5_takeToken_44 (by decide) (fun c44 => ?_) (fun c44 => ?_)
        · rw [if_neg (fun z => z.elim (fun z => c30 (e32.mpr z)) (fun z => c44 (e10.mpr z)))] at K
          exact K
        · refine xw_aload_n dX5_takeToken_47 rfl ?_
          refine xw_dup dX5_takeToken_48 rfl ?_
          refine xw_getV dX5_takeToken_49 fl_X5_32 rfl rfl (hS _) ?_
          refine xw_iconst (v := 1) dX5_takeToken_52 (by decide) ?_
          refine xw_iaddN (b := 1) dX5_takeToken_53 ?_
          refine xw_putI dX5_takeToken_54 fp_X5_32 rfl rfl ?_
          refine xw_goto (tgt := 8) dX5_takeToken_57 (by decide) ?_
          rw [xup2]
          first
          | (rw [if_pos (Or.inl (e32.mp c30))] at K; exact ih (p + 1) (by omega) K)
          | (rw [if_pos (Or.inr (e10.mp c44))] at K; exact ih (p + 1) (by omega) K)
          | (rw [if_pos (Or.inr (e10.mp (Classical.not_not.mp c44)))] at K; exact ih (p + 1) (by omega) K)
set_option maxRecDepth 20000 in
theorem s_X5_takeToken {T : TX} {p : Nat} (hT : TC M T) (hE : M.1 5 6 = nI p) (hp : p ≤ T.2) : XC g l mX5_takeToken (d + 1) [xr 5] M (fun r M' => r = none ∧ Fr5 5 M M' ∧ Tk M' T p) := by
  have h6 := hT.2.1
  have hs := tkS_le hp
  have hB : ∀ x, (xup M 5 5 x).1 5 1 = nI T.2 := fun x => (xup_place _ _ (by decide)).trans hT.1
  have hF : ∀ x, Fr5 5 M (xup M 5 5 x) := fun x => (Fr5.rf 5 M).up (by decide)
  generalize hSd : tkS T p = s at hs
  have fin : ∀ M', Fr5 5 M M' → M'.1 5 5 = nI s → M'.1 5 6 = nI (enT T s) → M'.1 5 7 = nI (kdT T s) → (kdT T s = 2 → M'.1 5 8 = nI (nuV T s (min 3 (enT T s - s)))) → none = (none : Option XV) ∧ Fr5 5 M M' ∧ Tk M' T p := fun M' a1 a2 a3 a4 a5 => ⟨rfl, a1, by subst hSd; exact ⟨a2, a3, a4, a5, hp⟩⟩
  show XW g l mX5_takeToken _ 0 [some (xr 5)] [] M _
  refine xw_aload_n dX5_takeToken_0 rfl ?_
  refine xw_aload_n dX5_takeToken_1 rfl ?_
  refine xw_getV dX5_takeToken_2 fl_X5_35 rfl rfl (hE) ?_
  refine xw_putI dX5_takeToken_5 fp_X5_32 rfl rfl ?_
  refine lp_X5_take hT (T.2 - p) p (by omega) ?_
  have hSd : skW T (T.2 - p) p = s := hSd
  rw [hSd]
  refine xw_aload_n dX5_takeToken_60 rfl ?_
  refine xw_getV dX5_takeToken_61 fl_X5_32 rfl rfl (xup_same _ _ _ _) ?_
  refine xw_aload_n dX5_takeToken_64 rfl ?_
  refine xw_getV dX5_takeToken_65 fl_X5_15 rfl rfl (hB _) ?_
  refine xw_icmp_ltN (tgt := 85) dX5_takeToken_68 (by decide) (by omega) (fun c68 => ?_) (fun c68 => ?_)
  · have hb : ¬ s = T.2 := by omega
    have r1 := rnE_1 (T := T) (lo := 97) (hi := 122) (f := T.2 - s) (p := s) (by omega)
    have r2 := rnE_1 (T := T) (lo := 48) (hi := 57) (f := T.2 - s) (p := s) (by omega)
    have r3 := rnE_le T 97 122 (T.2 - s) s
    have r4 := rnE_le T 48 57 (T.2 - s) s
    refine xw_aload_n dX5_takeToken_85 rfl ?_
    refine xw_aload_n dX5_takeToken_86 rfl ?_
    refine xw_bipush (v := 97) dX5_takeToken_87 (by decide) ?_
    refine xw_bipush (v := 122) dX5_takeToken_89 (by decide) ?_
    refine xw_cV2E dX5_takeToken_91 okX5_endOfRun ml_X5_135 rfl rfl rfl rfl (s_X5_endOfRun (s := s) (lo := 97) (hi := 122) (hT.fr (hF _) (by decide)) (by decide) (by decide) (xup_same _ _ _ _) (by omega)) ?_
    refine xw_putI dX5_takeToken_94 fp_X5_35 rfl rfl ?_
    refine xw_aload_n dX5_takeToken_97 rfl ?_
    refine xw_getV dX5_takeToken_98 fl_X5_35 rfl rfl (xup_same _ _ _ _) ?_
    refine xw_aload_n dX5_takeToken_101 rfl ?_
    refine xw_getV dX5_takeToken_102 fl_X5_32 rfl rfl (show _ = nI s by simp [xup_at]) ?_
    refine xw_icmp_leN (tgt := 114) dX5_takeToken_105 (by decide) (by omega) (fun c105 => ?_) (fun c105 => ?_)
    · have hl : ¬ isLt T s := fun z => absurd (r1.mpr z) (by omega)
      refine xw_aload_n dX5_takeToken_114 rfl ?_
      refine xw_aload_n dX5_takeToken_115 rfl ?_
      refine xw_bipush (v := 48) dX5_takeToken_116 (by decide) ?_
      refine xw_bipush (v := 57) dX5_takeToken_118 (by decide) ?_
      refine xw_cV2E dX5_takeToken_120 okX5_endOfRun ml_X5_135 rfl rfl rfl rfl (s_X5_endOfRun (s := s) (lo := 48) (hi := 57) (hT.fr ((hF _).up (by decide)) (by decide)) (by decide) (by decide) (by simp [xup_at]) (by omega)) ?_
      refine xw_putI dX5_takeToken_123 fp_X5_35 rfl rfl ?_
      refine xw_aload_n dX5_takeToken_126 rfl ?_
      refine xw_getV dX5_takeToken_127 fl_X5_35 rfl rfl (show _ = nI (rnE T 48 57 (T.2 - s) s) by simp [xup_at]) ?_
      refine xw_aload_n dX5_takeToken_130 rfl ?_
      refine xw_getV dX5_takeToken_131 fl_X5_32 rfl rfl (show _ = nI s by simp [xup_at]) ?_
      refine xw_icmp_leN (tgt := 168) dX5_takeToken_134 (by decide) (by omega) (fun c134 => ?_) (fun c134 => ?_)
      · have hd : ¬ isDg T s := fun z => absurd (r2.mpr z) (by omega)
        have hen := enT_ot hb hl hd
        have hkd := kdT_ot hb hl hd
        have h5 := (hT.2.2 s (by omega))
        have e59 := sb_eq (c := T.1 s) (k := 59) h5.2 (by decide)
        refine xw_aload_n dX5_takeToken_168 rfl ?_
        refine xw_aload_n dX5_takeToken_169 rfl ?_
        refine xw_getR dX5_takeToken_170 fl_X5_11 rfl rfl ?_
        refine xw_aload_n dX5_takeToken_173 rfl ?_
        refine xw_getV dX5_takeToken_174 fl_X5_32 rfl rfl (show _ = nI s by simp [xup_at]) ?_
        refine xw_balN _ dX5_takeToken_177 rfl (rfl) ((by simp [xup_at]; exact h5.1)) rfl ?_ ?_
        · omega
        refine xw_bipush (v := 59) dX5_takeToken_178 (by decide) ?_
        refine xw_icmp_ne (tgt := 187) dX5_takeToken_180 (by decide) (fun c180 => ?_) (fun c180 => ?_)
        · refine xw_iconst (v := 4) dX5_takeToken_187 (by decide) ?_
          refine xw_putI dX5_takeToken_188 fp_X5_38 rfl rfl ?_
          refine xw_aload_n dX5_takeToken_191 rfl ?_
          refine xw_aload_n dX5_takeToken_192 rfl ?_
          refine xw_getV dX5_takeToken_193 fl_X5_32 rfl rfl (show _ = nI s by simp [xup_at]) ?_
          refine xw_iconst (v := 1) dX5_takeToken_196 (by decide) ?_
          refine xw_iaddN (b := 1) dX5_takeToken_197 ?_
          refine xw_putI dX5_takeToken_198 fp_X5_35 rfl rfl ?_
          refine xw_ret dX5_takeToken_201 rfl ?_
          refine fin _ ((((((hF _).up (by decide)).up (by decide)).up (by decide)).up (by decide))) (by simp [xup_at]) (by rw [hen]; simp [xup_at]) ?_ (fun z => ?_)
          · rw [hkd]
            first
            | (rw [if_pos (e59.mp c180)]; simp [xup_at]; rfl)
            | (rw [if_pos (e59.mp (Classical.not_not.mp c180))]; simp [xup_at]; rfl)
            | (rw [if_neg (fun z => c180 (e59.mpr z))]; simp [xup_at]; rfl)
          · rw [hkd] at z
            split at z <;> exact absurd z (by decide)
        · refine xw_iconst (v := 3) dX5_takeToken_183 (by decide) ?_
          refine xw_goto (tgt := 188) dX5_takeToken_184 (by decide) ?_
          refine xw_putI dX5_takeToken_188 fp_X5_38 rfl rfl ?_
          refine xw_aload_n dX5_takeToken_191 rfl ?_
          refine xw_aload_n dX5_takeToken_192 rfl ?_
          refine xw_getV dX5_takeToken_193 fl_X5_32 rfl rfl (show _ = nI s by simp [xup_at]) ?_
          refine xw_iconst (v := 1) dX5_takeToken_196 (by decide) ?_
          refine xw_iaddN (b := 1) dX5_takeToken_197 ?_
          refine xw_putI dX5_takeToken_198 fp_X5_35 rfl rfl ?_
          refine xw_ret dX5_takeToken_201 rfl ?_
          refine fin _ ((((((hF _).up (by decide)).up (by decide)).up (by decide)).up (by decide))) (by simp [xup_at]) (by rw [hen]; simp [xup_at]) ?_ (fun z => ?_)
          · rw [hkd]
            first
            | (rw [if_pos (e59.mp c180)]; simp [xup_at]; rfl)
            | (rw [if_pos (e59.mp (Classical.not_not.mp c180))]; simp [xup_at]; rfl)
            | (rw [if_neg (fun z => c180 (e59.mpr z))]; simp [xup_at]; rfl)
          · rw [hkd] at z
            split at z <;> exact absurd z (by decide)
      · have hd : isDg T s := r2.mp (by omega)
        have hen := enT_dg hb hl hd
        have hkd := kdT_dg hb hl hd
        rw [← hen] at r4 c134
        refine xw_aload_n dX5_takeToken_137 rfl ?_
        refine xw_aload_n dX5_takeToken_138 rfl ?_
        refine xw_getV dX5_takeToken_139 fl_X5_35 rfl rfl (show _ = nI (enT T s) by rw [hen]; simp [xup_at]) ?_
        refine xw_aload_n dX5_takeToken_142 rfl ?_
        refine xw_getV dX5_takeToken_143 fl_X5_32 rfl rfl (show _ = nI s by simp [xup_at]) ?_
        refine xw_isubN dX5_takeToken_146 ?_ ?_
        · omega
        refine xw_iconst (v := 3) dX5_takeToken_147 (by decide) ?_
        refine xw_icmp_gtN (b := 3) (tgt := 155) dX5_takeToken_148 (by decide) (by omega) (fun c148 => ?_) (fun c148 => ?_)
        · refine xw_iconst (v := 4) dX5_takeToken_155 (by decide) ?_
          refine xw_putI dX5_takeToken_156 fp_X5_38 rfl rfl ?_
          refine xw_aload_n dX5_takeToken_159 rfl ?_
          refine xw_aload_n dX5_takeToken_160 rfl ?_
          refine xw_cV0E dX5_takeToken_161 okX5_valueOfFigures ml_X5_139 rfl rfl rfl rfl (s_X5_value (s := s) (e := enT T s) (hT.fr ((((hF _).up (by decide)).up (by decide)).up (by decide)) (by decide)) (by simp [xup_at]) (by rw [hen]; simp [xup_at]) (by omega) (by omega) (fun i z1 z2 => rnE_run (T.2 - s) s z1 (by rw [← hen]; exact z2))) ?_
          refine xw_putI dX5_takeToken_164 fp_X5_41 rfl rfl ?_
          refine xw_ret dX5_takeToken_167 rfl ?_
          refine fin _ ((((((hF _).up (by decide)).up (by decide)).up (by decide)).up (by decide))) (by simp [xup_at]) (by rw [hen]; simp [xup_at]) ?_ (fun z => by simp [xup_at])
          rw [hkd]
          first
          | (rw [if_pos (by omega)]; simp [xup_at]; rfl)
          | (rw [if_neg (by omega)]; simp [xup_at]; rfl)
        · refine xw_iconst (v := 2) dX5_takeToken_151 (by decide) ?_
          refine xw_goto (tgt := 156) dX5_takeToken_152 (by decide) ?_
          refine xw_putI dX5_takeToken_156 fp_X5_38 rfl rfl ?_
          refine xw_aload_n dX5_takeToken_159 rfl ?_
          refine xw_aload_n dX5_takeToken_160 rfl ?_
          refine xw_cV0E dX5_takeToken_161 okX5_valueOfFigures ml_X5_139 rfl rfl rfl rfl (s_X5_value (s := s) (e := enT T s) (hT.fr ((((hF _).up (by decide)).up (by decide)).up (by decide)) (by decide)) (by simp [xup_at]) (by rw [hen]; simp [xup_at]) (by omega) (by omega) (fun i z1 z2 => rnE_run (T.2 - s) s z1 (by rw [← hen]; exact z2))) ?_
          refine xw_putI dX5_takeToken_164 fp_X5_41 rfl rfl ?_
          refine xw_ret dX5_takeToken_167 rfl ?_
          refine fin _ ((((((hF _).up (by decide)).up (by decide)).up (by decide)).up (by decide))) (by simp [xup_at]) (by rw [hen]; simp [xup_at]) ?_ (fun z => by simp [xup_at])
          rw [hkd]
          first
          | (rw [if_pos (by omega)]; simp [xup_at]; rfl)
          | (rw [if_neg (by omega)]; simp [xup_at]; rfl)
    · refine xw_aload_n dX5_takeToken_108 rfl ?_
      refine xw_iconst (v := 1) dX5_takeToken_109 (by decide) ?_
      refine xw_putI dX5_takeToken_110 fp_X5_38 rfl rfl ?_
      refine xw_ret dX5_takeToken_113 rfl ?_
      have hl : isLt T s := r1.mp (by omega)
      refine fin _ (((hF _).up (by decide)).up (by decide)) (by simp [xup_at]) (by rw [enT_lt hb hl]; simp [xup_at]) (by rw [kdT_lt hb hl]; simp [xup_at]; rfl) (fun z => ?_)
      rw [kdT_lt hb hl] at z; exact absurd z (by decide)
  · refine xw_aload_n dX5_takeToken_71 rfl ?_
    refine xw_iconst (v := 0) dX5_takeToken_72 (by decide) ?_
    refine xw_putI dX5_takeToken_73 fp_X5_38 rfl rfl ?_
    refine xw_aload_n dX5_takeToken_76 rfl ?_
    refine xw_aload_n dX5_takeToken_77 rfl ?_
    refine xw_getV dX5_takeToken_78 fl_X5_32 rfl rfl (show _ = nI s by simp [xup_at]) ?_
    refine xw_putI dX5_takeToken_81 fp_X5_35 rfl rfl ?_
    refine xw_ret dX5_takeToken_84 rfl ?_
    have hb : s = T.2 := by omega
    refine fin _ (((hF _).up (by decide)).up (by decide)) (by simp [xup_at]) (by rw [enT_end hb]; simp [xup_at]) (by rw [kdT_end hb]; simp [xup_at]; rfl) (fun z => ?_)
    rw [kdT_end hb] at z; exact absurd z (by decide)

set_option maxRecDepth 20000 in
theorem s_X5_failWith {n : Int32} : XC g l mX5_failWith d [xr 5, xi n] M (XE (some (xi 0)) (xup (xup M 5 3 n) 5 4 (M.1 5 5))) := by
  show XW g l mX5_failWith _ 0 [some (xr 5), some (xi n)] [] M _
  refine xw_aload_n dX5_failWith_0 rfl ?_
  refine xw_iload_n dX5_failWith_1 rfl ?_
  refine xw_putI dX5_failWith_2 fp_X5_26 rfl rfl ?_
  refine xw_aload_n dX5_failWith_5 rfl ?_
  refine xw_aload_n dX5_failWith_6 rfl ?_
  refine xw_getV dX5_failWith_7 fl_X5_32 rfl rfl (xup_place _ _ (by decide)) ?_
  refine xw_putI dX5_failWith_10 fp_X5_29 rfl rfl ?_
  refine xw_iconst (v := 0) dX5_failWith_13 (by decide) ?_
  refine xw_iretz dX5_failWith_14 rfl (Or.inl rfl) ?_
  exact ⟨rfl, rfl⟩
theorem FlC.of {M M1 : XM} {s n : Nat} (h : Fr5 3 M M1) (hS : M1.1 5 5 = nI s) : FlC M (xup (xup M1 5 3 (nI n)) 5 4 (M1.1 5 5)) n s := ⟨by simp [xup_at], by rw [hS]; simp [xup_at], (h.up (by decide)).up (by decide)⟩
set_option maxRecDepth 20000 in
theorem s_X5_takeNumber {T : TX} {p : Nat} (hT : TC M T) (hE : M.1 5 6 = nI p) (hp : p ≤ T.2) {lo hi : Nat} (hlo : lo ≤ 255) (hhi : hi ≤ 255) : XC g l mX5_takeNumber (d + 2) [xr 5, xi (nI lo), xi (nI hi)] M (fun r M' => (r = some (xi 1) ∧ ∃ v, nuP T lo hi p = .inr (v, tkE T p) ∧ M'.1 5 8 = nI v ∧ (lo ≤ v ∧ v ≤ hi) ∧ Fr5 5 M M' ∧ Tk M' T p) ∨ (r = some (xi 0) ∧ ∃ n s, nuP T lo hi p = .inl (n, s) ∧ FlC M M' n s)) := by
  show XW g l mX5_takeNumber _ 0 [some (xr 5), some (xi (nI lo)), some (xi (nI hi))] [] M _
  refine xw_aload_n dX5_takeNumber_0 rfl ?_
  refine xw_cV0Q dX5_takeNumber_1 okX5_takeToken ml_X5_47 rfl rfl rfl rfl (s_X5_takeToken hT hE hp) ?_
  rintro _ M1 ⟨rfl, hF, hk⟩
  have h9 : tkK T p ≤ 4 := kdT_le T (tkS T p)
  refine xw_aload_n dX5_takeNumber_4 rfl ?_
  refine xw_getV dX5_takeNumber_5 fl_X5_38 rfl rfl (hk.2.2.1) ?_
  refine xw_iconst (v := 2) dX5_takeNumber_8 (by decide) ?_
  refine xw_icmp_eqN (b := 2) (tgt := 18) dX5_takeNumber_9 (by decide) (by omega) (fun c9 => ?_) (fun c9 => ?_)
  · have hv := tkV_lt (T := T) (p := p) (by omega)
    have hk2 := hk.2.2.2.1 (by omega)
    refine xw_aload_n dX5_takeNumber_18 rfl ?_
    refine xw_getV dX5_takeNumber_19 fl_X5_41 rfl rfl (hk2) ?_
    refine xw_iload_n dX5_takeNumber_22 rfl ?_
    refine xw_icmp_ltN (tgt := 34) dX5_takeNumber_23 (by decide) (by omega) (fun c23 => ?_) (fun c23 => ?_)
    · refine xw_aload_n dX5_takeNumber_34 rfl ?_
      refine xw_iconst (v := 2) dX5_takeNumber_35 (by decide) ?_
      refine xw_cV1E dX5_takeNumber_36 okX5_failWith ml_X5_69 rfl rfl rfl rfl (s_X5_failWith) ?_
      refine xw_if_eq (tgt := 46) dX5_takeNumber_39 (by decide) (fun _ => ?_) (fun q9 => absurd q9 (by decide))
      refine xw_iconst (v := 0) dX5_takeNumber_46 (by decide) ?_
      refine xw_iretz dX5_takeNumber_47 rfl (Or.inl rfl) ?_
      first
      | exact Or.inl ⟨rfl, tkV T p, nuP_3 (by omega) ⟨by omega, by omega⟩, hk2, ⟨by omega, by omega⟩, hF, hk⟩
      | exact Or.inr ⟨rfl, 2, tkS T p, nuP_2 (by omega) (by omega), FlC.of (n := 2) (hF.lo (by decide)) hk.1⟩
    · refine xw_aload_n dX5_takeNumber_26 rfl ?_
      refine xw_getV dX5_takeNumber_27 fl_X5_41 rfl rfl (hk2) ?_
      refine xw_iload_n dX5_takeNumber_30 rfl ?_
      refine xw_icmp_leN (tgt := 42) dX5_takeNumber_31 (by decide) (by omega) (fun c31 => ?_) (fun c31 => ?_)
      · refine xw_iconst (v := 1) dX5_takeNumber_42 (by decide) ?_
        refine xw_goto (tgt := 47) dX5_takeNumber_43 (by decide) ?_
        refine xw_iretz dX5_takeNumber_47 rfl (Or.inr rfl) ?_
        first
        | exact Or.inl ⟨rfl, tkV T p, nuP_3 (by omega) ⟨by omega, by omega⟩, hk2, ⟨by omega, by omega⟩, hF, hk⟩
        | exact Or.inr ⟨rfl, 2, tkS T p, nuP_2 (by omega) (by omega), FlC.of (n := 2) (hF.lo (by decide)) hk.1⟩
      · refine xw_aload_n dX5_takeNumber_34 rfl ?_
        refine xw_iconst (v := 2) dX5_takeNumber_35 (by decide) ?_
        refine xw_cV1E dX5_takeNumber_36 okX5_failWith ml_X5_69 rfl rfl rfl rfl (s_X5_failWith) ?_
        refine xw_if_eq (tgt := 46) dX5_takeNumber_39 (by decide) (fun _ => ?_) (fun q9 => absurd q9 (by decide))
        refine xw_iconst (v := 0) dX5_takeNumber_46 (by decide) ?_
        refine xw_iretz dX5_takeNumber_47 rfl (Or.inl rfl) ?_
        first
        | exact Or.inl ⟨rfl, tkV T p, nuP_3 (by omega) ⟨by omega, by omega⟩, hk2, ⟨by omega, by omega⟩, hF, hk⟩
        | exact Or.inr ⟨rfl, 2, tkS T p, nuP_2 (by omega) (by omega), FlC.of (n := 2) (hF.lo (by decide)) hk.1⟩
  · refine xw_aload_n dX5_takeNumber_12 rfl ?_
    refine xw_iconst (v := 1) dX5_takeNumber_13 (by decide) ?_
    refine xw_cV1E dX5_takeNumber_14 okX5_failWith ml_X5_69 rfl rfl rfl rfl (s_X5_failWith) ?_
    refine xw_iretz dX5_takeNumber_17 rfl (Or.inl rfl) ?_
    exact Or.inr ⟨rfl, 1, tkS T p, nuP_1 (by omega), FlC.of (n := 1) (hF.lo (by decide)) hk.1⟩
set_option maxRecDepth 20000 in
theorem s_X5_takeSemicolon {T : TX} {p : Nat} (hT : TC M T) (hE : M.1 5 6 = nI p) (hp : p ≤ T.2)  : XC g l mX5_takeSemicolon (d + 2) [xr 5] M (fun r M' => (r = some (xi 1) ∧ ∃ q, seP T p = .inr q ∧ Fr5 5 M M' ∧ Tk M' T q) ∨ (r = some (xi 0) ∧ ∃ n s, seP T p = .inl (n, s) ∧ FlC M M' n s)) := by
  show XW g l mX5_takeSemicolon _ 0 [some (xr 5)] [] M _
  refine xw_aload_n dX5_takeSemicolon_0 rfl ?_
  refine xw_cV0Q dX5_takeSemicolon_1 okX5_takeToken ml_X5_47 rfl rfl rfl rfl (s_X5_takeToken hT hE hp) ?_
  rintro _ M1 ⟨rfl, hF, hk⟩
  have h9 : tkK T p ≤ 4 := kdT_le T (tkS T p)
  refine xw_aload_n dX5_takeSemicolon_4 rfl ?_
  refine xw_getV dX5_takeSemicolon_5 fl_X5_38 rfl rfl (hk.2.2.1) ?_
  refine xw_iconst (v := 3) dX5_takeSemicolon_8 (by decide) ?_
  refine xw_icmp_eqN (b := 3) (tgt := 18) dX5_takeSemicolon_9 (by decide) (by omega) (fun c9 => ?_) (fun c9 => ?_)
  · refine xw_aload_n dX5_takeSemicolon_18 rfl ?_
    refine xw_cV0Q dX5_takeSemicolon_19 okX5_takeToken ml_X5_47 rfl rfl rfl rfl (s_X5_takeToken (hT.fr hF (by decide)) hk.2.1 (tkE_le hp).2.1) ?_
    rintro _ M2 ⟨rfl, hF2, hk2⟩
    refine xw_iconst (v := 1) dX5_takeSemicolon_22 (by decide) ?_
    refine xw_iretz dX5_takeSemicolon_23 rfl (Or.inr rfl) ?_
    exact Or.inl ⟨rfl, tkE T p, seP_2 (by omega), hF.tr hF2, hk2⟩
  · refine xw_aload_n dX5_takeSemicolon_12 rfl ?_
    refine xw_iconst (v := 1) dX5_takeSemicolon_13 (by decide) ?_
    refine xw_cV1E dX5_takeSemicolon_14 okX5_failWith ml_X5_69 rfl rfl rfl rfl (s_X5_failWith) ?_
    refine xw_iretz dX5_takeSemicolon_17 rfl (Or.inl rfl) ?_
    exact Or.inr ⟨rfl, 1, tkS T p, seP_1 (by omega), FlC.of (n := 1) (hF.lo (by decide)) hk.1⟩
set_option maxRecDepth 20000 in
theorem s_X5_kindOfWord {T : TX} {p : Nat} (hT : TC M T) (hk : Tk M T p) : XC g l mX5_kindOfWord (d + 5) [xr 5] M (XE (some (xi (nI (knW T p)))) M) := by
  show XW g l mX5_kindOfWord _ 0 [some (xr 5)] [] M _
  refine xw_aload_n dX5_kindOfWord_0 rfl ?_
  refine xw_ldcS (i := 4) dX5_kindOfWord_1 rfl (by decide) rfl ?_
  refine xw_cV1B dX5_kindOfWord_3 okX5_isWord ml_X5_65 rfl rfl rfl rfl (s_X5_isWord (i := 4) (by decide) hT hk) (fun p3 => ?_) (fun p3 => ?_)
  · refine xw_if_eq (tgt := 11) dX5_kindOfWord_6 (by decide) (fun q9 => absurd q9 (by decide)) (fun _ => ?_)
    refine xw_iconst (v := 1) dX5_kindOfWord_9 (by decide) ?_
    refine xw_ireti dX5_kindOfWord_10 rfl ?_
    refine ⟨?_, rfl⟩
    unfold knW
    simp [decP_t, decP_f, *] <;> rfl
  · refine xw_if_eq (tgt := 11) dX5_kindOfWord_6 (by decide) (fun _ => ?_) (fun q9 => absurd q9 (by decide))
    refine xw_aload_n dX5_kindOfWord_11 rfl ?_
    refine xw_ldcS (i := 5) dX5_kindOfWord_12 rfl (by decide) rfl ?_
    refine xw_cV1B dX5_kindOfWord_14 okX5_isWord ml_X5_65 rfl rfl rfl rfl (s_X5_isWord (i := 5) (by decide) hT hk) (fun p14 => ?_) (fun p14 => ?_)
    · refine xw_if_eq (tgt := 22) dX5_kindOfWord_17 (by decide) (fun q9 => absurd q9 (by decide)) (fun _ => ?_)
      refine xw_iconst (v := 2) dX5_kindOfWord_20 (by decide) ?_
      refine xw_ireti dX5_kindOfWord_21 rfl ?_
      refine ⟨?_, rfl⟩
      unfold knW
      simp [decP_t, decP_f, *] <;> rfl
    · refine xw_if_eq (tgt := 22) dX5_kindOfWord_17 (by decide) (fun _ => ?_) (fun q9 => absurd q9 (by decide))
      refine xw_aload_n dX5_kindOfWord_22 rfl ?_
      refine xw_ldcS (i := 6) dX5_kindOfWord_23 rfl (by decide) rfl ?_
      refine xw_cV1B dX5_kindOfWord_25 okX5_isWord ml_X5_65 rfl rfl rfl rfl (s_X5_isWord (i := 6) (by decide) hT hk) (fun p25 => ?_) (fun p25 => ?_)
      · refine xw_if_eq (tgt := 33) dX5_kindOfWord_28 (by decide) (fun q9 => absurd q9 (by decide)) (fun _ => ?_)
        refine xw_iconst (v := 3) dX5_kindOfWord_31 (by decide) ?_
        refine xw_ireti dX5_kindOfWord_32 rfl ?_
        refine ⟨?_, rfl⟩
        unfold knW
        simp [decP_t, decP_f, *] <;> rfl
      · refine xw_if_eq (tgt := 33) dX5_kindOfWord_28 (by decide) (fun _ => ?_) (fun q9 => absurd q9 (by decide))
        refine xw_aload_n dX5_kindOfWord_33 rfl ?_
        refine xw_ldcS (i := 7) dX5_kindOfWord_34 rfl (by decide) rfl ?_
        refine xw_cV1B dX5_kindOfWord_36 okX5_isWord ml_X5_65 rfl rfl rfl rfl (s_X5_isWord (i := 7) (by decide) hT hk) (fun p36 => ?_) (fun p36 => ?_)
        · refine xw_if_eq (tgt := 44) dX5_kindOfWord_39 (by decide) (fun q9 => absurd q9 (by decide)) (fun _ => ?_)
          refine xw_iconst (v := 4) dX5_kindOfWord_42 (by decide) ?_
          refine xw_ireti dX5_kindOfWord_43 rfl ?_
          refine ⟨?_, rfl⟩
          unfold knW
          simp [decP_t, decP_f, *] <;> rfl
        · refine xw_if_eq (tgt := 44) dX5_kindOfWord_39 (by decide) (fun _ => ?_) (fun q9 => absurd q9 (by decide))
          refine xw_aload_n dX5_kindOfWord_44 rfl ?_
          refine xw_ldcS (i := 8) dX5_kindOfWord_45 rfl (by decide) rfl ?_
          refine xw_cV1B dX5_kindOfWord_47 okX5_isWord ml_X5_65 rfl rfl rfl rfl (s_X5_isWord (i := 8) (by decide) hT hk) (fun p47 => ?_) (fun p47 => ?_)
          · refine xw_if_eq (tgt := 57) dX5_kindOfWord_50 (by decide) (fun q9 => absurd q9 (by decide)) (fun _ => ?_)
            refine xw_iconst (v := 5) dX5_kindOfWord_53 (by decide) ?_
            refine xw_goto (tgt := 58) dX5_kindOfWord_54 (by decide) ?_
            refine xw_ireti dX5_kindOfWord_58 rfl ?_
            refine ⟨?_, rfl⟩
            unfold knW
            simp [decP_t, decP_f, *] <;> rfl
          · refine xw_if_eq (tgt := 57) dX5_kindOfWord_50 (by decide) (fun _ => ?_) (fun q9 => absurd q9 (by decide))
            refine xw_iconst (v := 0) dX5_kindOfWord_57 (by decide) ?_
            refine xw_ireti dX5_kindOfWord_58 rfl ?_
            refine ⟨?_, rfl⟩
            unfold knW
            simp [decP_t, decP_f, *] <;> rfl
end TOKC
