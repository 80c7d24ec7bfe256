section GUESSM
variable {g : XG} {l : Launch} {d : Nat} {M : XM}
def pbN (a : Nat) : Nat → Nat | 0 => 0 | k + 1 => pbN a k + (a / 2 ^ k &&& 1)
theorem pbN_8 {a : Nat} (h : a < 256) : pbN a 8 = popc a := by
  unfold popc
  simp only [pbN, and1]
  simp
  omega
theorem pbN_le (a : Nat) : ∀ k, pbN a k ≤ k | 0 => Nat.le_refl _ | k + 1 => by have := pbN_le a k; have : a / 2 ^ k &&& 1 ≤ 1 := Nat.and_le_right; unfold pbN; omega
set_option maxRecDepth 20000 in
theorem lp_X8_bits {a : Nat} (ha : a < 256) : ∀ (q k : Nat), k + q = 8 → XW g l mX8_bits d 4 [some (xi (nI a)), some (xi (nI (pbN a k))), some (xi (nI k))] [] M (XE (some (xi (nI (popc a)))) M) := by
  intro q
  induction q with
  | zero =>
    intro k hk
    have hk : k = 8 := by omega
    subst hk
    rw [pbN_8 ha]
    refine xw_iload_n dX8_bits_4 rfl ?_
    refine xw_bipush (v := 8) dX8_bits_5 (by decide) ?_
    refine xw_icmp_geN (b := 8) (tgt := 24) dX8_bits_7 (by decide) (by omega) (fun c7 => ?_) (fun c7 => ?_)
    · refine xw_iload_n dX8_bits_24 rfl ?_
      refine xw_ireti dX8_bits_25 rfl ?_
      first | exact ⟨rfl, rfl⟩ | exact ⟨by simp_all, rfl⟩ | grind [XE]
    · exfalso; omega
  | succ q ih =>
    intro k hk
    refine xw_iload_n dX8_bits_4 rfl ?_
    refine xw_bipush (v := 8) dX8_bits_5 (by decide) ?_
    refine xw_icmp_geN (b := 8) (tgt := 24) dX8_bits_7 (by decide) (by omega) (fun c7 => ?_) (fun c7 => ?_)
    · exfalso; omega
    · refine xw_iload_n dX8_bits_10 rfl ?_
      refine xw_iload_n dX8_bits_11 rfl ?_
      refine xw_iload_n dX8_bits_12 rfl ?_
      refine xw_ishrN dX8_bits_13 ?_ ?_ ?_
      · omega
      · omega
      refine xw_iconst (v := 1) dX8_bits_14 (by decide) ?_
      refine xw_iandN (b := 1) dX8_bits_15 ?_
      refine xw_iaddN dX8_bits_16 ?_
      refine xw_istore_n dX8_bits_17 rfl rfl ?_
      refine xw_iincN (v := 1) dX8_bits_18 (by decide) rfl rfl rfl ?_
      refine xw_goto (tgt := 4) dX8_bits_21 (by decide) ?_
      exact ih (k + 1) (by omega)
set_option maxRecDepth 20000 in
theorem s_X8_bits {a : Nat} (ha : a < 256) : XC g l mX8_bits d [xi (nI a)] M (XE (some (xi (nI (popc a)))) M) := by
  show XW g l mX8_bits _ 0 [some (xi (nI a)), none, none] [] M _
  refine xw_iconst (v := 0) dX8_bits_0 (by decide) ?_
  refine xw_istore_n dX8_bits_1 rfl rfl ?_
  refine xw_iconst (v := 0) dX8_bits_2 (by decide) ?_
  refine xw_istore_n dX8_bits_3 rfl rfl ?_
  exact lp_X8_bits ha 8 0 (by omega)
def FrG (M N : XM) : Prop := (∀ a b, a ≠ 59 → a ≠ 62 → N.1 a b = M.1 a b) ∧ N.2 = M.2
theorem FrG.tr59 {M N N2 : XM} (h : FrG M N) (h2 : Fr59 N N2) : FrG M N2 := ⟨fun a b q1 q2 => (h2.1 a b q1).trans (h.1 a b q1 q2), h2.2.trans h.2⟩
theorem FrG.up {M N : XM} (h : FrG M N) (k : Nat) (x : Int32) : FrG M (xup N 62 k x) := ⟨fun a b q1 q2 => (xup_cell _ _ q2).trans (h.1 a b q1 q2), h.2⟩
theorem FMS.frG {M N : XM} {D : FD} (h : FMS M 54 D) (hF : FrG M N) : FMS N 54 D := h.keep2 (fun b _ _ => hF.1 54 b (by decide) (by decide))
theorem XMP.frG {M N : XM} {P : Nat} (h : XMP M 54 P) (hF : FrG M N) : XMP N 54 P := fun k hk => (hF.1 54 _ (by decide) (by decide)).trans (h k hk)
/-- what guess() answers -/
noncomputable def gsV (p : Nat → Prop) (N n w : Nat) : Int32 := if ctF p N = 0 then -1000000 else if w = 0 then encF (ffF p fewF 0 N) else if w = 1 then nI (ffF p surF 255 N) else encF (bqV p N n).1
set_option maxRecDepth 20000 in
theorem lpq_X8_guess {a b n w : Nat} {p : Nat → Prop} (hn : n ≤ 8) (hw : w < 3) {N : XM} (hF : FrG M N) (hm : ¬ ctF p (1 * 2 ^ n) = 0) (hW : ∀ k, k < n → N.1 62 k = nI (ffF p (witF k) 0 (1 * 2 ^ n))) : ∀ (q k : Nat) (v12 : Option XV), k + q = n → XW g l mX8_guess (d + 4) 179 [some (xr 49), some (xi (nI a)), some (xi (nI n)), some (xi (nI b)), some (xi (nI w)), some (xi 0), some (xi (nI (ctF p (1 * 2 ^ n)))), some (xi (encF (ffF p fewF 0 (1 * 2 ^ n)))), some (xi (nI (ffF p surF 255 (1 * 2 ^ n)))), some (xi (encF (bqV p (1 * 2 ^ n) k).1)), some (xi (nI (bqV p (1 * 2 ^ n) k).2)), some (xi (nI k)), v12] [] N (fun r M' => r = some (xi (gsV p (1 * 2 ^ n) n w)) ∧ FrG M M') := by
  have h9 := p9 hn
  have hc := ctF_le p (1 * 2 ^ n)
  intro q
  induction q with
  | zero =>
    intro k v12 hk
    have hk : k = n := by omega
    subst hk
    refine xw_iload dX8_guess_179 rfl ?_
    refine xw_iload_n dX8_guess_181 rfl ?_
    refine xw_icmp_geN (tgt := 265) dX8_guess_182 (by decide) (by omega) (fun c182 => ?_) (fun c182 => ?_)
    · refine xw_iload dX8_guess_265 rfl ?_
      refine xw_if_neN (tgt := 275) dX8_guess_267 (by decide) (by omega) (fun c267 => ?_) (fun c267 => ?_)
      · refine xw_iload dX8_guess_275 rfl ?_
        refine xw_iconst (v := 1) dX8_guess_277 (by decide) ?_
        refine xw_icmp_neN (b := 1) (tgt := 286) dX8_guess_278 (by decide) (by omega) (fun c278 => ?_) (fun c278 => ?_)
        · refine xw_iload dX8_guess_286 rfl ?_
          refine xw_ireti dX8_guess_288 rfl ?_
          refine ⟨?_, hF⟩
          unfold gsV
          rw [if_neg hm]
          first
          | rw [if_pos (by omega)]
          | rw [if_neg (by omega), if_pos (by omega)]
          | rw [if_neg (by omega), if_neg (by omega)]
        · refine xw_iload dX8_guess_281 rfl ?_
          refine xw_goto (tgt := 288) dX8_guess_283 (by decide) ?_
          refine xw_ireti dX8_guess_288 rfl ?_
          refine ⟨?_, hF⟩
          unfold gsV
          rw [if_neg hm]
          first
          | rw [if_pos (by omega)]
          | rw [if_neg (by omega), if_pos (by omega)]
          | rw [if_neg (by omega), if_neg (by omega)]
      · refine xw_iload dX8_guess_270 rfl ?_
        refine xw_goto (tgt := 288) dX8_guess_272 (by decide) ?_
        refine xw_ireti dX8_guess_288 rfl ?_
        refine ⟨?_, hF⟩
        unfold gsV
        rw [if_neg hm]
        first
        | rw [if_pos (by omega)]
        | rw [if_neg (by omega), if_pos (by omega)]
        | rw [if_neg (by omega), if_neg (by omega)]
    · exfalso; omega
  | succ q ih =>
    intro k v12 hk
    have hwk := hW k (by omega)
    have hwl := witF_le p k (1 * 2 ^ n)
    have hb := bqF_le (fun k => ffF p (witF k) 0 (1 * 2 ^ n)) (ctF p (1 * 2 ^ n)) k
    have hb2 : (bqV p (1 * 2 ^ n) k).2 ≤ ctF p (1 * 2 ^ n) := hb.2
    have ih2 := fun u12 => ih (k + 1) u12 (by omega)
    have e9 : bqV p (1 * 2 ^ n) (k + 1) = if max (ffF p (witF k) 0 (1 * 2 ^ n)) (ctF p (1 * 2 ^ n) - ffF p (witF k) 0 (1 * 2 ^ n)) < (bqV p (1 * 2 ^ n) k).2 then (k + 1, max (ffF p (witF k) 0 (1 * 2 ^ n)) (ctF p (1 * 2 ^ n) - ffF p (witF k) 0 (1 * 2 ^ n))) else bqV p (1 * 2 ^ n) k := rfl
    rw [e9] at ih2
    refine xw_iload dX8_guess_179 rfl ?_
    refine xw_iload_n dX8_guess_181 rfl ?_
    refine xw_icmp_geN (tgt := 265) dX8_guess_182 (by decide) (by omega) (fun c182 => ?_) (fun c182 => ?_)
    · exfalso; omega
    · refine xw_aload_n dX8_guess_185 rfl ?_
      refine xw_getR dX8_guess_186 fl_X8_47 rfl rfl ?_
      refine xw_iload dX8_guess_189 rfl ?_
      refine xw_ialN _ dX8_guess_191 rfl (rfl) (hwk) rfl ?_ ?_
      · omega
      refine xw_iload dX8_guess_192 rfl ?_
      refine xw_aload_n dX8_guess_194 rfl ?_
      refine xw_getR dX8_guess_195 fl_X8_47 rfl rfl ?_
      refine xw_iload dX8_guess_198 rfl ?_
      refine xw_ialN _ dX8_guess_200 rfl (rfl) (hwk) rfl ?_ ?_
      · omega
      refine xw_isubN dX8_guess_201 ?_ ?_
      · omega
      refine xw_icmp_leN (tgt := 215) dX8_guess_202 (by decide) (by omega) (fun c202 => ?_) (fun c202 => ?_)
      · rw [show max (ffF p (witF k) 0 (1 * 2 ^ n)) (ctF p (1 * 2 ^ n) - ffF p (witF k) 0 (1 * 2 ^ n)) = ctF p (1 * 2 ^ n) - ffF p (witF k) 0 (1 * 2 ^ n) by omega] at ih2
        refine xw_iload dX8_guess_215 rfl ?_
        refine xw_aload_n dX8_guess_217 rfl ?_
        refine xw_getR dX8_guess_218 fl_X8_47 rfl rfl ?_
        refine xw_iload dX8_guess_221 rfl ?_
        refine xw_ialN _ dX8_guess_223 rfl (rfl) (hwk) rfl ?_ ?_
        · omega
        refine xw_isubN dX8_guess_224 ?_ ?_
        · omega
        refine xw_istore dX8_guess_225 rfl rfl ?_
        refine xw_iload dX8_guess_227 rfl ?_
        refine xw_iload dX8_guess_229 rfl ?_
        refine xw_icmp_geN (tgt := 239) dX8_guess_231 (by decide) (by omega) (fun c231 => ?_) (fun c231 => ?_)
        · refine xw_iload dX8_guess_239 rfl ?_
          refine xw_istore dX8_guess_241 rfl rfl ?_
          refine xw_iload dX8_guess_243 rfl ?_
          refine xw_iload dX8_guess_245 rfl ?_
          refine xw_icmp_geN (tgt := 255) dX8_guess_247 (by decide) (by omega) (fun c247 => ?_) (fun c247 => ?_)
          · refine xw_iload dX8_guess_255 rfl ?_
            refine xw_istore dX8_guess_257 rfl rfl ?_
            refine xw_iincN (v := 1) dX8_guess_259 (by decide) rfl rfl rfl ?_
            refine xw_goto (tgt := 179) dX8_guess_262 (by decide) ?_
            first
            | (exfalso; omega)
            | (rw [if_pos (by omega), show encF (k + 1) = nI k by unfold encF; rw [if_neg (by omega)]; rfl] at ih2
               exact ih2 _)
            | (rw [if_neg (by omega)] at ih2
               exact ih2 _)
          · refine xw_iload dX8_guess_250 rfl ?_
            refine xw_goto (tgt := 257) dX8_guess_252 (by decide) ?_
            refine xw_istore dX8_guess_257 rfl rfl ?_
            refine xw_iincN (v := 1) dX8_guess_259 (by decide) rfl rfl rfl ?_
            refine xw_goto (tgt := 179) dX8_guess_262 (by decide) ?_
            first
            | (exfalso; omega)
            | (rw [if_pos (by omega), show encF (k + 1) = nI k by unfold encF; rw [if_neg (by omega)]; rfl] at ih2
               exact ih2 _)
            | (rw [if_neg (by omega)] at ih2
               exact ih2 _)
        · refine xw_iload dX8_guess_234 rfl ?_
          refine xw_goto (tgt := 241) dX8_guess_236 (by decide) ?_
          refine xw_istore dX8_guess_241 rfl rfl ?_
          refine xw_iload dX8_guess_243 rfl ?_
          refine xw_iload dX8_guess_245 rfl ?_
          refine xw_icmp_geN (tgt := 255) dX8_guess_247 (by decide) (by omega) (fun c247 => ?_) (fun c247 => ?_)
          · refine xw_iload dX8_guess_255 rfl ?_
            refine xw_istore dX8_guess_257 rfl rfl ?_
            refine xw_iincN (v := 1) dX8_guess_259 (by decide) rfl rfl rfl ?_
            refine xw_goto (tgt := 179) dX8_guess_262 (by decide) ?_
            first
            | (exfalso; omega)
            | (rw [if_pos (by omega), show encF (k + 1) = nI k by unfold encF; rw [if_neg (by omega)]; rfl] at ih2
               exact ih2 _)
            | (rw [if_neg (by omega)] at ih2
               exact ih2 _)
          · refine xw_iload dX8_guess_250 rfl ?_
            refine xw_goto (tgt := 257) dX8_guess_252 (by decide) ?_
            refine xw_istore dX8_guess_257 rfl rfl ?_
            refine xw_iincN (v := 1) dX8_guess_259 (by decide) rfl rfl rfl ?_
            refine xw_goto (tgt := 179) dX8_guess_262 (by decide) ?_
            first
            | (exfalso; omega)
            | (rw [if_pos (by omega), show encF (k + 1) = nI k by unfold encF; rw [if_neg (by omega)]; rfl] at ih2
               exact ih2 _)
            | (rw [if_neg (by omega)] at ih2
               exact ih2 _)
      · rw [show max (ffF p (witF k) 0 (1 * 2 ^ n)) (ctF p (1 * 2 ^ n) - ffF p (witF k) 0 (1 * 2 ^ n)) = ffF p (witF k) 0 (1 * 2 ^ n) by omega] at ih2
        refine xw_aload_n dX8_guess_205 rfl ?_
        refine xw_getR dX8_guess_206 fl_X8_47 rfl rfl ?_
        refine xw_iload dX8_guess_209 rfl ?_
        refine xw_ialN _ dX8_guess_211 rfl (rfl) (hwk) rfl ?_ ?_
        · omega
        refine xw_goto (tgt := 225) dX8_guess_212 (by decide) ?_
        refine xw_istore dX8_guess_225 rfl rfl ?_
        refine xw_iload dX8_guess_227 rfl ?_
        refine xw_iload dX8_guess_229 rfl ?_
        refine xw_icmp_geN (tgt := 239) dX8_guess_231 (by decide) (by omega) (fun c231 => ?_) (fun c231 => ?_)
        · refine xw_iload dX8_guess_239 rfl ?_
          refine xw_istore dX8_guess_241 rfl rfl ?_
          refine xw_iload dX8_guess_243 rfl ?_
          refine xw_iload dX8_guess_245 rfl ?_
          refine xw_icmp_geN (tgt := 255) dX8_guess_247 (by decide) (by omega) (fun c247 => ?_) (fun c247 => ?_)
          · refine xw_iload dX8_guess_255 rfl ?_
            refine xw_istore dX8_guess_257 rfl rfl ?_
            refine xw_iincN (v := 1) dX8_guess_259 (by decide) rfl rfl rfl ?_
            refine xw_goto (tgt := 179) dX8_guess_262 (by decide) ?_
            first
            | (exfalso; omega)
            | (rw [if_pos (by omega), show encF (k + 1) = nI k by unfold encF; rw [if_neg (by omega)]; rfl] at ih2
               exact ih2 _)
            | (rw [if_neg (by omega)] at ih2
               exact ih2 _)
          · refine xw_iload dX8_guess_250 rfl ?_
            refine xw_goto (tgt := 257) dX8_guess_252 (by decide) ?_
            refine xw_istore dX8_guess_257 rfl rfl ?_
            refine xw_iincN (v := 1) dX8_guess_259 (by decide) rfl rfl rfl ?_
            refine xw_goto (tgt := 179) dX8_guess_262 (by decide) ?_
            first
            | (exfalso; omega)
            | (rw [if_pos (by omega), show encF (k + 1) = nI k by unfold encF; rw [if_neg (by omega)]; rfl] at ih2
               exact ih2 _)
            | (rw [if_neg (by omega)] at ih2
               exact ih2 _)
        · refine xw_iload dX8_guess_234 rfl ?_
          refine xw_goto (tgt := 241) dX8_guess_236 (by decide) ?_
          refine xw_istore dX8_guess_241 rfl rfl ?_
          refine xw_iload dX8_guess_243 rfl ?_
          refine xw_iload dX8_guess_245 rfl ?_
          refine xw_icmp_geN (tgt := 255) dX8_guess_247 (by decide) (by omega) (fun c247 => ?_) (fun c247 => ?_)
          · refine xw_iload dX8_guess_255 rfl ?_
            refine xw_istore dX8_guess_257 rfl rfl ?_
            refine xw_iincN (v := 1) dX8_guess_259 (by decide) rfl rfl rfl ?_
            refine xw_goto (tgt := 179) dX8_guess_262 (by decide) ?_
            first
            | (exfalso; omega)
            | (rw [if_pos (by omega), show encF (k + 1) = nI k by unfold encF; rw [if_neg (by omega)]; rfl] at ih2
               exact ih2 _)
            | (rw [if_neg (by omega)] at ih2
               exact ih2 _)
          · refine xw_iload dX8_guess_250 rfl ?_
            refine xw_goto (tgt := 257) dX8_guess_252 (by decide) ?_
            refine xw_istore dX8_guess_257 rfl rfl ?_
            refine xw_iincN (v := 1) dX8_guess_259 (by decide) rfl rfl rfl ?_
            refine xw_goto (tgt := 179) dX8_guess_262 (by decide) ?_
            first
            | (exfalso; omega)
            | (rw [if_pos (by omega), show encF (k + 1) = nI k by unfold encF; rw [if_neg (by omega)]; rfl] at ih2
               exact ih2 _)
            | (rw [if_neg (by omega)] at ih2
               exact ih2 _)
set_option maxRecDepth 20000 in
theorem lpw_X8_guess {a b n w s : Nat} {p : Nat → Prop} {few : Int32} {many sure : Nat} (hn : n ≤ 8) (hs : s < 256) (hps : p s) {v11 v12 : Option XV} {Q : Option XV → XM → Prop} (hk : ∀ (N : XM), FrG M N → (∀ k, k < n → N.1 62 k = nI (ffF p (witF k) 0 (s + 1))) → XW g l mX8_guess (d + 4) 63 [some (xr 49), some (xi (nI a)), some (xi (nI n)), some (xi (nI b)), some (xi (nI w)), some (xi 0), some (xi (nI many)), some (xi few), some (xi (nI sure)), some (xi (nI (s + 1))), some (xi (nI n)), v11, v12] [] N Q) : ∀ (q k : Nat) (N : XM), k + q = n → FrG M N → (∀ j, j < k → N.1 62 j = nI (ffF p (witF j) 0 (s + 1))) → (∀ j, k ≤ j → j < n → N.1 62 j = nI (ffF p (witF j) 0 s)) → XW g l mX8_guess (d + 4) 125 [some (xr 49), some (xi (nI a)), some (xi (nI n)), some (xi (nI b)), some (xi (nI w)), some (xi 0), some (xi (nI many)), some (xi few), some (xi (nI sure)), some (xi (nI s)), some (xi (nI k)), v11, v12] [] N Q := by
  intro q
  induction q with
  | zero =>
    intro k N hk2 hF h1 h2
    have hk2 : k = n := by omega
    subst hk2
    refine xw_iload dX8_guess_125 rfl ?_
    refine xw_iload_n dX8_guess_127 rfl ?_
    refine xw_icmp_geN (tgt := 154) dX8_guess_128 (by decide) (by omega) (fun c128 => ?_) (fun c128 => ?_)
    · refine xw_iincN (v := 1) dX8_guess_154 (by decide) rfl rfl rfl ?_
      refine xw_goto (tgt := 63) dX8_guess_157 (by decide) ?_
      exact hk N hF h1
    · exfalso; omega
  | succ q ih =>
    intro k N hk2 hF h1 h2
    have hwk := h2 k (Nat.le_refl _) (by omega)
    refine xw_iload dX8_guess_125 rfl ?_
    refine xw_iload_n dX8_guess_127 rfl ?_
    refine xw_icmp_geN (tgt := 154) dX8_guess_128 (by decide) (by omega) (fun c128 => ?_) (fun c128 => ?_)
    · exfalso; omega
    · refine xw_aload_n dX8_guess_131 rfl ?_
      refine xw_getR dX8_guess_132 fl_X8_47 rfl rfl ?_
      refine xw_iload dX8_guess_135 rfl ?_
      refine xw_dup2 dX8_guess_137 rfl rfl ?_
      refine xw_ialN _ dX8_guess_138 rfl (rfl) (hwk) rfl ?_ ?_
      · omega
      refine xw_iload dX8_guess_139 rfl ?_
      refine xw_iload dX8_guess_141 rfl ?_
      refine xw_ishrN dX8_guess_143 ?_ ?_ ?_
      · omega
      · omega
      refine xw_iconst (v := 1) dX8_guess_144 (by decide) ?_
      refine xw_iandN (b := 1) dX8_guess_145 ?_
      rw [and1]
      refine xw_iaddN dX8_guess_146 ?_
      refine xw_iasN _ dX8_guess_147 rfl (rfl) rfl ?_ ?_
      · omega
      refine xw_iincN (v := 1) dX8_guess_148 (by decide) rfl rfl rfl ?_
      refine xw_goto (tgt := 125) dX8_guess_151 (by decide) ?_
      refine ih (k + 1) _ (by omega) (hF.up _ _) (fun j hj => ?_) (fun j h3 h4 => ?_)
      · rw [xup_at]
        by_cases e : j = k
        · rw [if_pos ⟨rfl, e⟩, e, ffF_t hps, witF]
        · rw [if_neg (fun z => e z.2)]; exact h1 j (by omega)
      · rw [xup_at, if_neg (by omega)]; exact h2 j (by omega) h4
set_option maxRecDepth 20000 in
theorem lps_X8_guess {D : FD} {a b n PP w : Nat} {it : Nat → Nat} {v : Nat → Int32} {p : Nat → Prop} (hp : p = fitS D it PP n v) (hC : FMS M 54 D) (hX : XMP M 54 PP) (hP : PP < 2 ^ 24) (hg : GW D PP) (ha : a < 8) (hb : b < 8) (hn : n ≤ 8) (hw : w < 3) (hit : ∀ j, j < n → M.1 52 (40 * a + j) = nI (it j) ∧ it j < dn D) (hv : ∀ h, h < dn D → M.1 52 (40 * b + h) = v h)  : ∀ (q s : Nat) (N : XM) (v10 v11 v12 : Option XV), s + q = 1 * 2 ^ n → FrG M N → (∀ k, k < n → N.1 62 k = nI (ffF p (witF k) 0 s)) → XW g l mX8_guess (d + 4) 63 [some (xr 49), some (xi (nI a)), some (xi (nI n)), some (xi (nI b)), some (xi (nI w)), some (xi 0), some (xi (nI (ctF p s))), some (xi (encF (ffF p fewF 0 s))), some (xi (nI (ffF p surF 255 s))), some (xi (nI s)), v10, v11, v12] [] N (fun r M' => r = some (xi (gsV p (1 * 2 ^ n) n w)) ∧ FrG M M') := by
  have h9 := p9 hn
  intro q
  induction q with
  | zero =>
    intro s N v10 v11 v12 hs hF hW
    have hs : s = 1 * 2 ^ n := by omega
    subst hs
    have hc := ctF_le p (1 * 2 ^ n)
    refine xw_iload dX8_guess_63 rfl ?_
    refine xw_iconst (v := 1) dX8_guess_65 (by decide) ?_
    refine xw_iload_n dX8_guess_66 rfl ?_
    refine xw_ishlN (a := 1) dX8_guess_67 ?_ ?_ ?_
    · omega
    · omega
    refine xw_icmp_geN (tgt := 160) dX8_guess_68 (by decide) (by omega) (fun c68 => ?_) (fun c68 => ?_)
    · refine xw_iload dX8_guess_160 rfl ?_
      refine xw_if_neN (tgt := 168) dX8_guess_162 (by decide) (by omega) (fun c162 => ?_) (fun c162 => ?_)
      · refine xw_ldc dX8_guess_168 kc_X8_50 ?_
        refine xw_istore dX8_guess_170 rfl rfl ?_
        refine xw_iload dX8_guess_172 rfl ?_
        refine xw_istore dX8_guess_174 rfl rfl ?_
        refine xw_iconst (v := 0) dX8_guess_176 (by decide) ?_
        refine xw_istore dX8_guess_177 rfl rfl ?_
        exact lpq_X8_guess hn hw hF c162 hW n 0 _ (by omega)
      · refine xw_ldc dX8_guess_165 kc_X8_50 ?_
        refine xw_ireti dX8_guess_167 rfl ?_
        exact ⟨by unfold gsV; rw [if_pos c162], hF⟩
    · exfalso; omega
  | succ q ih =>
    intro s N v10 v11 v12 hs hF hW
    have hso := m_isSo (g := g) (l := l) (d := d) (set := s) (hC.frG hF) (hX.frG hF) hP hg ha hb hn (by omega) (fun j hj => ⟨(hF.1 52 _ (by decide) (by decide)).trans (hit j hj).1, (hit j hj).2⟩) (fun h hh => (hF.1 52 _ (by decide) (by decide)).trans (hv h hh))
    rw [← hp] at hso
    refine xw_iload dX8_guess_63 rfl ?_
    refine xw_iconst (v := 1) dX8_guess_65 (by decide) ?_
    refine xw_iload_n dX8_guess_66 rfl ?_
    refine xw_ishlN (a := 1) dX8_guess_67 ?_ ?_ ?_
    · omega
    · omega
    refine xw_icmp_geN (tgt := 160) dX8_guess_68 (by decide) (by omega) (fun c68 => ?_) (fun c68 => ?_)
    · exfalso; omega
    · refine xw_aload_n dX8_guess_71 rfl ?_
      refine xw_iload_n dX8_guess_72 rfl ?_
      refine xw_iload_n dX8_guess_73 rfl ?_
      refine xw_iload_n dX8_guess_74 rfl ?_
      refine xw_iload dX8_guess_75 rfl ?_
      refine xw_cV4Q dX8_guess_77 okX8_isSo ml_X8_229 rfl rfl rfl rfl (hso) ?_
      rintro _ N2 ⟨hz, hF2⟩
      rcases hz with ⟨hz, rfl⟩ | ⟨hz, rfl⟩
      · have e9 := ctF_t hz
        have ih2 := fun N3 u10 u11 u12 h1 h2 => ih (s + 1) N3 u10 u11 u12 (by omega) h1 h2
        rw [e9, ffF_t hz, ffF_t hz, fewF, surF] at ih2
        have hb := fewF_le p s
        have en := encF_none (b := ffF p fewF 0 s) (by omega)
        have hF3 := hF.tr59 hF2
        have hW3 : ∀ k, k < n → N2.1 62 k = nI (ffF p (witF k) 0 s) := fun k hk => (hF2.1 62 k (by decide)).trans (hW k hk)
        have hcc := ctF_le p s
        refine xw_if_eq (tgt := 154) dX8_guess_80 (by decide) (fun q9 => absurd q9 (by decide)) (fun _ => ?_)
        refine xw_iincN (v := 1) dX8_guess_83 (by decide) rfl rfl rfl ?_
        refine xw_iload dX8_guess_86 rfl ?_
        refine xw_ldc dX8_guess_88 kc_X8_50 ?_
        refine xw_icmp_eq (tgt := 106) dX8_guess_90 (by decide) (fun c90 => ?_) (fun c90 => ?_)
        · rw [if_pos (Or.inl (en.mp c90)), show encF (s + 1) = nI s by unfold encF; rw [if_neg (by omega)]; rfl] at ih2
          refine xw_iload dX8_guess_106 rfl ?_
          refine xw_goto (tgt := 113) dX8_guess_108 (by decide) ?_
          refine xw_istore dX8_guess_113 rfl rfl ?_
          refine xw_iload dX8_guess_115 rfl ?_
          refine xw_iload dX8_guess_117 rfl ?_
          refine xw_iandN dX8_guess_119 ?_
          refine xw_istore dX8_guess_120 rfl rfl ?_
          refine xw_iconst (v := 0) dX8_guess_122 (by decide) ?_
          refine xw_istore dX8_guess_123 rfl rfl ?_
          refine lpw_X8_guess (M := M) hn (by omega) hz (fun N3 h1 h2 => ?_) n 0 N2 (by omega) hF3 (fun _ z => absurd z (by omega)) (fun j _ h4 => hW3 j h4)
          exact ih2 _ _ _ _ h1 h2
        · have e8 : ¬ ffF p fewF 0 s = 0 := fun z => c90 (en.mpr z)
          have e7 : encF (ffF p fewF 0 s) = nI (ffF p fewF 0 s - 1) := by unfold encF; rw [if_neg e8]
          rw [e7]
          refine xw_iload dX8_guess_93 rfl ?_
          refine xw_cS1E dX8_guess_95 okX8_bits ml_X8_233 rfl rfl (s_X8_bits (by omega)) ?_
          refine xw_iload dX8_guess_98 rfl ?_
          refine xw_cS1E dX8_guess_100 okX8_bits ml_X8_233 rfl rfl (s_X8_bits (by omega)) ?_
          refine xw_icmp_geN (tgt := 111) dX8_guess_103 (by decide) (by have h1 := popc_le s; have h2 := popc_le (ffF p fewF 0 s - 1); omega) (fun c103 => ?_) (fun c103 => ?_)
          · rw [if_neg (by omega), e7] at ih2
            refine xw_iload dX8_guess_111 rfl ?_
            refine xw_istore dX8_guess_113 rfl rfl ?_
            refine xw_iload dX8_guess_115 rfl ?_
            refine xw_iload dX8_guess_117 rfl ?_
            refine xw_iandN dX8_guess_119 ?_
            refine xw_istore dX8_guess_120 rfl rfl ?_
            refine xw_iconst (v := 0) dX8_guess_122 (by decide) ?_
            refine xw_istore dX8_guess_123 rfl rfl ?_
            refine lpw_X8_guess (M := M) hn (by omega) hz (fun N3 h1 h2 => ?_) n 0 N2 (by omega) hF3 (fun _ z => absurd z (by omega)) (fun j _ h4 => hW3 j h4)
            exact ih2 _ _ _ _ h1 h2
          · rw [if_pos (Or.inr (by omega)), show encF (s + 1) = nI s by unfold encF; rw [if_neg (by omega)]; rfl] at ih2
            refine xw_iload dX8_guess_106 rfl ?_
            refine xw_goto (tgt := 113) dX8_guess_108 (by decide) ?_
            refine xw_istore dX8_guess_113 rfl rfl ?_
            refine xw_iload dX8_guess_115 rfl ?_
            refine xw_iload dX8_guess_117 rfl ?_
            refine xw_iandN dX8_guess_119 ?_
            refine xw_istore dX8_guess_120 rfl rfl ?_
            refine xw_iconst (v := 0) dX8_guess_122 (by decide) ?_
            refine xw_istore dX8_guess_123 rfl rfl ?_
            refine lpw_X8_guess (M := M) hn (by omega) hz (fun N3 h1 h2 => ?_) n 0 N2 (by omega) hF3 (fun _ z => absurd z (by omega)) (fun j _ h4 => hW3 j h4)
            exact ih2 _ _ _ _ h1 h2
      have e9 := ctF_f hz
      have ih2 := fun N3 u10 u11 u12 h1 h2 => ih (s + 1) N3 u10 u11 u12 (by omega) h1 h2
      rw [e9, ffF_f hz, ffF_f hz] at ih2
      refine xw_if_eq (tgt := 154) dX8_guess_80 (by decide) (fun _ => ?_) (fun q9 => absurd rfl q9)
      refine xw_iincN (v := 1) dX8_guess_154 (by decide) rfl rfl rfl ?_
      refine xw_goto (tgt := 63) dX8_guess_157 (by decide) ?_
      exact ih2 N2 _ _ _ (hF.tr59 hF2) (fun k hk => by rw [ffF_f hz]; exact (hF2.1 62 k (by decide)).trans (hW k hk))
set_option maxRecDepth 20000 in
theorem lpz_X8_guess {D : FD} {a b n PP w : Nat} {it : Nat → Nat} {v : Nat → Int32} {p : Nat → Prop} (hp : p = fitS D it PP n v) (hC : FMS M 54 D) (hX : XMP M 54 PP) (hP : PP < 2 ^ 24) (hg : GW D PP) (ha : a < 8) (hb : b < 8) (hn : n ≤ 8) (hw : w < 3) (hit : ∀ j, j < n → M.1 52 (40 * a + j) = nI (it j) ∧ it j < dn D) (hv : ∀ h, h < dn D → M.1 52 (40 * b + h) = v h)  : ∀ (q k : Nat) (N : XM), k + q = 8 → FrG M N → (∀ j, j < k → N.1 62 j = 0) → XW g l mX8_guess (d + 4) 39 [some (xr 49), some (xi (nI a)), some (xi (nI n)), some (xi (nI b)), some (xi (nI w)), some (xi 0), some (xi 0), some (xi (-1000000)), some (xi 255), some (xi (nI k)), none, none, none] [] N (fun r M' => r = some (xi (gsV p (1 * 2 ^ n) n w)) ∧ FrG M M') := by
  intro q
  induction q with
  | zero =>
    intro k N hk hF h0
    refine xw_iload dX8_guess_39 rfl ?_
    refine xw_bipush (v := 8) dX8_guess_41 (by decide) ?_
    refine xw_icmp_geN (b := 8) (tgt := 60) dX8_guess_43 (by decide) (by omega) (fun c43 => ?_) (fun c43 => ?_)
    · refine xw_iconst (v := 0) dX8_guess_60 (by decide) ?_
      refine xw_istore dX8_guess_61 rfl rfl ?_
      exact lps_X8_guess hp hC hX hP hg ha hb hn hw hit hv (1 * 2 ^ n) 0 N none none none (by omega) hF (fun j hj => h0 j (by omega))
    · exfalso; omega
  | succ q ih =>
    intro k N hk hF h0
    refine xw_iload dX8_guess_39 rfl ?_
    refine xw_bipush (v := 8) dX8_guess_41 (by decide) ?_
    refine xw_icmp_geN (b := 8) (tgt := 60) dX8_guess_43 (by decide) (by omega) (fun c43 => ?_) (fun c43 => ?_)
    · exfalso; omega
    · refine xw_aload_n dX8_guess_46 rfl ?_
      refine xw_getR dX8_guess_47 fl_X8_47 rfl rfl ?_
      refine xw_iload dX8_guess_50 rfl ?_
      refine xw_iconst (v := 0) dX8_guess_52 (by decide) ?_
      refine xw_iasN _ dX8_guess_53 rfl (rfl) rfl ?_ ?_
      · omega
      refine xw_iincN (v := 1) dX8_guess_54 (by decide) rfl rfl rfl ?_
      refine xw_goto (tgt := 39) dX8_guess_57 (by decide) ?_
      refine ih (k + 1) _ (by omega) (hF.up _ _) (fun j hj => ?_)
      rw [xup_at]
      by_cases e : j = k
      · rw [if_pos ⟨rfl, e⟩]
      · rw [if_neg (fun z => e z.2)]; exact h0 j (by omega)
set_option maxRecDepth 20000 in
theorem m_guess {D : FD} {PP w : Nat} {it : Nat → Nat} {v : Nat → Int32} {a b n s t : Nat} (h : ¬ M.1 54 0 = 0) (ha : a < 8) (hb : b < 8) (hn : 1 ≤ n ∧ n ≤ 8) (h0 : ¬ M.1 50 a = -1000000) (h1 : ¬ M.1 50 b = -1000000) (hs : M.1 51 a = nI s) (ht : M.1 51 b = nI t) (hs2 : s ≤ 40) (ht2 : t ≤ 40) (hC : FMS M 54 D) (hp : n ≤ s ∧ dn D ≤ t) (hw : w < 3) (hX : XMP M 54 PP) (hP : PP < 2 ^ 24) (hg : GW D PP) (hit : ∀ j, j < n → M.1 52 (40 * a + j) = nI (it j) ∧ it j < dn D) (hv : ∀ h, h < dn D → M.1 52 (40 * b + h) = v h)  : XC g l mX8_guess (d + 4) [xr 49, xi (nI a), xi (nI n), xi (nI b), xi (nI w)] M (fun r M' => r = some (xi (gsV (fitS D it PP n v) (1 * 2 ^ n) n w)) ∧ FrG (xup M 49 3 0) M') := by
  have hn6 := hC.1
  have hx : ∀ j, j < n → okHs D (M.1 52 (40 * a + j)) := fun j hj => by rw [(hit j hj).1]; exact nI_in0 (by omega) (hit j hj).2
  have hC2 : FMS (xup M 49 3 0) 54 D := hC.keep2 (fun b _ _ => xup_cell _ _ (by decide))
  have hX2 : XMP (xup M 49 3 0) 54 PP := fun k hk => (xup_cell _ _ (by decide)).trans (hX k hk)
  have ew : (0 : Int32) ≤ nI w ∧ nI w ≤ 2 := ⟨nI_pos' (by omega), nI_le (b := 2) (by omega) (by decide)⟩
  show XW g l mX8_guess _ 0 [some (xr 49), some (xi (nI a)), some (xi (nI n)), some (xi (nI b)), some (xi (nI w)), none, none, none, none, none, none, none, none] [] M _
  refine xw_aload_n dX8_guess_0 rfl ?_
  refine xw_iload_n dX8_guess_1 rfl ?_
  refine xw_iload_n dX8_guess_2 rfl ?_
  refine xw_iload_n dX8_guess_3 rfl ?_
  refine xw_iload dX8_guess_4 rfl ?_
  refine xw_iconst (v := 0) dX8_guess_6 (by decide) ?_
  refine xw_iconst (v := 2) dX8_guess_7 (by decide) ?_
  refine xw_cS3B dX8_guess_8 okX8_in ml_X8_56 rfl rfl (s_X8_in _ _ _) (fun p8 => ?_) (fun p8 => ?_)
  · refine xw_cV4E dX8_guess_11 okX8_whyNot ml_X8_225 rfl rfl rfl rfl (wn_ok h ha hb hn h0 h1 hs ht hs2 ht2 hC hp hx) ?_
    refine xw_istore dX8_guess_14 rfl rfl ?_
    refine xw_iload dX8_guess_16 rfl ?_
    refine xw_if_eq (tgt := 24) dX8_guess_18 (by decide) (fun c18 => ?_) (fun c18 => ?_)
    · refine xw_iconst (v := 0) dX8_guess_24 (by decide) ?_
      refine xw_istore dX8_guess_25 rfl rfl ?_
      refine xw_ldc dX8_guess_27 kc_X8_50 ?_
      refine xw_istore dX8_guess_29 rfl rfl ?_
      refine xw_sipush (v := 255) dX8_guess_31 (by decide) ?_
      refine xw_istore dX8_guess_34 rfl rfl ?_
      refine xw_iconst (v := 0) dX8_guess_36 (by decide) ?_
      refine xw_istore dX8_guess_37 rfl rfl ?_
      exact lpz_X8_guess (M := xup M 49 3 0) rfl hC2 hX2 hP hg ha hb (by omega) hw (fun j hj => ⟨(xup_cell _ _ (by decide)).trans (hit j hj).1, (hit j hj).2⟩) (fun h hh => (xup_cell _ _ (by decide)).trans (hv h hh)) 8 0 _ (by omega) ⟨fun _ _ _ _ => rfl, rfl⟩ (fun _ z => absurd z (by omega))
    · exfalso; first | contradiction | exact absurd rfl (by assumption) | grind
  · exfalso; first | contradiction | exact absurd rfl (by assumption) | grind
theorem gs_0 {p : Nat → Prop} {N n : Nat} : encF (ffF p fewF 0 N) = gsV p N n 0 := by
  unfold gsV
  by_cases h : ctF p N = 0
  · rw [if_pos h, ffF_ct (s := N) (t := 0) h]; rfl
  · rw [if_neg h, if_pos rfl]
theorem gs_1 {p : Nat → Prop} {N n : Nat} : surV p N = gsV p N n 1 := by
  unfold gsV surV
  by_cases h : ctF p N = 0
  · rw [if_pos h, if_pos h]
  · rw [if_neg h, if_neg h]; rfl
theorem gs_2 {p : Nat → Prop} {N n : Nat} : encF (bqV p N n).1 = gsV p N n 2 := by
  unfold gsV
  by_cases h : ctF p N = 0
  · rw [if_pos h]; unfold bqV; rw [h, bqF_0]; rfl
  · rw [if_neg h]; rfl
end GUESSM
