section HOUSEM
variable {g : XG} {l : Launch} {d : Nat} {M : XM}
theorem ixh {a : Int32} {n : Nat} (k : Nat) (h : a = nI (10 + 6 * k)) : a + nI n = nI (10 + 6 * k + n) := by rw [h, nI_add]
theorem hAt_same {D : FD} {P P2 : Nat} (h : ∀ j, j < dn D → px P2 j = px P j) (x : Int32) (y : Nat) : hAt D P2 x y < dn D ↔ hAt D P x y < dn D := by
  have key : ∀ A B : Nat, (∀ j, j < dn D → px A j = px B j) → hAt D A x y < dn D → hAt D B x y < dn D := fun A B hAB h1 => by
    have h2 := hAt_in h1
    by_cases h3 : hAt D B x y < dn D
    · exact h3
    · exfalso
      have h4 := hAt_le D B y x
      refine hAt_no (D := D) (P := B) (x := x) (y := y) (j := hAt D A x y) (by omega) ?_
      unfold inH at h2 ⊢
      rw [← hAB _ h1]
      exact h2
  exact ⟨key P2 P h, key P P2 (fun j hj => (h j hj).symm)⟩
set_option maxRecDepth 20000 in
theorem lp2_X8_room {D : FD} {PP P2 kd x y w h : Nat} {Q : Option XV → XM → Prop} (hC : FMS M 55 D) (hX : XMP M 55 P2) (hs : ∀ j, j < dn D → px P2 j = px PP j) (hn : dn D < 6) (hvx : M.1 55 (10 + dn D) = nI x) (hvy : M.1 55 (16 + dn D) = nI y) (hvw : M.1 55 (22 + dn D) = nI w) (hvh : M.1 55 (28 + dn D) = nI h) (hx : x < 16) (hy : y < 8) (hw : 1 ≤ w ∧ w ≤ 4) (hh : 1 ≤ h ∧ h ≤ 3) (K2 : ∀ l3 l4, ¬ roomP D PP x y w h → XW g l mX8_isHouse (d + 3) 300 [some (xr 49), some (xi (nI (dn D))), some (xi (nI kd)), l3, l4] [] M Q) {u : Nat} (hu : x ≤ u ∧ u < x + w) (KY : ∀ l4, (∀ v2, y ≤ v2 → v2 < y + h → (u ≤ 15 ∧ v2 ≤ 7 ∧ ¬ wallAt D u v2 ∧ ¬ hAt D PP (nI u) v2 < dn D)) → XW g l mX8_isHouse (d + 3) 312 [some (xr 49), some (xi (nI (dn D))), some (xi (nI kd)), some (xi (nI u)), l4] [] M Q) : ∀ (q v : Nat), v + q = y + h → y ≤ v → (∀ v2, y ≤ v2 → v2 < v → (u ≤ 15 ∧ v2 ≤ 7 ∧ ¬ wallAt D u v2 ∧ ¬ hAt D PP (nI u) v2 < dn D)) → XW g l mX8_isHouse (d + 3) 235 [some (xr 49), some (xi (nI (dn D))), some (xi (nI kd)), some (xi (nI u)), some (xi (nI v))] [] M Q := by
  have hn6 := hC.1
  intro q
  induction q with
  | zero =>
    intro v hv hyv hno
    refine xw_iload dX8_isHouse_235 rfl ?_
    refine xw_aload_n dX8_isHouse_237 rfl ?_
    refine xw_getR dX8_isHouse_238 fl_X8_25 rfl rfl ?_
    refine xw_bipush (v := 16) dX8_isHouse_241 (by decide) ?_
    refine xw_iload_n dX8_isHouse_243 rfl ?_
    refine xw_iaddN (a := 16) dX8_isHouse_244 ?_
    refine xw_ialN _ dX8_isHouse_245 rfl (rfl) (hvy) rfl ?_ ?_
    · omega
    refine xw_aload_n dX8_isHouse_246 rfl ?_
    refine xw_getR dX8_isHouse_247 fl_X8_25 rfl rfl ?_
    refine xw_bipush (v := 28) dX8_isHouse_250 (by decide) ?_
    refine xw_iload_n dX8_isHouse_252 rfl ?_
    refine xw_iaddN (a := 28) dX8_isHouse_253 ?_
    refine xw_ialN _ dX8_isHouse_254 rfl (rfl) (hvh) rfl ?_ ?_
    · omega
    refine xw_iaddN dX8_isHouse_255 ?_
    refine xw_icmp_geN (tgt := 312) dX8_isHouse_256 (by decide) (by omega) (fun c256 => ?_) (fun c256 => ?_)
    · exact KY _ (fun v2 z1 z2 => hno v2 z1 (by omega))
    · exfalso; omega
  | succ q ih =>
    intro v hv hyv hno
    have hsm := hAt_same hs (nI u) v
    have hng := hW2_none (D := D) (P := P2) (x := nI u) (y := v) hn6
    refine xw_iload dX8_isHouse_235 rfl ?_
    refine xw_aload_n dX8_isHouse_237 rfl ?_
    refine xw_getR dX8_isHouse_238 fl_X8_25 rfl rfl ?_
    refine xw_bipush (v := 16) dX8_isHouse_241 (by decide) ?_
    refine xw_iload_n dX8_isHouse_243 rfl ?_
    refine xw_iaddN (a := 16) dX8_isHouse_244 ?_
    refine xw_ialN _ dX8_isHouse_245 rfl (rfl) (hvy) rfl ?_ ?_
    · omega
    refine xw_aload_n dX8_isHouse_246 rfl ?_
    refine xw_getR dX8_isHouse_247 fl_X8_25 rfl rfl ?_
    refine xw_bipush (v := 28) dX8_isHouse_250 (by decide) ?_
    refine xw_iload_n dX8_isHouse_252 rfl ?_
    refine xw_iaddN (a := 28) dX8_isHouse_253 ?_
    refine xw_ialN _ dX8_isHouse_254 rfl (rfl) (hvh) rfl ?_ ?_
    · omega
    refine xw_iaddN dX8_isHouse_255 ?_
    refine xw_icmp_geN (tgt := 312) dX8_isHouse_256 (by decide) (by omega) (fun c256 => ?_) (fun c256 => ?_)
    · exfalso; omega
    · refine xw_iload_n dX8_isHouse_259 rfl ?_
      refine xw_bipush (v := 15) dX8_isHouse_260 (by decide) ?_
      refine xw_icmp_gtN (b := 15) (tgt := 300) dX8_isHouse_262 (by decide) (by omega) (fun c262 => ?_) (fun c262 => ?_)
      · first
        | exact K2 _ _ (fun z => by have := z.1; omega)
        | exact K2 _ _ (fun z => by have := z.2.1; omega)
        | exact K2 _ _ (fun z => absurd (by assumption) (z.2.2 u v hu.1 hu.2 hyv (by omega)).1)
        | exact K2 _ _ (fun z => absurd (hng.mpr (fun z2 => (z.2.2 u v hu.1 hu.2 hyv (by omega)).2 (hsm.mp z2))) (by assumption))
      · refine xw_iload dX8_isHouse_265 rfl ?_
        refine xw_bipush (v := 7) dX8_isHouse_267 (by decide) ?_
        refine xw_icmp_gtN (b := 7) (tgt := 300) dX8_isHouse_269 (by decide) (by omega) (fun c269 => ?_) (fun c269 => ?_)
        · first
          | exact K2 _ _ (fun z => by have := z.1; omega)
          | exact K2 _ _ (fun z => by have := z.2.1; omega)
          | exact K2 _ _ (fun z => absurd (by assumption) (z.2.2 u v hu.1 hu.2 hyv (by omega)).1)
          | exact K2 _ _ (fun z => absurd (hng.mpr (fun z2 => (z.2.2 u v hu.1 hu.2 hyv (by omega)).2 (hsm.mp z2))) (by assumption))
        · refine xw_aload_n dX8_isHouse_272 rfl ?_
          refine xw_getR dX8_isHouse_273 fl_X8_25 rfl rfl ?_
          refine xw_iload_n dX8_isHouse_276 rfl ?_
          refine xw_iload dX8_isHouse_277 rfl ?_
          refine xw_cS3B dX8_isHouse_279 okX8_isWallAt ml_X8_144 rfl rfl (s_X8_isWallAt rfl hC (by omega) (by omega)) (fun p279 => ?_) (fun p279 => ?_)
          · refine xw_if_ne (tgt := 300) dX8_isHouse_282 (by decide) (fun _ => ?_) (fun q9 => absurd q9 (by decide))
            first
            | exact K2 _ _ (fun z => by have := z.1; omega)
            | exact K2 _ _ (fun z => by have := z.2.1; omega)
            | exact K2 _ _ (fun z => absurd (by assumption) (z.2.2 u v hu.1 hu.2 hyv (by omega)).1)
            | exact K2 _ _ (fun z => absurd (hng.mpr (fun z2 => (z.2.2 u v hu.1 hu.2 hyv (by omega)).2 (hsm.mp z2))) (by assumption))
          · refine xw_if_ne (tgt := 300) dX8_isHouse_282 (by decide) (fun q9 => absurd q9 (by decide)) (fun _ => ?_)
            refine xw_aload_n dX8_isHouse_285 rfl ?_
            refine xw_getR dX8_isHouse_286 fl_X8_25 rfl rfl ?_
            refine xw_iload_n dX8_isHouse_289 rfl ?_
            refine xw_iload dX8_isHouse_290 rfl ?_
            refine xw_cS3E dX8_isHouse_292 okX8_houseAt ml_X8_148 rfl rfl (s_X8_houseAt rfl hC hX (by omega)) ?_
            refine xw_ldc dX8_isHouse_295 kc_X8_50 ?_
            refine xw_icmp_eq (tgt := 306) dX8_isHouse_297 (by decide) (fun c297 => ?_) (fun c297 => ?_)
            · refine xw_iincN (v := 1) dX8_isHouse_306 (by decide) rfl rfl rfl ?_
              refine xw_goto (tgt := 235) dX8_isHouse_309 (by decide) ?_
              exact ih (v + 1) (by omega) (by omega) (fun v2 z1 z2 => by
                rcases Nat.lt_or_ge v2 v with z | z
                · exact hno v2 z1 z
                · rw [show v2 = v by omega]; exact ⟨by omega, by omega, p279, fun z3 => hng.mp c297 (hsm.mpr z3)⟩)
            · first
              | exact K2 _ _ (fun z => by have := z.1; omega)
              | exact K2 _ _ (fun z => by have := z.2.1; omega)
              | exact K2 _ _ (fun z => absurd (by assumption) (z.2.2 u v hu.1 hu.2 hyv (by omega)).1)
              | exact K2 _ _ (fun z => absurd (hng.mpr (fun z2 => (z.2.2 u v hu.1 hu.2 hyv (by omega)).2 (hsm.mp z2))) (by assumption))
set_option maxRecDepth 20000 in
theorem lp_X8_room {D : FD} {PP P2 kd x y w h : Nat} {Q : Option XV → XM → Prop} (hC : FMS M 55 D) (hX : XMP M 55 P2) (hs : ∀ j, j < dn D → px P2 j = px PP j) (hn : dn D < 6) (hvx : M.1 55 (10 + dn D) = nI x) (hvy : M.1 55 (16 + dn D) = nI y) (hvw : M.1 55 (22 + dn D) = nI w) (hvh : M.1 55 (28 + dn D) = nI h) (hx : x < 16) (hy : y < 8) (hw : 1 ≤ w ∧ w ≤ 4) (hh : 1 ≤ h ∧ h ≤ 3) (K1 : ∀ l3 l4, roomP D PP x y w h → XW g l mX8_isHouse (d + 3) 318 [some (xr 49), some (xi (nI (dn D))), some (xi (nI kd)), l3, l4] [] M Q) (K2 : ∀ l3 l4, ¬ roomP D PP x y w h → XW g l mX8_isHouse (d + 3) 300 [some (xr 49), some (xi (nI (dn D))), some (xi (nI kd)), l3, l4] [] M Q)  : ∀ (q u : Nat) (l4 : Option XV), u + q = x + w → x ≤ u → (∀ u2, x ≤ u2 → u2 < u → ∀ v2, y ≤ v2 → v2 < y + h → (u2 ≤ 15 ∧ v2 ≤ 7 ∧ ¬ wallAt D u2 v2 ∧ ¬ hAt D PP (nI u2) v2 < dn D)) → XW g l mX8_isHouse (d + 3) 201 [some (xr 49), some (xi (nI (dn D))), some (xi (nI kd)), some (xi (nI u)), l4] [] M Q := by
  intro q
  induction q with
  | zero =>
    intro u l4 hu hxu hno
    refine xw_iload_n dX8_isHouse_201 rfl ?_
    refine xw_aload_n dX8_isHouse_202 rfl ?_
    refine xw_getR dX8_isHouse_203 fl_X8_25 rfl rfl ?_
    refine xw_bipush (v := 10) dX8_isHouse_206 (by decide) ?_
    refine xw_iload_n dX8_isHouse_208 rfl ?_
    refine xw_iaddN (a := 10) dX8_isHouse_209 ?_
    refine xw_ialN _ dX8_isHouse_210 rfl (rfl) (hvx) rfl ?_ ?_
    · omega
    refine xw_aload_n dX8_isHouse_211 rfl ?_
    refine xw_getR dX8_isHouse_212 fl_X8_25 rfl rfl ?_
    refine xw_bipush (v := 22) dX8_isHouse_215 (by decide) ?_
    refine xw_iload_n dX8_isHouse_217 rfl ?_
    refine xw_iaddN (a := 22) dX8_isHouse_218 ?_
    refine xw_ialN _ dX8_isHouse_219 rfl (rfl) (hvw) rfl ?_ ?_
    · omega
    refine xw_iaddN dX8_isHouse_220 ?_
    refine xw_icmp_geN (tgt := 318) dX8_isHouse_221 (by decide) (by omega) (fun c221 => ?_) (fun c221 => ?_)
    · refine K1 _ _ ⟨?_, ?_, fun u2 v2 z1 z2 z3 z4 => (hno u2 z1 (by omega) v2 z3 z4).2.2⟩
      · have := (hno (x + w - 1) (by omega) (by omega) y (Nat.le_refl _) (by omega)).1; omega
      · have := (hno x (Nat.le_refl _) (by omega) (y + h - 1) (by omega) (by omega)).2.1; omega
    · exfalso; omega
  | succ q ih =>
    intro u l4 hu hxu hno
    refine xw_iload_n dX8_isHouse_201 rfl ?_
    refine xw_aload_n dX8_isHouse_202 rfl ?_
    refine xw_getR dX8_isHouse_203 fl_X8_25 rfl rfl ?_
    refine xw_bipush (v := 10) dX8_isHouse_206 (by decide) ?_
    refine xw_iload_n dX8_isHouse_208 rfl ?_
    refine xw_iaddN (a := 10) dX8_isHouse_209 ?_
    refine xw_ialN _ dX8_isHouse_210 rfl (rfl) (hvx) rfl ?_ ?_
    · omega
    refine xw_aload_n dX8_isHouse_211 rfl ?_
    refine xw_getR dX8_isHouse_212 fl_X8_25 rfl rfl ?_
    refine xw_bipush (v := 22) dX8_isHouse_215 (by decide) ?_
    refine xw_iload_n dX8_isHouse_217 rfl ?_
    refine xw_iaddN (a := 22) dX8_isHouse_218 ?_
    refine xw_ialN _ dX8_isHouse_219 rfl (rfl) (hvw) rfl ?_ ?_
    · omega
    refine xw_iaddN dX8_isHouse_220 ?_
    refine xw_icmp_geN (tgt := 318) dX8_isHouse_221 (by decide) (by omega) (fun c221 => ?_) (fun c221 => ?_)
    · exfalso; omega
    · refine xw_aload_n dX8_isHouse_224 rfl ?_
      refine xw_getR dX8_isHouse_225 fl_X8_25 rfl rfl ?_
      refine xw_bipush (v := 16) dX8_isHouse_228 (by decide) ?_
      refine xw_iload_n dX8_isHouse_230 rfl ?_
      refine xw_iaddN (a := 16) dX8_isHouse_231 ?_
      refine xw_ialN _ dX8_isHouse_232 rfl (rfl) (hvy) rfl ?_ ?_
      · omega
      refine xw_istore dX8_isHouse_233 rfl rfl ?_
      refine lp2_X8_room hC hX hs hn hvx hvy hvw hvh hx hy hw hh K2 ⟨hxu, by omega⟩ (fun w4 hz => ?_) h y rfl (Nat.le_refl _) (fun _ z1 z2 => absurd z1 (by omega))
      refine xw_iincN (v := 1) dX8_isHouse_312 (by decide) rfl rfl rfl ?_
      refine xw_goto (tgt := 201) dX8_isHouse_315 (by decide) ?_
      exact ih (u + 1) _ (by omega) (by omega) (fun u2 z1 z2 => by
        rcases Nat.lt_or_ge u2 u with z | z
        · exact hno u2 z1 z
        · rw [show u2 = u by omega]; exact hz)
set_option maxRecDepth 20000 in
theorem lpB_X8_isHouse {T : TX} {M0 A : XM} {D : FD} {PP p3 kd v1 v2 v3 v4 : Nat} (hT : TM A T) (hFF : FrW M A) (hk : TkM A T p3) (hD : DM M0 D PP) (hW : WD D PP) (hn : dn D < 6) (hkd : 1 ≤ kd ∧ kd ≤ 5) (hb1 : v1 ≤ 15) (hb2 : v2 ≤ 7) (hb3 : 1 ≤ v3 ∧ v3 ≤ 4) (hb4 : 1 ≤ v4 ∧ v4 ≤ 3) (e : ∀ b, A.1 55 b = if b = 28 + dn D then nI v4 else if b = 22 + dn D then nI v3 else if b = 16 + dn D then nI v2 else if b = 10 + dn D then nI v1 else if b = 34 + dn D then 0 else if b = 4 + dn D then nI kd else M0.1 55 b) {l3 l4 : Option XV} : XW g l mX8_isHouse (d + 3) 191 [some (xr 49), some (xi (nI (dn D))), some (xi (nI kd)), l3, l4] [] A (PQm T (endH T p3 (tkE T p3) kd v1 v2 v3 v4 (D, PP)) M) := by
  have hpx := fun j (hj : j < 6) => adX_px (D := D) (P := PP) (x := v1) (h := j) hW.1.2.2 hn (by omega) hj
  have hC : FMS A 55 D := by
    obtain ⟨g1, g2, g3, g4, g5, g6, g7, g8, g9, g10⟩ := hD.1
    have ke : ∀ b, b ≠ 28 + dn D → b ≠ 22 + dn D → b ≠ 16 + dn D → b ≠ 10 + dn D → b ≠ 34 + dn D → b ≠ 4 + dn D → A.1 55 b = M0.1 55 b := fun b q2 q3 q4 q5 q6 q7 => by rw [e, if_neg q2, if_neg q3, if_neg q4, if_neg q5, if_neg q6, if_neg q7]
    exact ⟨g1, ⟨(ke _ (by omega) (by omega) (by omega) (by omega) (by omega) (by omega)).trans g2.1, g2.2⟩, ⟨(ke _ (by omega) (by omega) (by omega) (by omega) (by omega) (by omega)).trans g3.1, g3.2⟩, (ke _ (by omega) (by omega) (by omega) (by omega) (by omega) (by omega)).trans g4, fun x y hx hy => (ke _ (by omega) (by omega) (by omega) (by omega) (by omega) (by omega)).trans (g5 x y hx hy), fun j hj => (ke _ (by omega) (by omega) (by omega) (by omega) (by omega) (by omega)).trans (g6 j hj), fun j hj => (ke _ (by omega) (by omega) (by omega) (by omega) (by omega) (by omega)).trans (g7 j hj), fun j hj => (ke _ (by omega) (by omega) (by omega) (by omega) (by omega) (by omega)).trans (g8 j hj), fun j hj => (ke _ (by omega) (by omega) (by omega) (by omega) (by omega) (by omega)).trans (g9 j hj), g10⟩
  have hX : XMP A 55 (adX D PP v1) := fun j hj => by
    rw [hpx j hj, e]
    by_cases z : j = dn D
    · rw [if_neg (by omega), if_neg (by omega), if_neg (by omega), if_pos (by omega), if_pos z]
    · rw [if_neg (by omega), if_neg (by omega), if_neg (by omega), if_neg (by omega), if_neg (by omega), if_neg (by omega), if_neg z]; exact hD.2.1 j hj
  have hvx : A.1 55 (10 + dn D) = nI v1 := by rw [e, if_neg (by omega), if_neg (by omega), if_neg (by omega), if_pos rfl]
  have hvy : A.1 55 (16 + dn D) = nI v2 := by rw [e, if_neg (by omega), if_neg (by omega), if_pos rfl]
  have hvw : A.1 55 (22 + dn D) = nI v3 := by rw [e, if_neg (by omega), if_pos rfl]
  have hvh : A.1 55 (28 + dn D) = nI v4 := by rw [e, if_pos rfl]
  have hN : A.1 55 3 = nI (dn D) := hC.2.2.2.1
  have hE := tkE_le hk.2.2.2.2.2
  refine xw_aload_n dX8_isHouse_191 rfl ?_
  refine xw_getR dX8_isHouse_192 fl_X8_25 rfl rfl ?_
  refine xw_bipush (v := 10) dX8_isHouse_195 (by decide) ?_
  refine xw_iload_n dX8_isHouse_197 rfl ?_
  refine xw_iaddN (a := 10) dX8_isHouse_198 ?_
  refine xw_ialN _ dX8_isHouse_199 rfl (rfl) (hvx) rfl ?_ ?_
  · omega
  refine xw_istore_n dX8_isHouse_200 rfl rfl ?_
  refine lp_X8_room hC hX (fun j hj => (hpx j (by omega)).trans (if_neg (by omega))) hn hvx hvy hvw hvh (by omega) (by omega) hb3 hb4 (fun l3 l4 hr => ?_) (fun l3 l4 hr => ?_) v3 v1 _ rfl (Nat.le_refl _) (fun _ z1 z2 => absurd z1 (by omega))
  · refine xw_aload_n dX8_isHouse_318 rfl ?_
    refine xw_getR dX8_isHouse_319 fl_X8_25 rfl rfl ?_
    refine xw_iconst (v := 3) dX8_isHouse_322 (by decide) ?_
    refine xw_dup2 dX8_isHouse_323 rfl rfl ?_
    refine xw_ialN 3 dX8_isHouse_324 rfl (rfl) (hN) rfl ?_ ?_
    · omega
    refine xw_iconst (v := 1) dX8_isHouse_325 (by decide) ?_
    refine xw_iaddN (b := 1) dX8_isHouse_326 ?_
    refine xw_iasN 3 dX8_isHouse_327 rfl (rfl) rfl ?_ ?_
    · omega
    have hgo2 := endH_go (T := T) (p := p3) (q := tkE T p3) (kd := kd) (D := (D, PP)) hr
    have hDH : DM (xup A 55 3 (nI (dn D + 1))) (adH D kd v2 v3 v4) (adX D PP v1) := DM_H hD.1 hD.2.1 hD.2.2.1 hD.2.2.2 hW.1.2.2 hn (by omega) hb3 hb4 hkd.2 hr.2.1 (fun b => by
      rw [xup_at]
      by_cases z : b = 3
      · rw [if_pos ⟨rfl, z⟩, if_pos z]
      · rw [if_neg (fun q => z q.2), if_neg z]; exact e b)
    have hWH := WD_H (kd := kd) hW hn hr (by omega) hb3.1 hb3.2 hb4.1 hkd.1 (fun j hj => ⟨(hC.2.2.2.2.2.2.2.2.2 j hj).2.1, (hC.2.2.2.2.2.2.2.2.2 j hj).2.2.2.1⟩)
    refine xw_aload_n dX8_isHouse_328 rfl ?_
    refine xw_cV0Q dX8_isHouse_329 okX8_isEnd ml_X8_126 rfl rfl rfl rfl (s_X8_isEnd (hT.frW (FrW.rf _).u55) ((xup_cell _ _ (by decide)).trans hk.1) hE.2.1) ?_
    rintro _ M5 (⟨rfl, q5, hn5, hF5, hk5, hq5⟩ | ⟨rfl, n9, s9, hn5, hf5⟩)
    · refine xw_iretz dX8_isHouse_332 rfl (Or.inr rfl) ?_
      exact Or.inl ⟨rfl, q5, _, _, by simp only [hgo2, pb, hn5], hDH.frT hF5, hWH, hk5, hq5, (hFF.u55).ft hF5⟩
    · refine xw_iretz dX8_isHouse_332 rfl (Or.inl rfl) ?_
      exact PQm.bad (by simp only [hgo2, pb, hn5]) hFF.u55 hf5
  · refine xw_aload_n dX8_isHouse_300 rfl ?_
    refine xw_iconst (v := 2) dX8_isHouse_301 (by decide) ?_
    refine xw_cV1E dX8_isHouse_302 okX8_fails ml_X8_113 rfl rfl rfl rfl (s_X8_fails) ?_
    refine xw_iretz dX8_isHouse_305 rfl (Or.inl rfl) ?_
    exact PQm.fail (n := 2) (endH_no hr) hFF hk.2.1
set_option maxRecDepth 20000 in
theorem lpA_X8_isHouse {T : TX} {p : Nat} (hT : TM M T) (hE : M.1 49 6 = nI p) (hp : p ≤ T.2) {PP : Nat} {D : FD} (hD : DM M D PP) (hW : WD D PP) (hn : dn D < 6) {M0 : XM} (hF0 : FrT M M0) (hk0 : TkM M0 T p) {l2 l3 l4 : Option XV} : XW g l mX8_isHouse (d + 3) 82 [some (xr 49), some (xi (nI (dn D))), l2, l3, l4] [xi (nI (knW T p))] M0 (PQm T (houP T p (D, PP)) M) := by
  have hkn := knW_le T p
  have hT0 := hT.fr hF0
  have hE0 := tkE_le hp
  refine xw_istore_n dX8_isHouse_82 rfl rfl ?_
  refine xw_iload_n dX8_isHouse_83 rfl ?_
  refine xw_if_neN (tgt := 93) dX8_isHouse_84 (by decide) (by omega) (fun c84 => ?_) (fun c84 => ?_)
  · have hgo := houP_go (D := (D, PP)) (show ¬ knW T p = 0 by omega)
    have hnn := hn
    refine xw_aload_n dX8_isHouse_93 rfl ?_
    refine xw_getR dX8_isHouse_94 fl_X8_25 rfl rfl ?_
    refine xw_iconst (v := 4) dX8_isHouse_97 (by decide) ?_
    refine xw_iload_n dX8_isHouse_98 rfl ?_
    refine xw_iaddN (a := 4) dX8_isHouse_99 ?_
    refine xw_iload_n dX8_isHouse_100 rfl ?_
    refine xw_iasN _ dX8_isHouse_101 rfl (rfl) rfl ?_ ?_
    · omega
    refine xw_aload_n dX8_isHouse_102 rfl ?_
    refine xw_getR dX8_isHouse_103 fl_X8_25 rfl rfl ?_
    refine xw_bipush (v := 34) dX8_isHouse_106 (by decide) ?_
    refine xw_iload_n dX8_isHouse_108 rfl ?_
    refine xw_iaddN (a := 34) dX8_isHouse_109 ?_
    refine xw_iconst (v := 0) dX8_isHouse_110 (by decide) ?_
    refine xw_iasN _ dX8_isHouse_111 rfl (rfl) rfl ?_ ?_
    · omega
    refine xw_iconst (v := 0) dX8_isHouse_112 (by decide) ?_
    refine xw_istore_n dX8_isHouse_113 rfl rfl ?_
    refine xw_iload_n dX8_isHouse_114 rfl ?_
    refine xw_iconst (v := 4) dX8_isHouse_115 (by decide) ?_
    refine xw_icmp_ge (tgt := 191) dX8_isHouse_116 (by decide) (fun q9 => absurd q9 (by decide)) (fun _ => ?_)
    refine xw_aload_n dX8_isHouse_119 rfl ?_
    refine xw_iload_n dX8_isHouse_120 rfl ?_
    refine xw_iconst (v := 2) dX8_isHouse_121 (by decide) ?_
    refine xw_icmp_ge (tgt := 129) dX8_isHouse_122 (by decide) (fun q9 => absurd q9 (by decide)) (fun _ => ?_)
    refine xw_iconst (v := 0) dX8_isHouse_125 (by decide) ?_
    refine xw_goto (tgt := 130) dX8_isHouse_126 (by decide) ?_
    refine xw_iload_n dX8_isHouse_130 rfl ?_
    refine xw_if_ne (tgt := 139) dX8_isHouse_131 (by decide) (fun q9 => absurd q9 (by decide)) (fun _ => ?_)
    refine xw_bipush (v := 15) dX8_isHouse_134 (by decide) ?_
    refine xw_goto (tgt := 159) dX8_isHouse_136 (by decide) ?_
    refine xw_cV2Q dX8_isHouse_159 okX8_isNumber ml_X8_122 rfl rfl rfl rfl (s_X8_isNumber (lo := 0) (hi := 15) (hT0.frW ((FrW.rf _).u55.u55)) ((xup_cell _ _ (by decide)).trans ((xup_cell _ _ (by decide)).trans hk0.1)) hE0.2.1 (by decide) (by decide)) ?_
    rintro _ M1 (⟨rfl, v1, hn1, hv1, hb1, hF1, hk1⟩ | ⟨rfl, n9, s9, hn1, hf1⟩)
    · refine xw_if_ne (tgt := 167) dX8_isHouse_162 (by decide) (fun _ => ?_) (fun q9 => absurd q9 (by decide))
      have hE1 := tkE_le hE0.2.1
      have hT1 := (hT0.frW ((FrW.rf _).u55.u55)).fr hF1
      refine xw_aload_n dX8_isHouse_167 rfl ?_
      refine xw_getR dX8_isHouse_168 fl_X8_25 rfl rfl ?_
      refine xw_bipush (v := 10) dX8_isHouse_171 (by decide) ?_
      refine xw_bipush (v := 6) dX8_isHouse_173 (by decide) ?_
      refine xw_iload_n dX8_isHouse_175 rfl ?_
      refine xw_imul dX8_isHouse_176 ?_
      refine xw_iadd dX8_isHouse_177 ?_
      refine xw_iload_n dX8_isHouse_178 rfl ?_
      refine xw_iadd dX8_isHouse_179 ?_
      refine xw_aload_n dX8_isHouse_180 rfl ?_
      refine xw_getV dX8_isHouse_181 fl_X8_104 rfl rfl (hv1) ?_
      refine xw_iasN (10 + 6 * 0 + dn D) dX8_isHouse_184 rfl (ixh 0 rfl) rfl ?_ ?_
      · omega
      refine xw_iincN (x := 0) (v := 1) dX8_isHouse_185 (by decide) rfl rfl rfl ?_
      refine xw_goto (tgt := 114) dX8_isHouse_188 (by decide) ?_
      refine xw_iload_n dX8_isHouse_114 rfl ?_
      refine xw_iconst (v := 4) dX8_isHouse_115 (by decide) ?_
      refine xw_icmp_ge (tgt := 191) dX8_isHouse_116 (by decide) (fun q9 => absurd q9 (by decide)) (fun _ => ?_)
      refine xw_aload_n dX8_isHouse_119 rfl ?_
      refine xw_iload_n dX8_isHouse_120 rfl ?_
      refine xw_iconst (v := 2) dX8_isHouse_121 (by decide) ?_
      refine xw_icmp_ge (tgt := 129) dX8_isHouse_122 (by decide) (fun q9 => absurd q9 (by decide)) (fun _ => ?_)
      refine xw_iconst (v := 0) dX8_isHouse_125 (by decide) ?_
      refine xw_goto (tgt := 130) dX8_isHouse_126 (by decide) ?_
      refine xw_iload_n dX8_isHouse_130 rfl ?_
      refine xw_if_ne (tgt := 139) dX8_isHouse_131 (by decide) (fun _ => ?_) (fun q9 => absurd q9 (by decide))
      refine xw_iload_n dX8_isHouse_139 rfl ?_
      refine xw_iconst (v := 1) dX8_isHouse_140 (by decide) ?_
      refine xw_icmp_ne (tgt := 149) dX8_isHouse_141 (by decide) (fun q9 => absurd q9 (by decide)) (fun _ => ?_)
      refine xw_bipush (v := 7) dX8_isHouse_144 (by decide) ?_
      refine xw_goto (tgt := 159) dX8_isHouse_146 (by decide) ?_
      refine xw_cV2Q dX8_isHouse_159 okX8_isNumber ml_X8_122 rfl rfl rfl rfl (s_X8_isNumber (lo := 0) (hi := 7) (hT1.frW (FrW.rf _).u55) ((xup_cell _ _ (by decide)).trans hk1.1) hE1.2.1 (by decide) (by decide)) ?_
      rintro _ M2 (⟨rfl, v2, hn2, hv2, hb2, hF2, hk2⟩ | ⟨rfl, n9, s9, hn2, hf2⟩)
      · refine xw_if_ne (tgt := 167) dX8_isHouse_162 (by decide) (fun _ => ?_) (fun q9 => absurd q9 (by decide))
        have hE2 := tkE_le hE1.2.1
        have hT2 := (hT1.frW ((FrW.rf _).u55)).fr hF2
        refine xw_aload_n dX8_isHouse_167 rfl ?_
        refine xw_getR dX8_isHouse_168 fl_X8_25 rfl rfl ?_
        refine xw_bipush (v := 10) dX8_isHouse_171 (by decide) ?_
        refine xw_bipush (v := 6) dX8_isHouse_173 (by decide) ?_
        refine xw_iload_n dX8_isHouse_175 rfl ?_
        refine xw_imul dX8_isHouse_176 ?_
        refine xw_iadd dX8_isHouse_177 ?_
        refine xw_iload_n dX8_isHouse_178 rfl ?_
        refine xw_iadd dX8_isHouse_179 ?_
        refine xw_aload_n dX8_isHouse_180 rfl ?_
        refine xw_getV dX8_isHouse_181 fl_X8_104 rfl rfl (hv2) ?_
        refine xw_iasN (10 + 6 * 1 + dn D) dX8_isHouse_184 rfl (ixh 1 rfl) rfl ?_ ?_
        · omega
        refine xw_iincN (x := 1) (v := 1) dX8_isHouse_185 (by decide) rfl rfl rfl ?_
        refine xw_goto (tgt := 114) dX8_isHouse_188 (by decide) ?_
        refine xw_iload_n dX8_isHouse_114 rfl ?_
        refine xw_iconst (v := 4) dX8_isHouse_115 (by decide) ?_
        refine xw_icmp_ge (tgt := 191) dX8_isHouse_116 (by decide) (fun q9 => absurd q9 (by decide)) (fun _ => ?_)
        refine xw_aload_n dX8_isHouse_119 rfl ?_
        refine xw_iload_n dX8_isHouse_120 rfl ?_
        refine xw_iconst (v := 2) dX8_isHouse_121 (by decide) ?_
        refine xw_icmp_ge (tgt := 129) dX8_isHouse_122 (by decide) (fun _ => ?_) (fun q9 => absurd q9 (by decide))
        refine xw_iconst (v := 1) dX8_isHouse_129 (by decide) ?_
        refine xw_iload_n dX8_isHouse_130 rfl ?_
        refine xw_if_ne (tgt := 139) dX8_isHouse_131 (by decide) (fun _ => ?_) (fun q9 => absurd q9 (by decide))
        refine xw_iload_n dX8_isHouse_139 rfl ?_
        refine xw_iconst (v := 1) dX8_isHouse_140 (by decide) ?_
        refine xw_icmp_ne (tgt := 149) dX8_isHouse_141 (by decide) (fun _ => ?_) (fun q9 => absurd q9 (by decide))
        refine xw_iload_n dX8_isHouse_149 rfl ?_
        refine xw_iconst (v := 2) dX8_isHouse_150 (by decide) ?_
        refine xw_icmp_ne (tgt := 158) dX8_isHouse_151 (by decide) (fun q9 => absurd q9 (by decide)) (fun _ => ?_)
        refine xw_iconst (v := 4) dX8_isHouse_154 (by decide) ?_
        refine xw_goto (tgt := 159) dX8_isHouse_155 (by decide) ?_
        refine xw_cV2Q dX8_isHouse_159 okX8_isNumber ml_X8_122 rfl rfl rfl rfl (s_X8_isNumber (lo := 1) (hi := 4) (hT2.frW (FrW.rf _).u55) ((xup_cell _ _ (by decide)).trans hk2.1) hE2.2.1 (by decide) (by decide)) ?_
        rintro _ M3 (⟨rfl, v3, hn3, hv3, hb3, hF3, hk3⟩ | ⟨rfl, n9, s9, hn3, hf3⟩)
        · refine xw_if_ne (tgt := 167) dX8_isHouse_162 (by decide) (fun _ => ?_) (fun q9 => absurd q9 (by decide))
          have hE3 := tkE_le hE2.2.1
          have hT3 := (hT2.frW ((FrW.rf _).u55)).fr hF3
          refine xw_aload_n dX8_isHouse_167 rfl ?_
          refine xw_getR dX8_isHouse_168 fl_X8_25 rfl rfl ?_
          refine xw_bipush (v := 10) dX8_isHouse_171 (by decide) ?_
          refine xw_bipush (v := 6) dX8_isHouse_173 (by decide) ?_
          refine xw_iload_n dX8_isHouse_175 rfl ?_
          refine xw_imul dX8_isHouse_176 ?_
          refine xw_iadd dX8_isHouse_177 ?_
          refine xw_iload_n dX8_isHouse_178 rfl ?_
          refine xw_iadd dX8_isHouse_179 ?_
          refine xw_aload_n dX8_isHouse_180 rfl ?_
          refine xw_getV dX8_isHouse_181 fl_X8_104 rfl rfl (hv3) ?_
          refine xw_iasN (10 + 6 * 2 + dn D) dX8_isHouse_184 rfl (ixh 2 rfl) rfl ?_ ?_
          · omega
          refine xw_iincN (x := 2) (v := 1) dX8_isHouse_185 (by decide) rfl rfl rfl ?_
          refine xw_goto (tgt := 114) dX8_isHouse_188 (by decide) ?_
          refine xw_iload_n dX8_isHouse_114 rfl ?_
          refine xw_iconst (v := 4) dX8_isHouse_115 (by decide) ?_
          refine xw_icmp_ge (tgt := 191) dX8_isHouse_116 (by decide) (fun q9 => absurd q9 (by decide)) (fun _ => ?_)
          refine xw_aload_n dX8_isHouse_119 rfl ?_
          refine xw_iload_n dX8_isHouse_120 rfl ?_
          refine xw_iconst (v := 2) dX8_isHouse_121 (by decide) ?_
          refine xw_icmp_ge (tgt := 129) dX8_isHouse_122 (by decide) (fun _ => ?_) (fun q9 => absurd q9 (by decide))
          refine xw_iconst (v := 1) dX8_isHouse_129 (by decide) ?_
          refine xw_iload_n dX8_isHouse_130 rfl ?_
          refine xw_if_ne (tgt := 139) dX8_isHouse_131 (by decide) (fun _ => ?_) (fun q9 => absurd q9 (by decide))
          refine xw_iload_n dX8_isHouse_139 rfl ?_
          refine xw_iconst (v := 1) dX8_isHouse_140 (by decide) ?_
          refine xw_icmp_ne (tgt := 149) dX8_isHouse_141 (by decide) (fun _ => ?_) (fun q9 => absurd q9 (by decide))
          refine xw_iload_n dX8_isHouse_149 rfl ?_
          refine xw_iconst (v := 2) dX8_isHouse_150 (by decide) ?_
          refine xw_icmp_ne (tgt := 158) dX8_isHouse_151 (by decide) (fun _ => ?_) (fun q9 => absurd q9 (by decide))
          refine xw_iconst (v := 3) dX8_isHouse_158 (by decide) ?_
          refine xw_cV2Q dX8_isHouse_159 okX8_isNumber ml_X8_122 rfl rfl rfl rfl (s_X8_isNumber (lo := 1) (hi := 3) (hT3.frW (FrW.rf _).u55) ((xup_cell _ _ (by decide)).trans hk3.1) hE3.2.1 (by decide) (by decide)) ?_
          rintro _ M4 (⟨rfl, v4, hn4, hv4, hb4, hF4, hk4⟩ | ⟨rfl, n9, s9, hn4, hf4⟩)
          · refine xw_if_ne (tgt := 167) dX8_isHouse_162 (by decide) (fun _ => ?_) (fun q9 => absurd q9 (by decide))
            have hE4 := tkE_le hE3.2.1
            have hT4 := (hT3.frW ((FrW.rf _).u55)).fr hF4
            refine xw_aload_n dX8_isHouse_167 rfl ?_
            refine xw_getR dX8_isHouse_168 fl_X8_25 rfl rfl ?_
            refine xw_bipush (v := 10) dX8_isHouse_171 (by decide) ?_
            refine xw_bipush (v := 6) dX8_isHouse_173 (by decide) ?_
            refine xw_iload_n dX8_isHouse_175 rfl ?_
            refine xw_imul dX8_isHouse_176 ?_
            refine xw_iadd dX8_isHouse_177 ?_
            refine xw_iload_n dX8_isHouse_178 rfl ?_
            refine xw_iadd dX8_isHouse_179 ?_
            refine xw_aload_n dX8_isHouse_180 rfl ?_
            refine xw_getV dX8_isHouse_181 fl_X8_104 rfl rfl (hv4) ?_
            refine xw_iasN (10 + 6 * 3 + dn D) dX8_isHouse_184 rfl (ixh 3 rfl) rfl ?_ ?_
            · omega
            refine xw_iincN (x := 3) (v := 1) dX8_isHouse_185 (by decide) rfl rfl rfl ?_
            refine xw_goto (tgt := 114) dX8_isHouse_188 (by decide) ?_
            refine xw_iload_n dX8_isHouse_114 rfl ?_
            refine xw_iconst (v := 4) dX8_isHouse_115 (by decide) ?_
            refine xw_icmp_ge (tgt := 191) dX8_isHouse_116 (by decide) (fun _ => ?_) (fun q9 => absurd q9 (by decide))
            have hZ : houP T p (D, PP) = endH T (tkE T (tkE T (tkE T (tkE T p)))) (tkE T (tkE T (tkE T (tkE T (tkE T p))))) (knW T p) v1 v2 v3 v4 (D, PP) := by simp only [hgo, pb_r hn1, pb_r hn2, pb_r hn3, pb_r hn4]
            rw [hZ]
            have hfr : FrW M (xup M4 55 (10 + 6 * 3 + dn D) (nI v4)) := (((((((((((FrW.rf M).ft hF0).u55).u55).ft hF1).u55).ft hF2).u55).ft hF3).u55).ft hF4).u55
            refine lpB_X8_isHouse (M0 := M) (p3 := tkE T (tkE T (tkE T (tkE T p)))) (hT.frW hfr) hfr ?_ hD hW hn ⟨by omega, hkn⟩ hb1.2 hb2.2 hb3 hb4 (fun b => ?_)
            · exact hk4
            · rw [xup_at, hF4.1 55 b (by omega), xup_at, hF3.1 55 b (by omega), xup_at, hF2.1 55 b (by omega), xup_at, hF1.1 55 b (by omega), xup_at, xup_at, hF0.1 55 b (by omega)]
              simp only [true_and]
          · refine xw_if_ne (tgt := 167) dX8_isHouse_162 (by decide) (fun q9 => absurd q9 (by decide)) (fun _ => ?_)
            refine xw_iconst (v := 0) dX8_isHouse_165 (by decide) ?_
            refine xw_iretz dX8_isHouse_166 rfl (Or.inl rfl) ?_
            exact PQm.bad (by simp only [hgo, pb, hn1, hn2, hn3, hn4]) ((((((((((FrW.rf M).ft hF0).u55).u55).ft hF1).u55).ft hF2).u55).ft hF3).u55) hf4
        · refine xw_if_ne (tgt := 167) dX8_isHouse_162 (by decide) (fun q9 => absurd q9 (by decide)) (fun _ => ?_)
          refine xw_iconst (v := 0) dX8_isHouse_165 (by decide) ?_
          refine xw_iretz dX8_isHouse_166 rfl (Or.inl rfl) ?_
          exact PQm.bad (by simp only [hgo, pb, hn1, hn2, hn3]) ((((((((FrW.rf M).ft hF0).u55).u55).ft hF1).u55).ft hF2).u55) hf3
      · refine xw_if_ne (tgt := 167) dX8_isHouse_162 (by decide) (fun q9 => absurd q9 (by decide)) (fun _ => ?_)
        refine xw_iconst (v := 0) dX8_isHouse_165 (by decide) ?_
        refine xw_iretz dX8_isHouse_166 rfl (Or.inl rfl) ?_
        exact PQm.bad (by simp only [hgo, pb, hn1, hn2]) ((((((FrW.rf M).ft hF0).u55).u55).ft hF1).u55) hf2
    · refine xw_if_ne (tgt := 167) dX8_isHouse_162 (by decide) (fun q9 => absurd q9 (by decide)) (fun _ => ?_)
      refine xw_iconst (v := 0) dX8_isHouse_165 (by decide) ?_
      refine xw_iretz dX8_isHouse_166 rfl (Or.inl rfl) ?_
      exact PQm.bad (by simp only [hgo, pb, hn1]) ((((FrW.rf M).ft hF0).u55).u55) hf1
  · refine xw_aload_n dX8_isHouse_87 rfl ?_
    refine xw_iconst (v := 1) dX8_isHouse_88 (by decide) ?_
    refine xw_cV1E dX8_isHouse_89 okX8_fails ml_X8_113 rfl rfl rfl rfl (s_X8_fails) ?_
    refine xw_iretz dX8_isHouse_92 rfl (Or.inl rfl) ?_
    exact PQm.fail (n := 1) (houP_no (by omega)) ((FrW.rf M).ft hF0) hk0.2.1
end HOUSEM
