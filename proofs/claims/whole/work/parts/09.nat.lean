/-! the rules once more, over natural numbers: 'nI n' -/
section XNAT
variable {g : XG} {l : Launch} {y : XY} {d pc : Nat} {lx : List (Option XV)} {st : List XV} {M : XM} {Q : Option XV → XM → Prop}
theorem nv_of {x : Int32} (h : 0 ≤ x) : x = nI x.toNatClampNeg := by
  obtain ⟨j, hj, rfl⟩ := nI_of (x := x) (by rw [Int32.not_lt]; exact h)
  rw [nI_clamp hj]
theorem nv_lit {x : Int32} {n : Nat} (hn : n < 2 ^ 31) (h : 0 ≤ x) (h2 : x < nI n) : ∃ j : Nat, j < n ∧ x = nI j := by
  obtain ⟨j, hj, rfl⟩ := nI_of (x := x) (by rw [Int32.not_lt]; exact h)
  exact ⟨j, (nI_ltI hj hn).mp h2, rfl⟩
theorem xw_iconstN {n : Int} {v : Nat} (hd : decode y.2.1 pc = .ok (.iconst n, 1)) (hv : Int32.ofInt n = nI v) (h : XW g l y d (pc + 1) lx (xi (nI v) :: st) M Q) : XW g l y d pc lx st M Q := xw_iconst hd hv h
theorem xw_bipushN {n : Int} {v : Nat} (hd : decode y.2.1 pc = .ok (.bipush n, 2)) (hv : (Int8.ofInt n).toInt32 = nI v) (h : XW g l y d (pc + 2) lx (xi (nI v) :: st) M Q) : XW g l y d pc lx st M Q := xw_bipush hd hv h
theorem xw_sipushN {n : Int} {v : Nat} (hd : decode y.2.1 pc = .ok (.sipush n, 3)) (hv : (Int16.ofInt n).toInt32 = nI v) (h : XW g l y d (pc + 3) lx (xi (nI v) :: st) M Q) : XW g l y d pc lx st M Q := xw_sipush hd hv h
theorem xw_iaddN {a b : Nat} (hd : decode y.2.1 pc = .ok (.iadd, 1)) (h : XW g l y d (pc + 1) lx (xi (nI (a + b)) :: st) M Q) : XW g l y d pc lx (xi (nI b) :: xi (nI a) :: st) M Q := xw_iadd hd (by rw [nI_add]; exact h)
theorem xw_imulN {a b : Nat} (hd : decode y.2.1 pc = .ok (.imul, 1)) (h : XW g l y d (pc + 1) lx (xi (nI (a * b)) :: st) M Q) : XW g l y d pc lx (xi (nI b) :: xi (nI a) :: st) M Q := xw_imul hd (by rw [pk_mul]; exact h)
theorem xw_isubN {a b : Nat} (hd : decode y.2.1 pc = .ok (.isub, 1)) (hb : b ≤ a) (h : XW g l y d (pc + 1) lx (xi (nI (a - b)) :: st) M Q) : XW g l y d pc lx (xi (nI b) :: xi (nI a) :: st) M Q := xw_isub hd (by rw [pk_sub hb]; exact h)
theorem xw_idivN {a b : Nat} (hd : decode y.2.1 pc = .ok (.idiv, 1)) (hb : 0 < b ∧ b < 2 ^ 31 ∧ a < 2 ^ 31) (h : XW g l y d (pc + 1) lx (xi (nI (a / b)) :: st) M Q) : XW g l y d pc lx (xi (nI b) :: xi (nI a) :: st) M Q := xw_idiv hd (nI_ne0 hb.1 hb.2.1) (by rw [pk_div hb.2.2 hb.1 hb.2.1]; exact h)
theorem xw_iremN {a b : Nat} (hd : decode y.2.1 pc = .ok (.irem, 1)) (hb : 0 < b ∧ b < 2 ^ 31 ∧ a < 2 ^ 31) (h : XW g l y d (pc + 1) lx (xi (nI (a % b)) :: st) M Q) : XW g l y d pc lx (xi (nI b) :: xi (nI a) :: st) M Q := xw_irem hd (nI_ne0 hb.1 hb.2.1) (by rw [pk_rem hb.2.2 hb.1 hb.2.1]; exact h)
theorem xw_iandN {a b : Nat} (hd : decode y.2.1 pc = .ok (.iand, 1)) (h : XW g l y d (pc + 1) lx (xi (nI (a &&& b)) :: st) M Q) : XW g l y d pc lx (xi (nI b) :: xi (nI a) :: st) M Q := xw_iand hd (by rw [fa_and]; exact h)
theorem xw_iorN {a b : Nat} (hd : decode y.2.1 pc = .ok (.ior, 1)) (h : XW g l y d (pc + 1) lx (xi (nI (a ||| b)) :: st) M Q) : XW g l y d pc lx (xi (nI b) :: xi (nI a) :: st) M Q := xw_ior hd (by rw [fa_or]; exact h)
theorem nv_sh : ∀ s, s < 32 → ((nI s &&& 31).toBitVec.smod 32).toNat = s := by decide
theorem xw_ishlN {a s : Nat} (hd : decode y.2.1 pc = .ok (.ishl, 1)) (hs : s < 32) (ha : a * 2 ^ s < 2 ^ 32) (h : XW g l y d (pc + 1) lx (xi (nI (a * 2 ^ s)) :: st) M Q) : XW g l y d pc lx (xi (nI s) :: xi (nI a) :: st) M Q := xw_ishl hd (by rw [pk_shlN _ s (nv_sh s hs) ha]; exact h)
theorem xw_ishrN {a s : Nat} (hd : decode y.2.1 pc = .ok (.ishr, 1)) (hs : s < 32) (ha : a < 2 ^ 31) (h : XW g l y d (pc + 1) lx (xi (nI (a / 2 ^ s)) :: st) M Q) : XW g l y d pc lx (xi (nI s) :: xi (nI a) :: st) M Q := xw_ishr hd (by rw [pk_shrN ha _ s (nv_sh s hs)]; exact h)
theorem xw_iincN {i : Nat} {n : Int} {x v : Nat} (hd : decode y.2.1 pc = .ok (.iinc i n, 3)) (hv : Int32.ofInt n = nI v) (hn : Nat.blt i y.2.2.1 = true) (hok : xok1 lx i = true) (hl : lx[i]? = some (some (xi (nI x)))) (h : XW g l y d (pc + 3) (lx.set i (some (xi (nI (x + v))))) st M Q) : XW g l y d pc lx st M Q := xw_iinc hd hv hn hok hl (by rw [nI_add]; exact h)
theorem xw_ialN {k n : Nat} {i v : Int32} (j : Nat) (hd : decode y.2.1 pc = .ok (.iaload, 1)) (hs : xsh[k]? = some (.inr (0, n))) (hi : i = nI j) (hv : M.1 k j = v) (hn : Nat.ble n 1000 = true) (hj : j < n) (h : XW g l y d (pc + 1) lx (xi v :: st) M Q) : XW g l y d pc lx (xi i :: xr k :: st) M Q := by
  subst hi; subst hv
  have hn2 := Nat.le_of_ble_eq_true hn
  exact xw_iald hd hs (vp_in_nI hj (by omega)) (by rw [nI_clamp (by omega)]; exact h)
theorem xw_balN {k n : Nat} {i v : Int32} (j : Nat) (hd : decode y.2.1 pc = .ok (.baload, 1)) (hs : xsh[k]? = some (.inr (1, n))) (hi : i = nI j) (hv : M.1 k j = v) (hn : Nat.ble n 1000 = true) (hj : j < n) (h : XW g l y d (pc + 1) lx (xi v :: st) M Q) : XW g l y d pc lx (xi i :: xr k :: st) M Q := by
  subst hi; subst hv
  have hn2 := Nat.le_of_ble_eq_true hn
  exact xw_bald hd hs (vp_in_nI hj (by omega)) (by rw [nI_clamp (by omega)]; exact h)
theorem xw_zalN {k n : Nat} {i v : Int32} (j : Nat) (hd : decode y.2.1 pc = .ok (.baload, 1)) (hs : xsh[k]? = some (.inr (2, n))) (hi : i = nI j) (hv : M.1 k j = v) (hn : Nat.ble n 1000 = true) (hj : j < n) (h : XW g l y d (pc + 1) lx (xi v :: st) M Q) : XW g l y d pc lx (xi i :: xr k :: st) M Q := by
  subst hi; subst hv
  have hn2 := Nat.le_of_ble_eq_true hn
  exact xw_zald hd hs (vp_in_nI hj (by omega)) (by rw [nI_clamp (by omega)]; exact h)
theorem xw_aalN {k n : Nat} {i : Int32} (j : Nat) (hd : decode y.2.1 pc = .ok (.aaload, 1)) (hs : xsh[k]? = some (.inr (3, n))) (hi : i = nI j) (hn : Nat.ble n 1000 = true) (hj : j < n) (h : XW g l y d (pc + 1) lx (xr (24 + 8 * j) :: st) M Q) : XW g l y d pc lx (xi i :: xr k :: st) M Q := by
  subst hi
  have hn2 := Nat.le_of_ble_eq_true hn
  exact xw_aald hd hs (vp_in_nI hj (by omega)) (by rw [nI_clamp (by omega)]; exact h)
theorem xw_ialTN {j k : Nat} {i v : Int32} (q : Nat) (hd : decode y.2.1 pc = .ok (.iaload, 1)) (hk : k = 1000 + j) (hj : j < 3) (hi : i = nI q) (hv : xtab j q = v) (hq : q < 6) (h : XW g l y d (pc + 1) lx (xi v :: st) M Q) : XW g l y d pc lx (xi i :: xr k :: st) M Q := by
  subst hi; subst hv
  exact xw_ialdT hd hk hj (vp_in_nI hq (by omega)) (by rw [nI_clamp (by omega)]; exact h)
theorem xw_iasN {k n : Nat} {i x : Int32} (j : Nat) (hd : decode y.2.1 pc = .ok (.iastore, 1)) (hs : xsh[k]? = some (.inr (0, n))) (hi : i = nI j) (hn : Nat.ble n 1000 = true) (hj : j < n) (h : XW g l y d (pc + 1) lx st (xup M k j x) Q) : XW g l y d pc lx (xi x :: xi i :: xr k :: st) M Q := by
  subst hi
  have hn2 := Nat.le_of_ble_eq_true hn
  exact xw_iast hd hs (vp_in_nI hj (by omega)) (by rw [nI_clamp (by omega)]; exact h)
theorem xw_basN {k n : Nat} {i x : Int32} (j : Nat) (hd : decode y.2.1 pc = .ok (.bastore, 1)) (hs : xsh[k]? = some (.inr (1, n))) (hi : i = nI j) (hn : Nat.ble n 1000 = true) (hj : j < n) (h : XW g l y d (pc + 1) lx st (xup M k j x.toInt8.toInt32) Q) : XW g l y d pc lx (xi x :: xi i :: xr k :: st) M Q := by
  subst hi
  have hn2 := Nat.le_of_ble_eq_true hn
  exact xw_bast hd hs (vp_in_nI hj (by omega)) (by rw [nI_clamp (by omega), vp_nar_byte]; exact h)
theorem xw_zasN {k n : Nat} {i x : Int32} (j : Nat) (hd : decode y.2.1 pc = .ok (.bastore, 1)) (hs : xsh[k]? = some (.inr (2, n))) (hi : i = nI j) (hx : x = 0 ∨ x = 1) (hn : Nat.ble n 1000 = true) (hj : j < n) (h : XW g l y d (pc + 1) lx st (xup M k j x) Q) : XW g l y d pc lx (xi x :: xi i :: xr k :: st) M Q := by
  subst hi
  have hn2 := Nat.le_of_ble_eq_true hn
  refine xw_zast hd hs (vp_in_nI hj (by omega)) ?_
  rw [nI_clamp (by omega), show vp_nar .boolean x = x by rcases hx with rfl | rfl <;> rfl]
  exact h
theorem xw_getV {idx ci j k : Nat} {v : Int32} {ks : List (Option (Option Nat))} (hd : decode y.2.1 pc = .ok (.getfield idx, 3)) (hl : XFL y.1.cls idx ci j) (hs : xsh[k]? = some (.inl (ci, ks))) (hj : ks[j]? = some none) (hv : M.1 k j = v) (h : XW g l y d (pc + 3) lx (xi v :: st) M Q) : XW g l y d pc lx (xr k :: st) M Q := xw_getI hd hl hs hj (by rw [hv]; exact h)
theorem xw_icmp_eqN {a b : Nat} {off : Int} {tgt : Nat} (hd : decode y.2.1 pc = .ok (.if_icmp .eq off, 3)) (ht : (pc : Int) + off = (tgt : Int)) (hb : a < 2 ^ 31 ∧ b < 2 ^ 31) (kt : a = b → XW g l y d tgt lx st M Q) (kf : ¬ (a = b) → XW g l y d (pc + 3) lx st M Q) : XW g l y d pc lx (xi (nI b) :: xi (nI a) :: st) M Q :=
  xw_icmp_eq hd ht (fun q => kt ((nI_eq hb.1 hb.2).mp q)) (fun q => kf (fun q2 => q ((nI_eq hb.1 hb.2).mpr q2)))
theorem xw_icmp_ltN {a b : Nat} {off : Int} {tgt : Nat} (hd : decode y.2.1 pc = .ok (.if_icmp .lt off, 3)) (ht : (pc : Int) + off = (tgt : Int)) (hb : a < 2 ^ 31 ∧ b < 2 ^ 31) (kt : a < b → XW g l y d tgt lx st M Q) (kf : ¬ (a < b) → XW g l y d (pc + 3) lx st M Q) : XW g l y d pc lx (xi (nI b) :: xi (nI a) :: st) M Q :=
  xw_icmp_lt hd ht (fun q => kt ((nI_ltI hb.1 hb.2).mp q)) (fun q => kf (fun q2 => q ((nI_ltI hb.1 hb.2).mpr q2)))
theorem xw_icmp_geN {a b : Nat} {off : Int} {tgt : Nat} (hd : decode y.2.1 pc = .ok (.if_icmp .ge off, 3)) (ht : (pc : Int) + off = (tgt : Int)) (hb : a < 2 ^ 31 ∧ b < 2 ^ 31) (kt : b ≤ a → XW g l y d tgt lx st M Q) (kf : ¬ (b ≤ a) → XW g l y d (pc + 3) lx st M Q) : XW g l y d pc lx (xi (nI b) :: xi (nI a) :: st) M Q :=
  xw_icmp_ge hd ht (fun q => kt ((nI_leI hb.2 hb.1).mp q)) (fun q => kf (fun q2 => q ((nI_leI hb.2 hb.1).mpr q2)))
theorem xw_icmp_gtN {a b : Nat} {off : Int} {tgt : Nat} (hd : decode y.2.1 pc = .ok (.if_icmp .gt off, 3)) (ht : (pc : Int) + off = (tgt : Int)) (hb : a < 2 ^ 31 ∧ b < 2 ^ 31) (kt : b < a → XW g l y d tgt lx st M Q) (kf : ¬ (b < a) → XW g l y d (pc + 3) lx st M Q) : XW g l y d pc lx (xi (nI b) :: xi (nI a) :: st) M Q :=
  xw_icmp_gt hd ht (fun q => kt ((nI_ltI hb.2 hb.1).mp q)) (fun q => kf (fun q2 => q ((nI_ltI hb.2 hb.1).mpr q2)))
theorem xw_icmp_leN {a b : Nat} {off : Int} {tgt : Nat} (hd : decode y.2.1 pc = .ok (.if_icmp .le off, 3)) (ht : (pc : Int) + off = (tgt : Int)) (hb : a < 2 ^ 31 ∧ b < 2 ^ 31) (kt : a ≤ b → XW g l y d tgt lx st M Q) (kf : ¬ (a ≤ b) → XW g l y d (pc + 3) lx st M Q) : XW g l y d pc lx (xi (nI b) :: xi (nI a) :: st) M Q :=
  xw_icmp_le hd ht (fun q => kt ((nI_leI hb.1 hb.2).mp q)) (fun q => kf (fun q2 => q ((nI_leI hb.1 hb.2).mpr q2)))
theorem xw_icmp_neN {a b : Nat} {off : Int} {tgt : Nat} (hd : decode y.2.1 pc = .ok (.if_icmp .ne off, 3)) (ht : (pc : Int) + off = (tgt : Int)) (hb : a < 2 ^ 31 ∧ b < 2 ^ 31) (kt : ¬ a = b → XW g l y d tgt lx st M Q) (kf : a = b → XW g l y d (pc + 3) lx st M Q) : XW g l y d pc lx (xi (nI b) :: xi (nI a) :: st) M Q :=
  xw_icmp_ne hd ht (fun q => kt (fun q2 => q ((nI_eq hb.1 hb.2).mpr q2))) (fun q => kf ((nI_eq hb.1 hb.2).mp q))
theorem xw_if_eqN {a : Nat} {off : Int} {tgt : Nat} (hd : decode y.2.1 pc = .ok (.ifCond .eq off, 3)) (ht : (pc : Int) + off = (tgt : Int)) (hb : a < 2 ^ 31) (kt : a = 0 → XW g l y d tgt lx st M Q) (kf : ¬ a = 0 → XW g l y d (pc + 3) lx st M Q) : XW g l y d pc lx (xi (nI a) :: st) M Q :=
  xw_if_eq hd ht (fun q => kt ((nI_eq hb (by omega)).mp (show nI a = nI 0 from q))) (fun q => kf (fun q2 => q (by rw [q2]; rfl)))
theorem xw_if_neN {a : Nat} {off : Int} {tgt : Nat} (hd : decode y.2.1 pc = .ok (.ifCond .ne off, 3)) (ht : (pc : Int) + off = (tgt : Int)) (hb : a < 2 ^ 31) (kt : ¬ a = 0 → XW g l y d tgt lx st M Q) (kf : a = 0 → XW g l y d (pc + 3) lx st M Q) : XW g l y d pc lx (xi (nI a) :: st) M Q :=
  xw_if_ne hd ht (fun q => kt (fun q2 => q (by rw [q2]; rfl))) (fun q => kf ((nI_eq hb (by omega)).mp (show nI a = nI 0 from q)))
theorem xw_if_ltN {a : Nat} {off : Int} {tgt : Nat} (hd : decode y.2.1 pc = .ok (.ifCond .lt off, 3)) (ht : (pc : Int) + off = (tgt : Int)) (hb : a < 2 ^ 31) (kf : XW g l y d (pc + 3) lx st M Q) : XW g l y d pc lx (xi (nI a) :: st) M Q :=
  xw_if_lt hd ht (fun q => absurd q (nI_pos hb)) (fun _ => kf)
theorem xw_if_geN {a : Nat} {off : Int} {tgt : Nat} (hd : decode y.2.1 pc = .ok (.ifCond .ge off, 3)) (ht : (pc : Int) + off = (tgt : Int)) (hb : a < 2 ^ 31) (kt : XW g l y d tgt lx st M Q) : XW g l y d pc lx (xi (nI a) :: st) M Q :=
  xw_if_ge hd ht (fun _ => kt) (fun q => absurd (nI_pos' hb) q)
theorem xw_if_gtN {a : Nat} {off : Int} {tgt : Nat} (hd : decode y.2.1 pc = .ok (.ifCond .gt off, 3)) (ht : (pc : Int) + off = (tgt : Int)) (hb : a < 2 ^ 31) (kt : 0 < a → XW g l y d tgt lx st M Q) (kf : a = 0 → XW g l y d (pc + 3) lx st M Q) : XW g l y d pc lx (xi (nI a) :: st) M Q :=
  xw_if_gt hd ht (fun q => kt ((nI_ltI (by omega) hb).mp (show nI 0 < nI a from q))) (fun q => kf (by
    rcases Nat.eq_zero_or_pos a with z | z
    · exact z
    · exact absurd ((nI_ltI (by omega) hb).mpr z) q))
theorem xw_if_leN {a : Nat} {off : Int} {tgt : Nat} (hd : decode y.2.1 pc = .ok (.ifCond .le off, 3)) (ht : (pc : Int) + off = (tgt : Int)) (hb : a < 2 ^ 31) (kt : a = 0 → XW g l y d tgt lx st M Q) (kf : 0 < a → XW g l y d (pc + 3) lx st M Q) : XW g l y d pc lx (xi (nI a) :: st) M Q :=
  xw_if_le hd ht (fun q => kt (by
    rcases Nat.eq_zero_or_pos a with z | z
    · exact z
    · exact absurd q (nI_nle z hb))) (fun q => kf (by
    rcases Nat.eq_zero_or_pos a with z | z
    · exact absurd (by rw [z]; decide) q
    · exact z))
end XNAT
/-! reading a changed memory -/
theorem xup_at (M : XM) (k j a b : Nat) (x : Int32) : (xup M k j x).1 a b = if a = k ∧ b = j then x else M.1 a b := by
  unfold xup xum upd
  by_cases ha : a = k
  · subst ha
    by_cases hb : b = j <;> simp [hb]
  · simp [ha]
theorem xup_same (M : XM) (k j : Nat) (x : Int32) : (xup M k j x).1 k j = x := by simp [xup_at]
theorem xup_cell (M : XM) {k j a b : Nat} (x : Int32) (h : a ≠ k) : (xup M k j x).1 a b = M.1 a b := by simp [xup_at, h]
theorem xup_place (M : XM) {k j a b : Nat} (x : Int32) (h : b ≠ j) : (xup M k j x).1 a b = M.1 a b := by simp [xup_at, h]
theorem xum_at (M : XM) (k a b : Nat) (f : Nat → Int32) : (xum M k f).1 a b = if a = k then f b else M.1 a b := by
  unfold xum
  by_cases ha : a = k <;> simp [ha]
theorem xup_2 (M : XM) (k j : Nat) (x : Int32) : (xup M k j x).2 = M.2 := rfl
theorem xum_2 (M : XM) (k : Nat) (f : Nat → Int32) : (xum M k f).2 = M.2 := rfl
theorem xul_1 (M : XM) (k j : Nat) (x : Int64) : (xul M k j x).1 = M.1 := rfl
theorem xul_at (M : XM) (k j a b : Nat) (x : Int64) : (xul M k j x).2 a b = if a = k ∧ b = j then x else M.2 a b := by
  unfold xul
  by_cases ha : a = k
  · subst ha
    by_cases hb : b = j <;> simp [hb]
  · simp [ha]
theorem xm_ext {M N : XM} (h1 : ∀ a b, M.1 a b = N.1 a b) (h2 : ∀ a b, M.2 a b = N.2 a b) : M = N :=
  Prod.ext (funext fun a => funext fun b => h1 a b) (funext fun a => funext fun b => h2 a b)
