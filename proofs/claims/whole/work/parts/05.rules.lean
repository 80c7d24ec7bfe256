section XRULES
variable {g : XG} {l : Launch} {y : XY} {d pc : Nat} {lx : List (Option XV)} {st : List XV} {M : XM} {Q : Option XV → XM → Prop}
theorem xw_iconst {n : Int} {v : Int32} (hd : decode y.2.1 pc = .ok (.iconst n, 1)) (hv : Int32.ofInt n = v) (h : XW g l y d (pc + 1) lx (xi v :: st) M Q) : XW g l y d pc lx (st) M Q := by
  intro p e R s m args below meth c H locs cells slots Qf ls hA hR hH hL hret
  exact lv_iconst hA.1 hA.2.1 hd hv (h p e R s m args below meth c H locs cells slots Qf ls hA hR hH hL hret)
theorem xw_bipush {n : Int} {v : Int32} (hd : decode y.2.1 pc = .ok (.bipush n, 2)) (hv : (Int8.ofInt n).toInt32 = v) (h : XW g l y d (pc + 2) lx (xi v :: st) M Q) : XW g l y d pc lx (st) M Q := by
  intro p e R s m args below meth c H locs cells slots Qf ls hA hR hH hL hret
  exact lv_bipush hA.1 hA.2.1 hd hv (h p e R s m args below meth c H locs cells slots Qf ls hA hR hH hL hret)
theorem xw_sipush {n : Int} {v : Int32} (hd : decode y.2.1 pc = .ok (.sipush n, 3)) (hv : (Int16.ofInt n).toInt32 = v) (h : XW g l y d (pc + 3) lx (xi v :: st) M Q) : XW g l y d pc lx (st) M Q := by
  intro p e R s m args below meth c H locs cells slots Qf ls hA hR hH hL hret
  exact lv_sipush hA.1 hA.2.1 hd hv (h p e R s m args below meth c H locs cells slots Qf ls hA hR hH hL hret)
theorem xw_lconst {n : Fin 2} {v : Int64} (hd : decode y.2.1 pc = .ok (.lconst n, 1)) (hv : Int64.ofNat (n : Nat) = v) (h : XW g l y d (pc + 1) lx (xl v :: st) M Q) : XW g l y d pc lx (st) M Q := by
  intro p e R s m args below meth c H locs cells slots Qf ls hA hR hH hL hret
  exact lv_lconst hA.1 hA.2.1 hd hv (h p e R s m args below meth c H locs cells slots Qf ls hA hR hH hL hret)
theorem xw_ldc {n : Nat} {v : Int32} (hd : decode y.2.1 pc = .ok (.ldc n, 2)) (hc : Cond.constant y.1.cls n v ∈ xTB) (h : XW g l y d (pc + 2) lx (xi v :: st) M Q) : XW g l y d pc lx (st) M Q := by
  intro p e R s m args below meth c H locs cells slots Qf ls hA hR hH hL hret
  exact lv_ldc hA.1 hA.2.1 hA.2.2.2.2.1 (hA.2.2.2.2.2.1 _ hc) hd (h p e R s m args below meth c H locs cells slots Qf ls hA hR hH hL hret)
theorem xw_ldcw {n : Nat} {v : Int32} (hd : decode y.2.1 pc = .ok (.ldc_w n, 3)) (hc : Cond.constant y.1.cls n v ∈ xTB) (h : XW g l y d (pc + 3) lx (xi v :: st) M Q) : XW g l y d pc lx (st) M Q := by
  intro p e R s m args below meth c H locs cells slots Qf ls hA hR hH hL hret
  exact lv_ldcw hA.1 hA.2.1 hA.2.2.2.2.1 (hA.2.2.2.2.2.1 _ hc) hd (h p e R s m args below meth c H locs cells slots Qf ls hA hR hH hL hret)
theorem xw_ldc2 {n : Nat} {v : Int64} (hd : decode y.2.1 pc = .ok (.ldc2_w n, 3)) (hc : Cond.constantLong y.1.cls n v ∈ xTB) (h : XW g l y d (pc + 3) lx (xl v :: st) M Q) : XW g l y d pc lx (st) M Q := by
  intro p e R s m args below meth c H locs cells slots Qf ls hA hR hH hL hret
  exact lv_ldc2 hA.1 hA.2.1 hA.2.2.2.2.1 (hA.2.2.2.2.2.1 _ hc) hd (h p e R s m args below meth c H locs cells slots Qf ls hA hR hH hL hret)
theorem xw_iload_n {k : Fin 4} {x : Int32} (hd : decode y.2.1 pc = .ok (.iload_n k, 1)) (hl : lx[(k : Nat)]? = some (some (xi x))) (h : XW g l y d (pc + 1) lx (xi x :: st) M Q) : XW g l y d pc lx (st) M Q := by
  intro p e R s m args below meth c H locs cells slots Qf ls hA hR hH hL hret
  exact lv_iload_n hA.1 hA.2.1 hd rfl (hL.at hl) (h p e R s m args below meth c H locs cells slots Qf ls hA hR hH hL hret)
theorem xw_iload {i : Nat} {x : Int32} (hd : decode y.2.1 pc = .ok (.iload i, 2)) (hl : lx[i]? = some (some (xi x))) (h : XW g l y d (pc + 2) lx (xi x :: st) M Q) : XW g l y d pc lx (st) M Q := by
  intro p e R s m args below meth c H locs cells slots Qf ls hA hR hH hL hret
  exact lv_iload hA.1 hA.2.1 hd (hL.at hl) (h p e R s m args below meth c H locs cells slots Qf ls hA hR hH hL hret)
theorem xw_lload_n {k : Fin 4} {x : Int64} (hd : decode y.2.1 pc = .ok (.lload_n k, 1)) (hl : lx[(k : Nat)]? = some (some (xl x))) (h : XW g l y d (pc + 1) lx (xl x :: st) M Q) : XW g l y d pc lx (st) M Q := by
  intro p e R s m args below meth c H locs cells slots Qf ls hA hR hH hL hret
  exact lv_lload_n hA.1 hA.2.1 hd rfl (hL.at hl) (h p e R s m args below meth c H locs cells slots Qf ls hA hR hH hL hret)
theorem xw_lload {i : Nat} {x : Int64} (hd : decode y.2.1 pc = .ok (.lload i, 2)) (hl : lx[i]? = some (some (xl x))) (h : XW g l y d (pc + 2) lx (xl x :: st) M Q) : XW g l y d pc lx (st) M Q := by
  intro p e R s m args below meth c H locs cells slots Qf ls hA hR hH hL hret
  exact lv_lload hA.1 hA.2.1 hd (hL.at hl) (h p e R s m args below meth c H locs cells slots Qf ls hA hR hH hL hret)
theorem xw_aload_n {k : Fin 4} {x : Nat} (hd : decode y.2.1 pc = .ok (.aload_n k, 1)) (hl : lx[(k : Nat)]? = some (some (xr x))) (h : XW g l y d (pc + 1) lx (xr x :: st) M Q) : XW g l y d pc lx (st) M Q := by
  intro p e R s m args below meth c H locs cells slots Qf ls hA hR hH hL hret
  exact lv_aload_n hA.1 hA.2.1 hd rfl (hL.at hl) (h p e R s m args below meth c H locs cells slots Qf ls hA hR hH hL hret)
theorem xw_aload {i : Nat} {x : Nat} (hd : decode y.2.1 pc = .ok (.aload i, 2)) (hl : lx[i]? = some (some (xr x))) (h : XW g l y d (pc + 2) lx (xr x :: st) M Q) : XW g l y d pc lx (st) M Q := by
  intro p e R s m args below meth c H locs cells slots Qf ls hA hR hH hL hret
  exact lv_aload hA.1 hA.2.1 hd (hL.at hl) (h p e R s m args below meth c H locs cells slots Qf ls hA hR hH hL hret)
theorem xw_istore_n {k : Fin 4} {x : Int32} (hd : decode y.2.1 pc = .ok (.istore_n k, 1)) (hn : Nat.blt (k : Nat) y.2.2.1 = true) (hok : xok1 lx (k : Nat) = true) (h : XW g l y d (pc + 1) (lx.set (k : Nat) (some (xi x))) st M Q) : XW g l y d pc lx (xi x :: st) M Q := by
  intro p e R s m args below meth c H locs cells slots Qf ls hA hR hH hL hret
  exact lv_istore_n hA.1 hA.2.1 hd rfl hL (Nat.le_of_ble_eq_true hn) rfl (fun ls' hl' => h p e R s m args below meth c H locs cells slots Qf ls' hA hR hH (XL.set hok hl') hret)
theorem xw_istore {i : Nat} {x : Int32} (hd : decode y.2.1 pc = .ok (.istore i, 2)) (hn : Nat.blt i y.2.2.1 = true) (hok : xok1 lx i = true) (h : XW g l y d (pc + 2) (lx.set i (some (xi x))) st M Q) : XW g l y d pc lx (xi x :: st) M Q := by
  intro p e R s m args below meth c H locs cells slots Qf ls hA hR hH hL hret
  exact lv_istore hA.1 hA.2.1 hd hL (Nat.le_of_ble_eq_true hn) rfl (fun ls' hl' => h p e R s m args below meth c H locs cells slots Qf ls' hA hR hH (XL.set hok hl') hret)
theorem xw_astore_n {k : Fin 4} {x : Nat} (hd : decode y.2.1 pc = .ok (.astore_n k, 1)) (hn : Nat.blt (k : Nat) y.2.2.1 = true) (hok : xok1 lx (k : Nat) = true) (h : XW g l y d (pc + 1) (lx.set (k : Nat) (some (xr x))) st M Q) : XW g l y d pc lx (xr x :: st) M Q := by
  intro p e R s m args below meth c H locs cells slots Qf ls hA hR hH hL hret
  exact lv_astore_n hA.1 hA.2.1 hd rfl hL (Nat.le_of_ble_eq_true hn) rfl (fun ls' hl' => h p e R s m args below meth c H locs cells slots Qf ls' hA hR hH (XL.set hok hl') hret)
theorem xw_astore {i : Nat} {x : Nat} (hd : decode y.2.1 pc = .ok (.astore i, 2)) (hn : Nat.blt i y.2.2.1 = true) (hok : xok1 lx i = true) (h : XW g l y d (pc + 2) (lx.set i (some (xr x))) st M Q) : XW g l y d pc lx (xr x :: st) M Q := by
  intro p e R s m args below meth c H locs cells slots Qf ls hA hR hH hL hret
  exact lv_astore hA.1 hA.2.1 hd hL (Nat.le_of_ble_eq_true hn) rfl (fun ls' hl' => h p e R s m args below meth c H locs cells slots Qf ls' hA hR hH (XL.set hok hl') hret)
theorem xw_iinc {i : Nat} {n : Int} {x v : Int32} (hd : decode y.2.1 pc = .ok (.iinc i n, 3)) (hv : Int32.ofInt n = v) (hn : Nat.blt i y.2.2.1 = true) (hok : xok1 lx i = true) (hl : lx[i]? = some (some (xi x))) (h : XW g l y d (pc + 3) (lx.set i (some (xi (x + v)))) st M Q) : XW g l y d pc lx st M Q := by
  subst hv
  intro p e R s m args below meth c H locs cells slots Qf ls hA hR hH hL hret
  have hm : (i, Value.int x) ∈ xlp g 0 lx := xlp_mem.mpr ⟨i, xi x, hl, by rw [Nat.zero_add]; rfl⟩
  obtain ⟨k, hk⟩ := List.getElem?_of_mem hm
  exact lv_iinc hA.1 hA.2.1 hd hL hk rfl (Nat.le_of_ble_eq_true hn) rfl (fun ls' hl' => h p e R s m args below meth c H locs cells slots Qf ls' hA hR hH (XL.set hok hl') hret)
theorem xw_iadd {x y2 : Int32} (hd : decode y.2.1 pc = .ok (.iadd, 1)) (h : XW g l y d (pc + 1) lx (xi (x + y2) :: st) M Q) : XW g l y d pc lx (xi y2 :: xi x :: st) M Q := by
  intro p e R s m args below meth c H locs cells slots Qf ls hA hR hH hL hret
  exact lv_iadd hA.1 hA.2.1 hd (h p e R s m args below meth c H locs cells slots Qf ls hA hR hH hL hret)
theorem xw_isub {x y2 : Int32} (hd : decode y.2.1 pc = .ok (.isub, 1)) (h : XW g l y d (pc + 1) lx (xi (x - y2) :: st) M Q) : XW g l y d pc lx (xi y2 :: xi x :: st) M Q := by
  intro p e R s m args below meth c H locs cells slots Qf ls hA hR hH hL hret
  exact lv_isub hA.1 hA.2.1 hd (h p e R s m args below meth c H locs cells slots Qf ls hA hR hH hL hret)
theorem xw_imul {x y2 : Int32} (hd : decode y.2.1 pc = .ok (.imul, 1)) (h : XW g l y d (pc + 1) lx (xi (x * y2) :: st) M Q) : XW g l y d pc lx (xi y2 :: xi x :: st) M Q := by
  intro p e R s m args below meth c H locs cells slots Qf ls hA hR hH hL hret
  exact lv_imul hA.1 hA.2.1 hd (h p e R s m args below meth c H locs cells slots Qf ls hA hR hH hL hret)
theorem xw_iand {x y2 : Int32} (hd : decode y.2.1 pc = .ok (.iand, 1)) (h : XW g l y d (pc + 1) lx (xi (x &&& y2) :: st) M Q) : XW g l y d pc lx (xi y2 :: xi x :: st) M Q := by
  intro p e R s m args below meth c H locs cells slots Qf ls hA hR hH hL hret
  exact lv_iand hA.1 hA.2.1 hd (h p e R s m args below meth c H locs cells slots Qf ls hA hR hH hL hret)
theorem xw_ior {x y2 : Int32} (hd : decode y.2.1 pc = .ok (.ior, 1)) (h : XW g l y d (pc + 1) lx (xi (x ||| y2) :: st) M Q) : XW g l y d pc lx (xi y2 :: xi x :: st) M Q := by
  intro p e R s m args below meth c H locs cells slots Qf ls hA hR hH hL hret
  exact lv_ior hA.1 hA.2.1 hd (h p e R s m args below meth c H locs cells slots Qf ls hA hR hH hL hret)
theorem xw_ixor {x y2 : Int32} (hd : decode y.2.1 pc = .ok (.ixor, 1)) (h : XW g l y d (pc + 1) lx (xi (x ^^^ y2) :: st) M Q) : XW g l y d pc lx (xi y2 :: xi x :: st) M Q := by
  intro p e R s m args below meth c H locs cells slots Qf ls hA hR hH hL hret
  exact lv_ixor hA.1 hA.2.1 hd (h p e R s m args below meth c H locs cells slots Qf ls hA hR hH hL hret)
theorem xw_ishl {x y2 : Int32} (hd : decode y.2.1 pc = .ok (.ishl, 1)) (h : XW g l y d (pc + 1) lx (xi (x <<< (y2 &&& 31)) :: st) M Q) : XW g l y d pc lx (xi y2 :: xi x :: st) M Q := by
  intro p e R s m args below meth c H locs cells slots Qf ls hA hR hH hL hret
  exact lv_ishl hA.1 hA.2.1 hd (h p e R s m args below meth c H locs cells slots Qf ls hA hR hH hL hret)
theorem xw_ishr {x y2 : Int32} (hd : decode y.2.1 pc = .ok (.ishr, 1)) (h : XW g l y d (pc + 1) lx (xi (x >>> (y2 &&& 31)) :: st) M Q) : XW g l y d pc lx (xi y2 :: xi x :: st) M Q := by
  intro p e R s m args below meth c H locs cells slots Qf ls hA hR hH hL hret
  exact lv_ishr hA.1 hA.2.1 hd (h p e R s m args below meth c H locs cells slots Qf ls hA hR hH hL hret)
theorem xw_iushr {x y2 : Int32} (hd : decode y.2.1 pc = .ok (.iushr, 1)) (h : XW g l y d (pc + 1) lx (xi ((x.toUInt32 >>> (y2.toUInt32 &&& Int32.toUInt32 31)).toInt32) :: st) M Q) : XW g l y d pc lx (xi y2 :: xi x :: st) M Q := by
  intro p e R s m args below meth c H locs cells slots Qf ls hA hR hH hL hret
  exact lv_iushr hA.1 hA.2.1 hd rfl (h p e R s m args below meth c H locs cells slots Qf ls hA hR hH hL hret)
theorem xw_idiv {x y2 : Int32} (hd : decode y.2.1 pc = .ok (.idiv, 1)) (hne : ¬ y2 = 0) (h : XW g l y d (pc + 1) lx (xi (x / y2) :: st) M Q) : XW g l y d pc lx (xi y2 :: xi x :: st) M Q := by
  intro p e R s m args below meth c H locs cells slots Qf ls hA hR hH hL hret
  exact lv_idiv hA.1 hA.2.1 hd hne (h p e R s m args below meth c H locs cells slots Qf ls hA hR hH hL hret)
theorem xw_irem {x y2 : Int32} (hd : decode y.2.1 pc = .ok (.irem, 1)) (hne : ¬ y2 = 0) (h : XW g l y d (pc + 1) lx (xi (x - x / y2 * y2) :: st) M Q) : XW g l y d pc lx (xi y2 :: xi x :: st) M Q := by
  intro p e R s m args below meth c H locs cells slots Qf ls hA hR hH hL hret
  exact lv_irem hA.1 hA.2.1 hd hne (h p e R s m args below meth c H locs cells slots Qf ls hA hR hH hL hret)
theorem xw_ineg {x : Int32} (hd : decode y.2.1 pc = .ok (.ineg, 1)) (h : XW g l y d (pc + 1) lx (xi (-x) :: st) M Q) : XW g l y d pc lx (xi x :: st) M Q := by
  intro p e R s m args below meth c H locs cells slots Qf ls hA hR hH hL hret
  exact lv_ineg hA.1 hA.2.1 hd (h p e R s m args below meth c H locs cells slots Qf ls hA hR hH hL hret)
theorem xw_ladd {x y2 : Int64} (hd : decode y.2.1 pc = .ok (.ladd, 1)) (h : XW g l y d (pc + 1) lx (xl (x + y2) :: st) M Q) : XW g l y d pc lx (xl y2 :: xl x :: st) M Q := by
  intro p e R s m args below meth c H locs cells slots Qf ls hA hR hH hL hret
  exact lv_ladd hA.1 hA.2.1 hd (h p e R s m args below meth c H locs cells slots Qf ls hA hR hH hL hret)
theorem xw_lsub {x y2 : Int64} (hd : decode y.2.1 pc = .ok (.lsub, 1)) (h : XW g l y d (pc + 1) lx (xl (x - y2) :: st) M Q) : XW g l y d pc lx (xl y2 :: xl x :: st) M Q := by
  intro p e R s m args below meth c H locs cells slots Qf ls hA hR hH hL hret
  exact lv_lsub hA.1 hA.2.1 hd (h p e R s m args below meth c H locs cells slots Qf ls hA hR hH hL hret)
theorem xw_lmul {x y2 : Int64} (hd : decode y.2.1 pc = .ok (.lmul, 1)) (h : XW g l y d (pc + 1) lx (xl (x * y2) :: st) M Q) : XW g l y d pc lx (xl y2 :: xl x :: st) M Q := by
  intro p e R s m args below meth c H locs cells slots Qf ls hA hR hH hL hret
  exact lv_lmul hA.1 hA.2.1 hd (h p e R s m args below meth c H locs cells slots Qf ls hA hR hH hL hret)
theorem xw_land {x y2 : Int64} (hd : decode y.2.1 pc = .ok (.land, 1)) (h : XW g l y d (pc + 1) lx (xl (x &&& y2) :: st) M Q) : XW g l y d pc lx (xl y2 :: xl x :: st) M Q := by
  intro p e R s m args below meth c H locs cells slots Qf ls hA hR hH hL hret
  exact lv_land hA.1 hA.2.1 hd (h p e R s m args below meth c H locs cells slots Qf ls hA hR hH hL hret)
theorem xw_lor {x y2 : Int64} (hd : decode y.2.1 pc = .ok (.lor, 1)) (h : XW g l y d (pc + 1) lx (xl (x ||| y2) :: st) M Q) : XW g l y d pc lx (xl y2 :: xl x :: st) M Q := by
  intro p e R s m args below meth c H locs cells slots Qf ls hA hR hH hL hret
  exact lv_lor hA.1 hA.2.1 hd (h p e R s m args below meth c H locs cells slots Qf ls hA hR hH hL hret)
theorem xw_lxor {x y2 : Int64} (hd : decode y.2.1 pc = .ok (.lxor, 1)) (h : XW g l y d (pc + 1) lx (xl (x ^^^ y2) :: st) M Q) : XW g l y d pc lx (xl y2 :: xl x :: st) M Q := by
  intro p e R s m args below meth c H locs cells slots Qf ls hA hR hH hL hret
  exact lv_lxor hA.1 hA.2.1 hd (h p e R s m args below meth c H locs cells slots Qf ls hA hR hH hL hret)
theorem xw_lshl {x : Int64} {y2 : Int32} (hd : decode y.2.1 pc = .ok (.lshl, 1)) (h : XW g l y d (pc + 1) lx (xl (x <<< (y2.toInt64 &&& 63)) :: st) M Q) : XW g l y d pc lx (xi y2 :: xl x :: st) M Q := by
  intro p e R s m args below meth c H locs cells slots Qf ls hA hR hH hL hret
  exact lv_lshl hA.1 hA.2.1 hd rfl (h p e R s m args below meth c H locs cells slots Qf ls hA hR hH hL hret)
theorem xw_lshr {x : Int64} {y2 : Int32} (hd : decode y.2.1 pc = .ok (.lshr, 1)) (h : XW g l y d (pc + 1) lx (xl (x >>> (y2.toInt64 &&& 63)) :: st) M Q) : XW g l y d pc lx (xi y2 :: xl x :: st) M Q := by
  intro p e R s m args below meth c H locs cells slots Qf ls hA hR hH hL hret
  exact lv_lshr hA.1 hA.2.1 hd rfl (h p e R s m args below meth c H locs cells slots Qf ls hA hR hH hL hret)
theorem xw_lcmp {x y2 : Int64} (hd : decode y.2.1 pc = .ok (.lcmp, 1)) (h : XW g l y d (pc + 1) lx (xi (lg_cmp x y2) :: st) M Q) : XW g l y d pc lx (xl y2 :: xl x :: st) M Q := by
  intro p e R s m args below meth c H locs cells slots Qf ls hA hR hH hL hret
  exact W.lcmp hA.1 hA.2.1 hd (h p e R s m args below meth c H locs cells slots Qf ls hA hR hH hL hret)
theorem xw_i2l {x : Int32} (hd : decode y.2.1 pc = .ok (.i2l, 1)) (h : XW g l y d (pc + 1) lx (xl x.toInt64 :: st) M Q) : XW g l y d pc lx (xi x :: st) M Q := by
  intro p e R s m args below meth c H locs cells slots Qf ls hA hR hH hL hret
  exact lv_i2l hA.1 hA.2.1 hd rfl (h p e R s m args below meth c H locs cells slots Qf ls hA hR hH hL hret)
theorem xw_l2i {x : Int64} (hd : decode y.2.1 pc = .ok (.l2i, 1)) (h : XW g l y d (pc + 1) lx (xi x.toInt32 :: st) M Q) : XW g l y d pc lx (xl x :: st) M Q := by
  intro p e R s m args below meth c H locs cells slots Qf ls hA hR hH hL hret
  exact lv_l2i hA.1 hA.2.1 hd rfl (h p e R s m args below meth c H locs cells slots Qf ls hA hR hH hL hret)
theorem xw_i2b {x : Int32} (hd : decode y.2.1 pc = .ok (.i2b, 1)) (h : XW g l y d (pc + 1) lx (xi x.toInt8.toInt32 :: st) M Q) : XW g l y d pc lx (xi x :: st) M Q := by
  intro p e R s m args below meth c H locs cells slots Qf ls hA hR hH hL hret
  exact lv_i2b hA.1 hA.2.1 hd rfl (h p e R s m args below meth c H locs cells slots Qf ls hA hR hH hL hret)
theorem xw_i2s {x : Int32} (hd : decode y.2.1 pc = .ok (.i2s, 1)) (h : XW g l y d (pc + 1) lx (xi x.toInt16.toInt32 :: st) M Q) : XW g l y d pc lx (xi x :: st) M Q := by
  intro p e R s m args below meth c H locs cells slots Qf ls hA hR hH hL hret
  exact lv_i2s hA.1 hA.2.1 hd rfl (h p e R s m args below meth c H locs cells slots Qf ls hA hR hH hL hret)
theorem xw_i2c {x : Int32} (hd : decode y.2.1 pc = .ok (.i2c, 1)) (h : XW g l y d (pc + 1) lx (xi (x.toUInt32 % 65536).toInt32 :: st) M Q) : XW g l y d pc lx (xi x :: st) M Q := by
  intro p e R s m args below meth c H locs cells slots Qf ls hA hR hH hL hret
  exact lv_i2c hA.1 hA.2.1 hd rfl (h p e R s m args below meth c H locs cells slots Qf ls hA hR hH hL hret)
theorem xw_dup {a : XV} (hd : decode y.2.1 pc = .ok (.dup, 1)) (h1 : xcat a = 1) (h : XW g l y d (pc + 1) lx (a :: a :: st) M Q) : XW g l y d pc lx (a :: st) M Q := by
  intro p e R s m args below meth c H locs cells slots Qf ls hA hR hH hL hret
  exact lv_dup hA.1 hA.2.1 hd ((xcat_eq g a).trans h1) (h p e R s m args below meth c H locs cells slots Qf ls hA hR hH hL hret)
theorem xw_dup2 {a b : XV} (hd : decode y.2.1 pc = .ok (.dup2, 1)) (h1 : xcat a = 1) (h2 : xcat b = 1) (h : XW g l y d (pc + 1) lx (a :: b :: a :: b :: st) M Q) : XW g l y d pc lx (a :: b :: st) M Q := by
  intro p e R s m args below meth c H locs cells slots Qf ls hA hR hH hL hret
  exact lv_dup2_11 hA.1 hA.2.1 hd ((xcat_eq g a).trans h1) ((xcat_eq g b).trans h2) (h p e R s m args below meth c H locs cells slots Qf ls hA hR hH hL hret)
theorem xw_dup_x1 {a b : XV} (hd : decode y.2.1 pc = .ok (.dup_x1, 1)) (h1 : xcat a = 1) (h2 : xcat b = 1) (h : XW g l y d (pc + 1) lx (a :: b :: a :: st) M Q) : XW g l y d pc lx (a :: b :: st) M Q := by
  intro p e R s m args below meth c H locs cells slots Qf ls hA hR hH hL hret
  exact lv_dup_x1 hA.1 hA.2.1 hd ((xcat_eq g a).trans h1) ((xcat_eq g b).trans h2) (h p e R s m args below meth c H locs cells slots Qf ls hA hR hH hL hret)
theorem xw_dup_x2 {a b f0 : XV} (hd : decode y.2.1 pc = .ok (.dup_x2, 1)) (h1 : xcat a = 1) (h2 : xcat b = 1) (h3 : xcat f0 = 1) (h : XW g l y d (pc + 1) lx (a :: b :: f0 :: a :: st) M Q) : XW g l y d pc lx (a :: b :: f0 :: st) M Q := by
  intro p e R s m args below meth c H locs cells slots Qf ls hA hR hH hL hret
  exact lv_dup_x2 hA.1 hA.2.1 hd ((xcat_eq g a).trans h1) ((xcat_eq g b).trans h2) ((xcat_eq g f0).trans h3) (h p e R s m args below meth c H locs cells slots Qf ls hA hR hH hL hret)
theorem xw_pop {a : XV} (hd : decode y.2.1 pc = .ok (.pop, 1)) (h1 : xcat a = 1) (h : XW g l y d (pc + 1) lx (st) M Q) : XW g l y d pc lx (a :: st) M Q := by
  intro p e R s m args below meth c H locs cells slots Qf ls hA hR hH hL hret
  exact lv_pop hA.1 hA.2.1 hd ((xcat_eq g a).trans h1) (h p e R s m args below meth c H locs cells slots Qf ls hA hR hH hL hret)
theorem xw_if_eq {x : Int32} {off : Int} {tgt : Nat} (hd : decode y.2.1 pc = .ok (.ifCond .eq off, 3)) (ht : (pc : Int) + off = (tgt : Int)) (kt : x = 0 → XW g l y d tgt lx st M Q) (kf : ¬ (x = 0) → XW g l y d (pc + 3) lx st M Q) : XW g l y d pc lx (xi x :: st) M Q := by
  intro p e R s m args below meth c H locs cells slots Qf ls hA hR hH hL hret
  exact lv_if_eq hA.1 hA.2.1 hd ht (fun q => kt q p e R s m args below meth c H locs cells slots Qf ls hA hR hH hL hret) (fun q => kf q p e R s m args below meth c H locs cells slots Qf ls hA hR hH hL hret)
theorem xw_if_ne {x : Int32} {off : Int} {tgt : Nat} (hd : decode y.2.1 pc = .ok (.ifCond .ne off, 3)) (ht : (pc : Int) + off = (tgt : Int)) (kt : ¬ x = 0 → XW g l y d tgt lx st M Q) (kf : x = 0 → XW g l y d (pc + 3) lx st M Q) : XW g l y d pc lx (xi x :: st) M Q := by
  intro p e R s m args below meth c H locs cells slots Qf ls hA hR hH hL hret
  exact lv_if_ne hA.1 hA.2.1 hd ht (fun q => kt q p e R s m args below meth c H locs cells slots Qf ls hA hR hH hL hret) (fun q => kf q p e R s m args below meth c H locs cells slots Qf ls hA hR hH hL hret)
theorem xw_if_lt {x : Int32} {off : Int} {tgt : Nat} (hd : decode y.2.1 pc = .ok (.ifCond .lt off, 3)) (ht : (pc : Int) + off = (tgt : Int)) (kt : x < 0 → XW g l y d tgt lx st M Q) (kf : ¬ (x < 0) → XW g l y d (pc + 3) lx st M Q) : XW g l y d pc lx (xi x :: st) M Q := by
  intro p e R s m args below meth c H locs cells slots Qf ls hA hR hH hL hret
  exact lv_if_lt hA.1 hA.2.1 hd ht (fun q => kt q p e R s m args below meth c H locs cells slots Qf ls hA hR hH hL hret) (fun q => kf q p e R s m args below meth c H locs cells slots Qf ls hA hR hH hL hret)
theorem xw_if_ge {x : Int32} {off : Int} {tgt : Nat} (hd : decode y.2.1 pc = .ok (.ifCond .ge off, 3)) (ht : (pc : Int) + off = (tgt : Int)) (kt : 0 ≤ x → XW g l y d tgt lx st M Q) (kf : ¬ (0 ≤ x) → XW g l y d (pc + 3) lx st M Q) : XW g l y d pc lx (xi x :: st) M Q := by
  intro p e R s m args below meth c H locs cells slots Qf ls hA hR hH hL hret
  exact lv_if_ge hA.1 hA.2.1 hd ht (fun q => kt q p e R s m args below meth c H locs cells slots Qf ls hA hR hH hL hret) (fun q => kf q p e R s m args below meth c H locs cells slots Qf ls hA hR hH hL hret)
theorem xw_if_gt {x : Int32} {off : Int} {tgt : Nat} (hd : decode y.2.1 pc = .ok (.ifCond .gt off, 3)) (ht : (pc : Int) + off = (tgt : Int)) (kt : 0 < x → XW g l y d tgt lx st M Q) (kf : ¬ (0 < x) → XW g l y d (pc + 3) lx st M Q) : XW g l y d pc lx (xi x :: st) M Q := by
  intro p e R s m args below meth c H locs cells slots Qf ls hA hR hH hL hret
  exact lv_if_gt hA.1 hA.2.1 hd ht (fun q => kt q p e R s m args below meth c H locs cells slots Qf ls hA hR hH hL hret) (fun q => kf q p e R s m args below meth c H locs cells slots Qf ls hA hR hH hL hret)
theorem xw_if_le {x : Int32} {off : Int} {tgt : Nat} (hd : decode y.2.1 pc = .ok (.ifCond .le off, 3)) (ht : (pc : Int) + off = (tgt : Int)) (kt : x ≤ 0 → XW g l y d tgt lx st M Q) (kf : ¬ (x ≤ 0) → XW g l y d (pc + 3) lx st M Q) : XW g l y d pc lx (xi x :: st) M Q := by
  intro p e R s m args below meth c H locs cells slots Qf ls hA hR hH hL hret
  exact lv_if_le hA.1 hA.2.1 hd ht (fun q => kt q p e R s m args below meth c H locs cells slots Qf ls hA hR hH hL hret) (fun q => kf q p e R s m args below meth c H locs cells slots Qf ls hA hR hH hL hret)
theorem xw_icmp_eq {x y2 : Int32} {off : Int} {tgt : Nat} (hd : decode y.2.1 pc = .ok (.if_icmp .eq off, 3)) (ht : (pc : Int) + off = (tgt : Int)) (kt : x = y2 → XW g l y d tgt lx st M Q) (kf : ¬ (x = y2) → XW g l y d (pc + 3) lx st M Q) : XW g l y d pc lx (xi y2 :: xi x :: st) M Q := by
  intro p e R s m args below meth c H locs cells slots Qf ls hA hR hH hL hret
  exact lv_icmp_eq hA.1 hA.2.1 hd ht (fun q => kt q p e R s m args below meth c H locs cells slots Qf ls hA hR hH hL hret) (fun q => kf q p e R s m args below meth c H locs cells slots Qf ls hA hR hH hL hret)
theorem xw_icmp_ne {x y2 : Int32} {off : Int} {tgt : Nat} (hd : decode y.2.1 pc = .ok (.if_icmp .ne off, 3)) (ht : (pc : Int) + off = (tgt : Int)) (kt : ¬ x = y2 → XW g l y d tgt lx st M Q) (kf : x = y2 → XW g l y d (pc + 3) lx st M Q) : XW g l y d pc lx (xi y2 :: xi x :: st) M Q := by
  intro p e R s m args below meth c H locs cells slots Qf ls hA hR hH hL hret
  exact lv_icmp_ne hA.1 hA.2.1 hd ht (fun q => kt q p e R s m args below meth c H locs cells slots Qf ls hA hR hH hL hret) (fun q => kf q p e R s m args below meth c H locs cells slots Qf ls hA hR hH hL hret)
theorem xw_icmp_lt {x y2 : Int32} {off : Int} {tgt : Nat} (hd : decode y.2.1 pc = .ok (.if_icmp .lt off, 3)) (ht : (pc : Int) + off = (tgt : Int)) (kt : x < y2 → XW g l y d tgt lx st M Q) (kf : ¬ (x < y2) → XW g l y d (pc + 3) lx st M Q) : XW g l y d pc lx (xi y2 :: xi x :: st) M Q := by
  intro p e R s m args below meth c H locs cells slots Qf ls hA hR hH hL hret
  exact lv_icmp_lt hA.1 hA.2.1 hd ht (fun q => kt q p e R s m args below meth c H locs cells slots Qf ls hA hR hH hL hret) (fun q => kf q p e R s m args below meth c H locs cells slots Qf ls hA hR hH hL hret)
theorem xw_icmp_ge {x y2 : Int32} {off : Int} {tgt : Nat} (hd : decode y.2.1 pc = .ok (.if_icmp .ge off, 3)) (ht : (pc : Int) + off = (tgt : Int)) (kt : y2 ≤ x → XW g l y d tgt lx st M Q) (kf : ¬ (y2 ≤ x) → XW g l y d (pc + 3) lx st M Q) : XW g l y d pc lx (xi y2 :: xi x :: st) M Q := by
  intro p e R s m args below meth c H locs cells slots Qf ls hA hR hH hL hret
  exact lv_icmp_ge hA.1 hA.2.1 hd ht (fun q => kt q p e R s m args below meth c H locs cells slots Qf ls hA hR hH hL hret) (fun q => kf q p e R s m args below meth c H locs cells slots Qf ls hA hR hH hL hret)
theorem xw_icmp_gt {x y2 : Int32} {off : Int} {tgt : Nat} (hd : decode y.2.1 pc = .ok (.if_icmp .gt off, 3)) (ht : (pc : Int) + off = (tgt : Int)) (kt : y2 < x → XW g l y d tgt lx st M Q) (kf : ¬ (y2 < x) → XW g l y d (pc + 3) lx st M Q) : XW g l y d pc lx (xi y2 :: xi x :: st) M Q := by
  intro p e R s m args below meth c H locs cells slots Qf ls hA hR hH hL hret
  exact lv_icmp_gt hA.1 hA.2.1 hd ht (fun q => kt q p e R s m args below meth c H locs cells slots Qf ls hA hR hH hL hret) (fun q => kf q p e R s m args below meth c H locs cells slots Qf ls hA hR hH hL hret)
theorem xw_icmp_le {x y2 : Int32} {off : Int} {tgt : Nat} (hd : decode y.2.1 pc = .ok (.if_icmp .le off, 3)) (ht : (pc : Int) + off = (tgt : Int)) (kt : x ≤ y2 → XW g l y d tgt lx st M Q) (kf : ¬ (x ≤ y2) → XW g l y d (pc + 3) lx st M Q) : XW g l y d pc lx (xi y2 :: xi x :: st) M Q := by
  intro p e R s m args below meth c H locs cells slots Qf ls hA hR hH hL hret
  exact lv_icmp_le hA.1 hA.2.1 hd ht (fun q => kt q p e R s m args below meth c H locs cells slots Qf ls hA hR hH hL hret) (fun q => kf q p e R s m args below meth c H locs cells slots Qf ls hA hR hH hL hret)
theorem xw_goto {off : Int} {tgt : Nat} (hd : decode y.2.1 pc = .ok (.goto off, 3)) (ht : (pc : Int) + off = (tgt : Int)) (h : XW g l y d tgt lx st M Q) : XW g l y d pc lx st M Q := by
  intro p e R s m args below meth c H locs cells slots Qf ls hA hR hH hL hret
  exact lv_goto hA.1 hA.2.1 hd ht (h p e R s m args below meth c H locs cells slots Qf ls hA hR hH hL hret)
theorem xw_tabIn {dflt lo hi : Int} {offs : Array Int} {len : Nat} {x : Int32} {off : Int} {tgt : Nat} (hd : decode y.2.1 pc = .ok (.tableswitch dflt lo hi offs, len)) (h1 : ¬ x.toInt < lo) (h2 : ¬ hi < x.toInt) (ho : offs[(x.toInt - lo).toNat]? = some off) (ht : (pc : Int) + off = (tgt : Int)) (h : XW g l y d tgt lx st M Q) : XW g l y d pc lx (xi x :: st) M Q := by
  intro p e R s m args below meth c H locs cells slots Qf ls hA hR hH hL hret
  exact lv_tableIn hA.1 hA.2.1 hd h1 h2 ho ht (h p e R s m args below meth c H locs cells slots Qf ls hA hR hH hL hret)
theorem xw_tabOut {dflt lo hi : Int} {offs : Array Int} {len : Nat} {x : Int32} {tgt : Nat} (hd : decode y.2.1 pc = .ok (.tableswitch dflt lo hi offs, len)) (h1 : x.toInt < lo ∨ hi < x.toInt) (ht : (pc : Int) + dflt = (tgt : Int)) (h : XW g l y d tgt lx st M Q) : XW g l y d pc lx (xi x :: st) M Q := by
  intro p e R s m args below meth c H locs cells slots Qf ls hA hR hH hL hret
  exact lv_tableOut hA.1 hA.2.1 hd h1 ht (h p e R s m args below meth c H locs cells slots Qf ls hA hR hH hL hret)
theorem xw_ireti {v : Int32} (hd : decode y.2.1 pc = .ok (.ireturn, 1)) (hr : y.2.2.2 = some .int) (hq : Q (some (xi v)) M) : XW g l y d pc lx [xi v] M Q := by
  intro p e R s m args below meth c H locs cells slots Qf ls hA hR hH hL hret
  exact hret (some (xi v)) M H locs pc ls hq hH ⟨hd, .int, hr, vp_nar_int v⟩
theorem xw_iretN {v : Int32} {ty : FieldType} (hd : decode y.2.1 pc = .ok (.ireturn, 1)) (hr : y.2.2.2 = some ty) (hn : narrow ty (.int v) = .int v) (hq : Q (some (xi v)) M) : XW g l y d pc lx [xi v] M Q := by
  intro p e R s m args below meth c H locs cells slots Qf ls hA hR hH hL hret
  exact hret (some (xi v)) M H locs pc ls hq hH ⟨hd, ty, hr, hn⟩
theorem xw_iretz {v : Int32} (hd : decode y.2.1 pc = .ok (.ireturn, 1)) (hr : y.2.2.2 = some .boolean) (hv : v = 0 ∨ v = 1) (hq : Q (some (xi v)) M) : XW g l y d pc lx [xi v] M Q :=
  xw_iretN hd hr (by rcases hv with rfl | rfl <;> rfl) hq
theorem xw_ret (hd : decode y.2.1 pc = .ok (.return_, 1)) (hr : y.2.2.2 = none) (hq : Q none M) : XW g l y d pc lx [] M Q := by
  intro p e R s m args below meth c H locs cells slots Qf ls hA hR hH hL hret
  exact hret none M H locs pc ls hq hH ⟨hd, hr⟩
theorem xw_aret {k : Nat} {rt : FieldType} (hd : decode y.2.1 pc = .ok (.areturn, 1)) (hr : y.2.2.2 = some rt) (ho : (∃ n, rt = .object n) ∨ ∃ t, rt = .array t) (hq : Q (some (xr k)) M) : XW g l y d pc lx [xr k] M Q := by
  intro p e R s m args below meth c H locs cells slots Qf ls hA hR hH hL hret
  exact hret (some (xr k)) M H locs pc ls hq hH ⟨hd, rt, hr, ho⟩
/-- own's constant idx is field j of class ci -/
def XFL (own : String) (idx ci j : Nat) : Prop := ∃ (C : String) (T : u_T) (N : Nat), vwCl[ci]? = some (C, T, N) ∧ j < N ∧ Cond.fieldLink own idx C (T j).2.1 (T j).2.2.1 ∈ xTB ∧ (∀ w ∈ u_ws C T N, w ∈ xTB) ∧ (T j).1 = C
def XFP (own : String) (idx ci j : Nat) (ty : FieldType) : Prop := ∃ (C : String) (T : u_T) (N : Nat) (ty0 : Nat → FieldType), vwCl[ci]? = some (C, T, N) ∧ j < N ∧ Cond.fieldLink own idx C (T j).2.1 (T j).2.2.1 ∈ xTB ∧ (∀ w ∈ u_ws C T N, w ∈ xTB) ∧ (T j).1 = C ∧ (∀ k, k < N → parseFieldDescriptor (T k).2.2.1 = some (ty0 k)) ∧ (∀ a, a < N → ∀ b, b < N → a ≠ b → (T a).2.1 ≠ (T b).2.1) ∧ (T j).2.2.2 = false ∧ ty0 j = ty
theorem xw_getF {idx ci j k : Nat} {ks : List (Option (Option Nat))} {f : Option (Option Nat)} {v : XV} (hd : decode y.2.1 pc = .ok (.getfield idx, 3)) (hl : XFL y.1.cls idx ci j) (hs : xsh[k]? = some (.inl (ci, ks))) (hj : ks[j]? = some f) (hv : ∀ g, xfv g M k j f = xcv g v) (h : XW g l y d (pc + 3) lx (v :: st) M Q) : XW g l y d pc lx (xr k :: st) M Q := by
  intro p e R s m args below meth c H locs cells slots Qf ls hA hR hH hL hret
  obtain ⟨C, T, N, hc, hjN, hlk, hin, hT⟩ := hl
  have he : (xws g M)[k]? = some (g.2.1 k, .inr (ci, ks.mapIdx (fun j f => xfv g M k j f))) := xws_at hs
  exact va_get (D := g.1) (v := xcv g v) (C := C) (T := T) (N := N) (ref := C) hA.1 hA.2.1 hA.2.2.2.2.2.1 hin hA.2.2.2.2.1 hA.2.2.2.2.2.2.2.1 hH.1 k he hc j hjN (hA.2.2.2.2.2.1 _ hlk) (fun x hx => by rw [hT] at hx; exact hx) (by rw [List.getElem?_mapIdx, hj]; exact congrArg some (hv g)) hd (h p e R s m args below meth c H locs cells slots Qf ls hA hR hH hL hret)
theorem xw_getI {idx ci j k : Nat} {ks : List (Option (Option Nat))} (hd : decode y.2.1 pc = .ok (.getfield idx, 3)) (hl : XFL y.1.cls idx ci j) (hs : xsh[k]? = some (.inl (ci, ks))) (hj : ks[j]? = some none) (h : XW g l y d (pc + 3) lx (xi (M.1 k j) :: st) M Q) : XW g l y d pc lx (xr k :: st) M Q := xw_getF hd hl hs hj (fun _ => rfl) h
theorem xw_getL {idx ci j k : Nat} {ks : List (Option (Option Nat))} (hd : decode y.2.1 pc = .ok (.getfield idx, 3)) (hl : XFL y.1.cls idx ci j) (hs : xsh[k]? = some (.inl (ci, ks))) (hj : ks[j]? = some (some none)) (h : XW g l y d (pc + 3) lx (xl (M.2 k j) :: st) M Q) : XW g l y d pc lx (xr k :: st) M Q := xw_getF hd hl hs hj (fun _ => rfl) h
theorem xw_getR {idx ci j k r : Nat} {ks : List (Option (Option Nat))} (hd : decode y.2.1 pc = .ok (.getfield idx, 3)) (hl : XFL y.1.cls idx ci j) (hs : xsh[k]? = some (.inl (ci, ks))) (hj : ks[j]? = some (some (some r))) (h : XW g l y d (pc + 3) lx (xr r :: st) M Q) : XW g l y d pc lx (xr k :: st) M Q := xw_getF hd hl hs hj (fun _ => rfl) h
theorem xw_putI {idx ci j k : Nat} {ks : List (Option (Option Nat))} {v : Int32} (hd : decode y.2.1 pc = .ok (.putfield idx, 3)) (hl : XFP y.1.cls idx ci j .int) (hs : xsh[k]? = some (.inl (ci, ks))) (hj : ks[j]? = some none) (h : XW g l y d (pc + 3) lx st (xup M k j v) Q) : XW g l y d pc lx (xi v :: xr k :: st) M Q := by
  intro p e R s m args below meth c H locs cells slots Qf ls hA hR hH hL hret
  obtain ⟨C, T, N, ty0, hc, hjN, hlk, hin, hT, hty, hnm, hfin, ht⟩ := hl
  have he : (xws g M)[k]? = some (g.2.1 k, .inr (ci, ks.mapIdx (fun j f => xfv g M k j f))) := xws_at hs
  refine va_put (D := g.1) (v := .int v) (ty := .int) (C := C) (T := T) (N := N) (ref := C) hA.1 hA.2.1 hA.2.2.2.2.2.1 hin ty0 hty hnm hA.2.2.2.2.1 hA.2.2.2.2.2.2.2.1 hH.1 hH.2.1 hH.2.2 k he hc j hjN (hA.2.2.2.2.2.1 _ hlk) (fun x hx => by rw [hT] at hx; exact hx) hfin (by rw [hty j hjN, ht]) (vp_nar_int v) rfl (by have := (List.getElem?_eq_some_iff.mp hj).1; simpa using this) hd (fun H1 locs1 hP hD hS => ?_)
  rw [xws_setI hs hj] at hP hD
  exact h p e R s m args below meth c H1 locs1 cells slots Qf ls hA hR ⟨hP, hD, hS⟩ hL hret
theorem xw_putL {idx ci j k : Nat} {ks : List (Option (Option Nat))} {v : Int64} (hd : decode y.2.1 pc = .ok (.putfield idx, 3)) (hl : XFP y.1.cls idx ci j .long) (hs : xsh[k]? = some (.inl (ci, ks))) (hj : ks[j]? = some (some none)) (h : XW g l y d (pc + 3) lx st (xul M k j v) Q) : XW g l y d pc lx (xl v :: xr k :: st) M Q := by
  intro p e R s m args below meth c H locs cells slots Qf ls hA hR hH hL hret
  obtain ⟨C, T, N, ty0, hc, hjN, hlk, hin, hT, hty, hnm, hfin, ht⟩ := hl
  have he : (xws g M)[k]? = some (g.2.1 k, .inr (ci, ks.mapIdx (fun j f => xfv g M k j f))) := xws_at hs
  refine va_put (D := g.1) (v := .long v) (ty := .long) (C := C) (T := T) (N := N) (ref := C) hA.1 hA.2.1 hA.2.2.2.2.2.1 hin ty0 hty hnm hA.2.2.2.2.1 hA.2.2.2.2.2.2.2.1 hH.1 hH.2.1 hH.2.2 k he hc j hjN (hA.2.2.2.2.2.1 _ hlk) (fun x hx => by rw [hT] at hx; exact hx) hfin (by rw [hty j hjN, ht]) rfl rfl (by have := (List.getElem?_eq_some_iff.mp hj).1; simpa using this) hd (fun H1 locs1 hP hD hS => ?_)
  rw [xws_setL hs hj] at hP hD
  exact h p e R s m args below meth c H1 locs1 cells slots Qf ls hA hR ⟨hP, hD, hS⟩ hL hret
theorem xw_iald {k n : Nat} {i : Int32} (hd : decode y.2.1 pc = .ok (.iaload, 1)) (hs : xsh[k]? = some (.inr (0, n))) (hin : vp_in i n) (h : XW g l y d (pc + 1) lx (xi (M.1 k i.toNatClampNeg) :: st) M Q) : XW g l y d pc lx (xi i :: xr k :: st) M Q := by
  intro p e R s m args below meth c H locs cells slots Qf ls hA hR hH hL hret
  exact va_iald hA.1 hA.2.1 hA.2.2.2.2.2.2.2.1 hH.1 k 0 (xws_atA hs (by decide)) rfl hin hd (h p e R s m args below meth c H locs cells slots Qf ls hA hR hH hL hret)
theorem xw_bald {k n : Nat} {i : Int32} (hd : decode y.2.1 pc = .ok (.baload, 1)) (hs : xsh[k]? = some (.inr (1, n))) (hin : vp_in i n) (h : XW g l y d (pc + 1) lx (xi (M.1 k i.toNatClampNeg) :: st) M Q) : XW g l y d pc lx (xi i :: xr k :: st) M Q := by
  intro p e R s m args below meth c H locs cells slots Qf ls hA hR hH hL hret
  exact va_bald hA.1 hA.2.1 hA.2.2.2.2.2.2.2.1 hH.1 k 1 (xws_atA hs (by decide)) rfl hin hd (h p e R s m args below meth c H locs cells slots Qf ls hA hR hH hL hret)
theorem xw_zald {k n : Nat} {i : Int32} (hd : decode y.2.1 pc = .ok (.baload, 1)) (hs : xsh[k]? = some (.inr (2, n))) (hin : vp_in i n) (h : XW g l y d (pc + 1) lx (xi (M.1 k i.toNatClampNeg) :: st) M Q) : XW g l y d pc lx (xi i :: xr k :: st) M Q := by
  intro p e R s m args below meth c H locs cells slots Qf ls hA hR hH hL hret
  exact va_zald hA.1 hA.2.1 hA.2.2.2.2.2.2.2.1 hH.1 k 2 (xws_atA hs (by decide)) rfl hin hd (h p e R s m args below meth c H locs cells slots Qf ls hA hR hH hL hret)
theorem xw_aald {k n : Nat} {i : Int32} (hd : decode y.2.1 pc = .ok (.aaload, 1)) (hs : xsh[k]? = some (.inr (3, n))) (hin : vp_in i n) (h : XW g l y d (pc + 1) lx (xr (xrf k i.toNatClampNeg) :: st) M Q) : XW g l y d pc lx (xi i :: xr k :: st) M Q := by
  intro p e R s m args below meth c H locs cells slots Qf ls hA hR hH hL hret
  exact va_aldq (C := "LieSlides$Field") hA.1 hA.2.1 hA.2.2.2.2.2.2.2.1 hH.1 k 3 (xws_at hs) rfl hin hd (h p e R s m args below meth c H locs cells slots Qf ls hA hR hH hL hret)
theorem xw_iast {k n : Nat} {i x : Int32} (hd : decode y.2.1 pc = .ok (.iastore, 1)) (hs : xsh[k]? = some (.inr (0, n))) (hin : vp_in i n) (h : XW g l y d (pc + 1) lx st (xup M k i.toNatClampNeg x) Q) : XW g l y d pc lx (xi x :: xi i :: xr k :: st) M Q := by
  intro p e R s m args below meth c H locs cells slots Qf ls hA hR hH hL hret
  refine va_iast hA.1 hA.2.1 hA.2.2.2.2.2.2.2.1 hH.1 hH.2.1 hH.2.2 k 0 (xws_atA hs (by decide)) rfl hin hd (fun H1 locs1 hP hD hS => ?_)
  rw [xws_setA hs (by decide)] at hP hD
  exact h p e R s m args below meth c H1 locs1 cells slots Qf ls hA hR ⟨hP, hD, hS⟩ hL hret
theorem xw_bast {k n : Nat} {i x : Int32} (hd : decode y.2.1 pc = .ok (.bastore, 1)) (hs : xsh[k]? = some (.inr (1, n))) (hin : vp_in i n) (h : XW g l y d (pc + 1) lx st (xup M k i.toNatClampNeg (vp_nar .byte x)) Q) : XW g l y d pc lx (xi x :: xi i :: xr k :: st) M Q := by
  intro p e R s m args below meth c H locs cells slots Qf ls hA hR hH hL hret
  refine va_bast hA.1 hA.2.1 hA.2.2.2.2.2.2.2.1 hH.1 hH.2.1 hH.2.2 k 1 (xws_atA hs (by decide)) rfl hin hd (fun H1 locs1 hP hD hS => ?_)
  rw [xws_setA hs (by decide)] at hP hD
  exact h p e R s m args below meth c H1 locs1 cells slots Qf ls hA hR ⟨hP, hD, hS⟩ hL hret
theorem xw_zast {k n : Nat} {i x : Int32} (hd : decode y.2.1 pc = .ok (.bastore, 1)) (hs : xsh[k]? = some (.inr (2, n))) (hin : vp_in i n) (h : XW g l y d (pc + 1) lx st (xup M k i.toNatClampNeg (vp_nar .boolean x)) Q) : XW g l y d pc lx (xi x :: xi i :: xr k :: st) M Q := by
  intro p e R s m args below meth c H locs cells slots Qf ls hA hR hH hL hret
  refine va_zast hA.1 hA.2.1 hA.2.2.2.2.2.2.2.1 hH.1 hH.2.1 hH.2.2 k 2 (xws_atA hs (by decide)) rfl hin hd (fun H1 locs1 hP hD hS => ?_)
  rw [xws_setA hs (by decide)] at hP hD
  exact h p e R s m args below meth c H1 locs1 cells slots Qf ls hA hR ⟨hP, hD, hS⟩ hL hret
/-! what is only read -/
theorem xw_getsT {idx j : Nat} (hd : decode y.2.1 pc = .ok (.getstatic idx, 3)) (hj : j < 3) (hlk : Cond.fieldLink y.1.cls idx (xtc j) (xtn j) "[I" ∈ xTB) (h : XW g l y d (pc + 3) lx (xr (1000 + j) :: st) M Q) : XW g l y d pc lx st M Q := by
  intro p e R s m args below meth c H locs cells slots Qf ls hA hR hH hL hret
  exact va_gets hA.1 hA.2.1 (hA.2.2.2.2.2.2.2.2.1 j hj).2 hH.2.2 hA.2.2.2.2.1 (hA.2.2.2.2.2.1 _ hlk) (fun _ h9 => h9) hd (h p e R s m args below meth c H locs cells slots Qf ls hA hR hH hL hret)
theorem xw_getsC {idx : Nat} (hd : decode y.2.1 pc = .ok (.getstatic idx, 3)) (hlk : Cond.fieldLink y.1.cls idx "java/lang/String" "COMPACT_STRINGS" "Z" ∈ xTB) (h : XW g l y d (pc + 3) lx (xi 1 :: st) M Q) : XW g l y d pc lx st M Q := by
  intro p e R s m args below meth c H locs cells slots Qf ls hA hR hH hL hret
  exact va_gets hA.1 hA.2.1 hA.2.2.2.2.2.2.2.2.2.2.1.1 hH.2.2 hA.2.2.2.2.1 (hA.2.2.2.2.2.1 _ hlk) (fun _ h9 => h9) hd (h p e R s m args below meth c H locs cells slots Qf ls hA hR hH hL hret)
theorem xw_ialdT {j k : Nat} {i : Int32} (hd : decode y.2.1 pc = .ok (.iaload, 1)) (hk : k = 1000 + j) (hj : j < 3) (hin : vp_in i 6) (h : XW g l y d (pc + 1) lx (xi (xtab j i.toNatClampNeg) :: st) M Q) : XW g l y d pc lx (xi i :: xr k :: st) M Q := by
  subst hk
  intro p e R s m args below meth c H locs cells slots Qf ls hA hR hH hL hret
  exact va_ti hA.1 hA.2.1 (hA.2.2.2.2.2.2.2.2.1 j hj).1 hH.2.2 hin rfl hd (h p e R s m args below meth c H locs cells slots Qf ls hA hR hH hL hret)
theorem xw_ialdS {i : Int32} (hd : decode y.2.1 pc = .ok (.iaload, 1)) (hin : vp_in i g.2.2.2.2.1) (h : XW g l y d (pc + 1) lx (xi (g.2.2.2.2.2 i.toNatClampNeg) :: st) M Q) : XW g l y d pc lx (xi i :: xr 1003 :: st) M Q := by
  intro p e R s m args below meth c H locs cells slots Qf ls hA hR hH hL hret
  exact va_ti hA.1 hA.2.1 hA.2.2.2.2.2.2.2.2.2.1 hH.2.2 hin rfl hd (h p e R s m args below meth c H locs cells slots Qf ls hA hR hH hL hret)
theorem xw_alenS (hd : decode y.2.1 pc = .ok (.arraylength, 1)) (h : XW g l y d (pc + 1) lx (xi (Int32.ofNat g.2.2.2.2.1) :: st) M Q) : XW g l y d pc lx (xr 1003 :: st) M Q := by
  intro p e R s m args below meth c H locs cells slots Qf ls hA hR hH hL hret
  exact va_tlen hA.1 hA.2.1 hA.2.2.2.2.2.2.2.2.2.1 hH.2.2 rfl hd (h p e R s m args below meth c H locs cells slots Qf ls hA hR hH hL hret)
theorem xw_ldcS {idx i : Nat} (hd : decode y.2.1 pc = .ok (.ldc idx, 2)) (hy : y.1.cls = "LieSlides$Reader") (hi : i < 9) (hx : xsx i = idx) (h : XW g l y d (pc + 2) lx (xr (1100 + i) :: st) M Q) : XW g l y d pc lx st M Q := by
  subst hx
  intro p e R s m args below meth c H locs cells slots Qf ls hA hR hH hL hret
  exact va_ldcS hA.1 hA.2.1 (own := "LieSlides$Reader") (by rw [← hy]; exact hA.2.2.2.2.1) (hA.2.2.2.2.2.2.2.2.2.2.2.2 i hi) hd (h p e R s m args below meth c H locs cells slots Qf ls hA hR hH hL hret)
theorem xw_getSv {idx i k : Nat} (hd : decode y.2.1 pc = .ok (.getfield idx, 3)) (hk : k = 1100 + i) (hi : i < 9) (hlk : Cond.fieldLink y.1.cls idx "java/lang/String" "value" "[B" ∈ xTB) (h : XW g l y d (pc + 3) lx (xr (1200 + i) :: st) M Q) : XW g l y d pc lx (xr k :: st) M Q := by
  subst hk
  intro p e R s m args below meth c H locs cells slots Qf ls hA hR hH hL hret
  exact vk_getf hA.1 hA.2.1 (hA.2.2.2.2.2.2.2.2.2.2.2.1.1 i hi).2.2.1 hH.2.2 hA.2.2.2.2.1 (hA.2.2.2.2.2.1 _ hlk) (fun _ h9 => h9) hd (h p e R s m args below meth c H locs cells slots Qf ls hA hR hH hL hret)
theorem xw_getSc {idx i k : Nat} (hd : decode y.2.1 pc = .ok (.getfield idx, 3)) (hk : k = 1100 + i) (hi : i < 9) (hlk : Cond.fieldLink y.1.cls idx "java/lang/String" "coder" "B" ∈ xTB) (h : XW g l y d (pc + 3) lx (xi 0 :: st) M Q) : XW g l y d pc lx (xr k :: st) M Q := by
  subst hk
  intro p e R s m args below meth c H locs cells slots Qf ls hA hR hH hL hret
  exact vk_getf hA.1 hA.2.1 (hA.2.2.2.2.2.2.2.2.2.2.2.1.1 i hi).2.1 hH.2.2 hA.2.2.2.2.1 (hA.2.2.2.2.2.1 _ hlk) (fun _ h9 => h9) hd (h p e R s m args below meth c H locs cells slots Qf ls hA hR hH hL hret)
theorem xw_baldS {i k : Nat} {j : Int32} (hd : decode y.2.1 pc = .ok (.baload, 1)) (hk : k = 1200 + i) (hi : i < 9) (hin : vp_in j (xln.getD i 0)) (h : XW g l y d (pc + 1) lx (xi ((xby.getD i []).getD j.toNatClampNeg 0) :: st) M Q) : XW g l y d pc lx (xi j :: xr k :: st) M Q := by
  subst hk
  intro p e R s m args below meth c H locs cells slots Qf ls hA hR hH hL hret
  exact va_tb hA.1 hA.2.1 (hA.2.2.2.2.2.2.2.2.2.2.2.1.1 i hi).2.2.2 hH.2.2 hin rfl hd (h p e R s m args below meth c H locs cells slots Qf ls hA hR hH hL hret)
theorem xw_alenB {i k : Nat} (hd : decode y.2.1 pc = .ok (.arraylength, 1)) (hk : k = 1200 + i) (hi : i < 9) (h : XW g l y d (pc + 1) lx (xi (Int32.ofNat (xln.getD i 0)) :: st) M Q) : XW g l y d pc lx (xr k :: st) M Q := by
  subst hk
  intro p e R s m args below meth c H locs cells slots Qf ls hA hR hH hL hret
  exact va_tlen hA.1 hA.2.1 (hA.2.2.2.2.2.2.2.2.2.2.2.1.1 i hi).2.2.2 hH.2.2 rfl hd (h p e R s m args below meth c H locs cells slots Qf ls hA hR hH hL hret)
/-! calls -/
def XLV (own : String) (idx : Nat) (z : XY) : Prop := Cond.methodLink own idx z.1 ∈ xTB ∧ Cond.instanceMethod z.1 ∈ xTB ∧ Cond.selects z.1.cls z.1 z.1 ∈ xTB ∧ Cond.initialized z.1.cls ∈ xTB
def XLS (own : String) (idx : Nat) (z : XY) : Prop := Cond.methodLink own idx z.1 ∈ xTB ∧ Cond.static z.1 ∈ xTB ∧ Cond.initialized z.1.cls ∈ xTB
theorem xgood (z : XY) (n : Nat) (hz : XOk z n) : GoodIn xTB (xmw z) := by
  intro w hw
  rcases List.mem_cons.mp hw with rfl | hw
  · exact ⟨xTB_of hz.1 rfl, Or.inl rfl⟩
  · exact ⟨hw, good_of_word (List.mem_filter.mp hw).2⟩
theorem xpc_blind (as : List XV) : FrameBlind (XPc g as M) := by
  intro a U f mk hq
  obtain ⟨q0, qK, qP, qD, qR⟩ := hq
  exact ⟨q0, va_K.moved (u := U) (U := U.calling f mk a) (Vm.Alike.refl U.vm) qK, qP, qD, qR.call f mk a⟩
theorem xrun_go {p : Program} {e : Env} {R : Room} {s : State} {m : MethodId} {args : Array Value} {below : List Frame} {meth : Method} {c : Code} {H : Heap} {locs : List Loc} {cells slots : Nat} {Qf : State → Prop} {ls : Array Slot} {rest : List XV} {st0 : List Value} {a : Array Value} {Q' : Option XV → XM → Prop}
    (hr : va_Run p l e R s m args below meth c H locs cells slots 0 0 (F0 m pc ls st0) (rest.map (xcv g)) (XQc g Q' a) (xA g)) (hS : va_S (xA g) s.heap H locs)
    (hk : ∀ (r : Option XV) (M' : XM) (H' : Heap) (locs' : List Loc), Q' r M' → XH g M' s H' locs' → W p l e R s m args below meth c H' locs' cells slots Qf (F0 m (pc + 3) ls ((r.toList ++ rest).map (xcv g)))) :
    W p l e R s m args below meth c H locs cells slots Qf (F0 m pc ls st0) := by
  intro T hT X
  obtain ⟨v, st₀, t, T', L, h0, X', hL, e1, e2, ⟨⟨r, M', hv, hq, hP, hD⟩, hz, hkp⟩, st⟩ := hr T hT X
  cases hv
  rw [h0] at hz hkp
  have hS' : va_S (xA g) s.heap T'.heap (locs ++ L) := ⟨Nat.le_trans hS.1 (by rw [e1]; exact hz), fun q h1 h2 => by rw [e1, hkp q (Nat.lt_of_lt_of_le h1 hS.1) h2]; exact hS.2.1 q h1 h2, fun q hq => by
      rcases List.mem_append.mp hq with h | h
      · exact hS.2.2 q h
      · exact hL q h⟩
  obtain ⟨t2, a1, b1⟩ := hk r M' T'.heap (locs ++ L) hq ⟨by rw [e1]; exact hP, hD, hS'⟩ T' rfl X'
  refine ⟨t2, st t2 ?_, b1⟩
  have e3 : (r.map (xcv g)).toList ++ rest.map (xcv g) = (r.toList ++ rest).map (xcv g) := by cases r <;> simp
  rw [e3]
  exact a1
theorem xw_callV {z : XY} {k idx n ci N : Nat} {T : u_T} {as rest : List XV} {ks : List (Option (Option Nat))} {Q' : Option XV → XM → Prop} (hd : decode y.2.1 pc = .ok (.invokevirtual idx, 3)) (hz : XOk z n) (hl : XLV y.1.cls idx z) (hs : xsh[k]? = some (.inl (ci, ks))) (hc : vwCl[ci]? = some (z.1.cls, T, N)) (hn : as.length = n) (hw : Nat.ble (xcs rest) 8 = true) (ha : Nat.ble (xcs (xr k :: as)) z.2.2.1 = true)
    (hb : XW g l z d 0 (xent z.2.2.1 (xr k :: as)) [] M Q') (hk : ∀ r M', Q' r M' → XW g l y (d + 1) (pc + 3) lx (r.toList ++ rest) M' Q) : XW g l y (d + 1) pc lx (as.reverse ++ xr k :: rest) M Q := by
  intro p e R s m args below meth c H locs cells slots Qf ls hA hR hH hL hret
  have hts := hA.2.2.2.2.2.1
  have hcb := callB_of (R := R) (own := y.1.cls) (index := idx) (y := z.1) (bytes := z.2.1) (maxL := z.2.2.1) (ret := z.2.2.2) (rm := xroom d) (mc := 0) (ms := 0) n hts (xgood z n hz) rfl rfl rfl (hts _ hl.2.2.2) (hts _ hl.1) hz.2.2.1 ⟨hR.1, by have := hR.2.1; have := hz.2.2.2; show 8 + (z.2.2.1 + 11) + 60 * d ≤ R.locals; omega⟩
  have hrec := va_recv hA.2.2.2.2.2.2.2.1 hH.1 hc (xws_at hs)
  refine xrun_go (Q' := Q') (va_runV (nL := y.2.2.1) (As := as.map (xcv g)) (rest := rest.map (xcv g)) (b := g.2.1 k) (C := z.1.cls) ⟨hA.1, hA.2.1, hA.2.2.2.1, hA.2.2.2.2.1, hts⟩ (xmet (as := xr k :: as) hz ha hb) ⟨hcb, hts _ hl.2.1, hts _ hl.2.2.1⟩ ⟨xpc_blind _, hrec, fun U hU hW => ⟨rfl, va_K.moved hW.alike hA.2.2.2.2.2.2.2.1, by rw [hU]; exact hH.1, hH.2.1, hA.2.2.2.2.2.2.2.2.move hW (fun a h1 h2 => by rw [hU]; exact hH.2.2.2.1 a h1 h2)⟩⟩ rfl (by rw [List.length_map]; exact hn) hL.1 (by simp [xcv]) (lv_room (by rw [xcs_eq]; exact Nat.le_of_ble_eq_true hw)) hd ⟨hR.2.2.1, hR.2.2.2⟩) hH.2.2 (fun r M' H' locs' hq hH' => hk r M' hq p e R s m args below meth c H' locs' cells slots Qf ls hA hR hH' hL hret)
theorem xw_callS {z : XY} {idx n : Nat} {as rest : List XV} {Q' : Option XV → XM → Prop} (hd : decode y.2.1 pc = .ok (.invokestatic idx, 3)) (hz : XOk z n) (hl : XLS y.1.cls idx z) (hn : as.length = n) (hw : Nat.ble (xcs rest) 8 = true) (ha : Nat.ble (xcs as) z.2.2.1 = true)
    (hb : XW g l z d 0 (xent z.2.2.1 as) [] M Q') (hk : ∀ r M', Q' r M' → XW g l y (d + 1) (pc + 3) lx (r.toList ++ rest) M' Q) : XW g l y (d + 1) pc lx (as.reverse ++ rest) M Q := by
  intro p e R s m args below meth c H locs cells slots Qf ls hA hR hH hL hret
  have hts := hA.2.2.2.2.2.1
  have hcb := callB_of (R := R) (own := y.1.cls) (index := idx) (y := z.1) (bytes := z.2.1) (maxL := z.2.2.1) (ret := z.2.2.2) (rm := xroom d) (mc := 0) (ms := 0) n hts (xgood z n hz) rfl rfl rfl (hts _ hl.2.2) (hts _ hl.1) hz.2.2.1 ⟨hR.1, by have := hR.2.1; have := hz.2.2.2; show 8 + (z.2.2.1 + 11) + 60 * d ≤ R.locals; omega⟩
  refine xrun_go (Q' := Q') (va_runS (nL := y.2.2.1) (As := as.map (xcv g)) (rest := rest.map (xcv g)) ⟨hA.1, hA.2.1, hA.2.2.2.1, hA.2.2.2.2.1, hts⟩ (xmet (as := as) hz ha hb) ⟨hcb, hts _ hl.2.1⟩ ⟨xpc_blind _, fun U hU hW => ⟨rfl, va_K.moved hW.alike hA.2.2.2.2.2.2.2.1, by rw [hU]; exact hH.1, hH.2.1, hA.2.2.2.2.2.2.2.2.move hW (fun a h1 h2 => by rw [hU]; exact hH.2.2.2.1 a h1 h2)⟩⟩ rfl (by rw [List.length_map]; exact hn) hL.1 (by simp) (lv_room (by rw [xcs_eq]; exact Nat.le_of_ble_eq_true hw)) hd ⟨hR.2.2.1, hR.2.2.2⟩) hH.2.2 (fun r M' H' locs' hq hH' => hk r M' hq p e R s m args below meth c H' locs' cells slots Qf ls hA hR hH' hL hret)
theorem xw_callT {z : XY} {i k idx n : Nat} {as rest : List XV} {Q' : Option XV → XM → Prop} (hd : decode y.2.1 pc = .ok (.invokevirtual idx, 3)) (hz : XOk z n) (hl : XLV y.1.cls idx z) (hk1 : k = 1100 + i) (hi : i < 9) (hc : z.1.cls = "java/lang/String") (hn : as.length = n) (hw : Nat.ble (xcs rest) 8 = true) (ha : Nat.ble (xcs (xr k :: as)) z.2.2.1 = true)
    (hb : XW g l z d 0 (xent z.2.2.1 (xr k :: as)) [] M Q') (hk : ∀ r M', Q' r M' → XW g l y (d + 1) (pc + 3) lx (r.toList ++ rest) M' Q) : XW g l y (d + 1) pc lx (as.reverse ++ xr k :: rest) M Q := by
  intro p e R s m args below meth c H locs cells slots Qf ls hA hR hH hL hret
  have hts := hA.2.2.2.2.2.1
  have hcb := callB_of (R := R) (own := y.1.cls) (index := idx) (y := z.1) (bytes := z.2.1) (maxL := z.2.2.1) (ret := z.2.2.2) (rm := xroom d) (mc := 0) (ms := 0) n hts (xgood z n hz) rfl rfl rfl (hts _ hl.2.2.2) (hts _ hl.1) hz.2.2.1 ⟨hR.1, by have := hR.2.1; have := hz.2.2.2; show 8 + (z.2.2.1 + 11) + 60 * d ≤ R.locals; omega⟩
  have hrec := vk_recv hA.2.2.2.2.2.2.2.2.2.2.2.1 hi hH.2.2
  rw [← hc, ← hk1] at hrec
  refine xrun_go (Q' := Q') (va_runV (nL := y.2.2.1) (As := as.map (xcv g)) (rest := rest.map (xcv g)) (b := g.2.1 k) (C := z.1.cls) ⟨hA.1, hA.2.1, hA.2.2.2.1, hA.2.2.2.2.1, hts⟩ (xmet (as := xr k :: as) hz ha hb) ⟨hcb, hts _ hl.2.1, hts _ hl.2.2.1⟩ ⟨xpc_blind _, hrec, fun U hU hW => ⟨rfl, va_K.moved hW.alike hA.2.2.2.2.2.2.2.1, by rw [hU]; exact hH.1, hH.2.1, hA.2.2.2.2.2.2.2.2.move hW (fun a h1 h2 => by rw [hU]; exact hH.2.2.2.1 a h1 h2)⟩⟩ rfl (by rw [List.length_map]; exact hn) hL.1 (by simp [xcv]) (lv_room (by rw [xcs_eq]; exact Nat.le_of_ble_eq_true hw)) hd ⟨hR.2.2.1, hR.2.2.2⟩) hH.2.2 (fun r M' H' locs' hq hH' => hk r M' hq p e R s m args below meth c H' locs' cells slots Qf ls hA hR hH' hL hret)
/-- the formatter, a reference or null that nobody asks, carried to a call of (int, int, formatter) -/
theorem xw_fmt {z : XY} {idx i2 : Nat} {a b : Int32} {v : XV} {M1 : XM} {rest : List XV} (hd : decode y.2.1 pc = .ok (.getstatic idx, 3)) (hlk : Cond.fieldLink y.1.cls idx "jdk/internal/util/Preconditions" "SIOOBE_FORMATTER" "Ljava/util/function/BiFunction;" ∈ xTB) (hd2 : decode y.2.1 (pc + 3) = .ok (.invokestatic i2, 3)) (hz : XOk z 3) (hl : XLS y.1.cls i2 z) (hw : Nat.ble (xcs rest) 8 = true) (ha : Nat.ble 3 z.2.2.1 = true)
    (hb : XW g l z d 0 [some (xi a), some (xi b), none] [] M (fun r M' => r = some v ∧ M' = M1)) (h : XW g l y (d + 1) (pc + 3 + 3) lx (v :: rest) M1 Q) : XW g l y (d + 1) pc lx (xi b :: xi a :: rest) M Q := by
  intro p e R s m args below meth c H locs cells slots Qf ls hA hR hH hL hret
  have hts := hA.2.2.2.2.2.1
  have hcb := callB_of (R := R) (own := y.1.cls) (index := i2) (y := z.1) (bytes := z.2.1) (maxL := z.2.2.1) (ret := z.2.2.2) (rm := xroom d) (mc := 0) (ms := 0) 3 hts (xgood z 3 hz) rfl rfl rfl (hts _ hl.2.2) (hts _ hl.1) hz.2.2.1 ⟨hR.1, by have := hR.2.1; have := hz.2.2.2; show 8 + (z.2.2.1 + 11) + 60 * d ≤ R.locals; omega⟩
  have key : ∀ w : Value, w.category = 1 → W p l e R s m args below meth c H locs cells slots Qf (F0 m (pc + 3) ls (w :: .int b :: .int a :: rest.map (xcv g))) := by
    intro w hw1
    have hm : (lg_sl [.int a, .int b, w]).length ≤ z.2.2.1 := by
      have h3 := Nat.le_of_ble_eq_true ha
      have : (lg_sl [.int a, .int b, w]).length = 3 := by
        cases w <;> first | rfl | (exfalso; revert hw1; decide) | (simp [Value.category] at hw1)
      omega
    have hq : ∀ q ∈ xlp g 0 [some (xi a), some (xi b), none], q ∈ lv_args 0 [Value.int a, .int b, w] := by
      intro q hq
      simp only [xlp, xcv, List.mem_cons, List.not_mem_nil, or_false] at hq
      simp only [lv_args, Value.category, List.mem_cons]
      rcases hq with rfl | rfl
      · exact Or.inl rfl
      · exact Or.inr (Or.inl rfl)
    refine xrun_go (Q' := fun r M' => r = some v ∧ M' = M1) (va_runS (nL := y.2.2.1) (As := [.int a, .int b, w]) (rest := rest.map (xcv g)) ⟨hA.1, hA.2.1, hA.2.2.2.1, hA.2.2.2.2.1, hts⟩ (xmetV (vs := [.int a, .int b, w]) hz hm hq hb) ⟨hcb, hts _ hl.2.1⟩ ⟨fun a U f mk hq => by
      obtain ⟨q0, qK, qP, qD, qR⟩ := hq
      exact ⟨q0, va_K.moved (u := U) (U := U.calling f mk a) (Vm.Alike.refl U.vm) qK, qP, qD, qR.call f mk a⟩, fun U hU hW => ⟨rfl, va_K.moved hW.alike hA.2.2.2.2.2.2.2.1, by rw [hU]; exact hH.1, hH.2.1, hA.2.2.2.2.2.2.2.2.move hW (fun a h1 h2 => by rw [hU]; exact hH.2.2.2.1 a h1 h2)⟩⟩ rfl rfl hL.1 (by simp) (lv_room (by rw [xcs_eq]; exact Nat.le_of_ble_eq_true hw)) hd2 ⟨hR.2.2.1, hR.2.2.2⟩) hH.2.2 (fun r M' H' locs' hq hH' => by
        obtain ⟨rfl, rfl⟩ := hq
        exact h p e R s m args below meth c H' locs' cells slots Qf ls hA hR hH' hL hret)
  rcases hA.2.2.2.2.2.2.2.2.2.2.1.2 with hz0 | ⟨t, hz0⟩
  · exact va_gets hA.1 hA.2.1 hz0 hH.2.2 hA.2.2.2.2.1 (hA.2.2.2.2.2.1 _ hlk) (fun _ h9 => h9) hd (key .null rfl)
  · exact va_gets hA.1 hA.2.1 hz0 hH.2.2 hA.2.2.2.2.1 (hA.2.2.2.2.2.1 _ hlk) (fun _ h9 => h9) hd (key (.ref t) rfl)
/-! Math.max, Math.min, System.arraycopy -/
theorem xw_mmax {idx : Nat} {a b : Int32} {rest : List XV} (hd : decode y.2.1 pc = .ok (.invokestatic idx, 3)) (hl : Cond.methodLink y.1.cls idx Lib.Math.max.name ∈ xTB) (hz : Cond.static Lib.Math.max.name ∈ xTB ∧ Cond.initialized "java/lang/Math" ∈ xTB ∧ Cond.code Lib.Math.max.name Lib.Math.max.code 2 (some .int) ∈ lw_tbl) (hw : Nat.ble (xcs rest) 8 = true) (h : XW g l y (d + 1) (pc + 3) lx (xi (if a < b then b else a) :: rest) M Q) : XW g l y (d + 1) pc lx (xi b :: xi a :: rest) M Q := by
  intro p e R s m args below meth c H locs cells slots Qf ls hA hR hH hL hret
  have hts := hA.2.2.2.2.2.1
  exact va_mmax hA.1 hA.2.1 (hA.2.2.2.1.trans hL.1.symm) hA.2.2.2.2.1 (hts _ hl) (hts _ hz.1) (hts _ hz.2.1) (hts _ (xTB_of hz.2.2 rfl)) (by have := hR.1; omega) (by rw [xcs_eq]; have := hR.2.1; have := Nat.le_of_ble_eq_true hw; omega) hR.2.2.1 hR.2.2.2 hd (h p e R s m args below meth c H locs cells slots Qf ls hA hR hH hL hret)
theorem xw_mmin {idx : Nat} {a b : Int32} {rest : List XV} (hd : decode y.2.1 pc = .ok (.invokestatic idx, 3)) (hl : Cond.methodLink y.1.cls idx Lib.Math.min.name ∈ xTB) (hz : Cond.static Lib.Math.min.name ∈ xTB ∧ Cond.initialized "java/lang/Math" ∈ xTB ∧ Cond.code Lib.Math.min.name Lib.Math.min.code 2 (some .int) ∈ lw_tbl) (hw : Nat.ble (xcs rest) 8 = true) (h : XW g l y (d + 1) (pc + 3) lx (xi (if b < a then b else a) :: rest) M Q) : XW g l y (d + 1) pc lx (xi b :: xi a :: rest) M Q := by
  intro p e R s m args below meth c H locs cells slots Qf ls hA hR hH hL hret
  have hts := hA.2.2.2.2.2.1
  exact va_mmin hA.1 hA.2.1 (hA.2.2.2.1.trans hL.1.symm) hA.2.2.2.2.1 (hts _ hl) (hts _ hz.1) (hts _ hz.2.1) (hts _ (xTB_of hz.2.2 rfl)) (by have := hR.1; omega) (by rw [xcs_eq]; have := hR.2.1; have := Nat.le_of_ble_eq_true hw; omega) hR.2.2.1 hR.2.2.2 hd (h p e R s m args below meth c H locs cells slots Qf ls hA hR hH hL hret)
theorem xw_acopy {idx k0 k1 n0 n1 : Nat} {sp dp n : Int32} {rest : List XV} (hd : decode y.2.1 pc = .ok (.invokestatic idx, 3)) (hl : Cond.methodLink y.1.cls idx arraycopyName ∈ xTB) (hz : Cond.native arraycopyName ∈ xTB ∧ Cond.static arraycopyName ∈ xTB ∧ Cond.initialized "java/lang/System" ∈ xTB) (hw : Nat.ble (xcs rest) 8 = true) (hs0 : xsh[k0]? = some (.inr (0, n0))) (hs1 : xsh[k1]? = some (.inr (0, n1)))
    (h1 : ¬ sp < 0) (h2 : ¬ dp < 0) (h3 : ¬ n < 0) (h4 : sp.toNatClampNeg + n.toNatClampNeg ≤ n0) (h5 : dp.toNatClampNeg + n.toNatClampNeg ≤ n1) (h : XW g l y (d + 1) (pc + 3) lx rest (xum M k1 (va_cpy (M.1 k0) (M.1 k1) sp.toNatClampNeg dp.toNatClampNeg n.toNatClampNeg)) Q) : XW g l y (d + 1) pc lx (xi n :: xi dp :: xr k1 :: xi sp :: xr k0 :: rest) M Q := by
  intro p e R s m args below meth c H locs cells slots Qf ls hA hR hH hL hret
  have hts := hA.2.2.2.2.2.1
  have e9 : nativeFrameWords "java/lang/System" "arraycopy" 5 = 7 := by decide
  refine va_copyi (ty := .int) hA.1 hA.2.1 (hA.2.2.2.1.trans hL.1.symm) hA.2.2.2.2.1 (hts _ hl) (hts _ hz.1) (hts _ hz.2.1) (hts _ hz.2.2) hA.2.2.2.2.2.2.2.1 hH.1 hH.2.1 hH.2.2 k0 k1 0 0 (xws_atA hs0 (by decide)) (xws_atA hs1 (by decide)) rfl rfl rfl h1 h2 h3 h4 h5 (fun _ _ => rfl) (by have := hR.1; omega) (by rw [xcs_eq]; have := hR.2.1; have := Nat.le_of_ble_eq_true hw; omega) hd (fun H1 locs1 hP hD hS => ?_)
  rw [xws_setA hs1 (by decide)] at hP hD
  exact h p e R s m args below meth c H1 locs1 cells slots Qf ls hA hR ⟨hP, hD, hS⟩ hL hret
end XRULES
