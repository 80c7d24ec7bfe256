/-! THE CONSTRUCTORS, one by one -/
section CONSWALK
variable {D : va_G} {cc : Nat → ClassId} {l : Launch} {d : Nat}
set_option maxRecDepth 20000 in
theorem co_int : Cond.arrayClass .int ∈ xTB := xTB_of (xtb_1 (List.mem_of_getElem? (i := 41) rfl)) rfl
set_option maxRecDepth 20000 in
theorem co_byte : Cond.arrayClass .byte ∈ xTB := xTB_of (xtb_1 (List.mem_of_getElem? (i := 107) rfl)) rfl
set_option maxRecDepth 20000 in
theorem co_boolean : Cond.arrayClass .boolean ∈ xTB := xTB_of (xtb_4 (List.mem_of_getElem? (i := 120) rfl)) rfl
set_option maxRecDepth 20000 in
theorem co_oi : Cond.instanceMethod Lib.objectInit ∈ xTB := xTB_of (xtb_1 (List.mem_of_getElem? (i := 23) rfl)) rfl
set_option maxRecDepth 20000 in
theorem co_oc : Cond.code Lib.objectInit ⟨#[0xb1]⟩ 1 none ∈ xTB := xTB_of (xtb_1 (List.mem_of_getElem? (i := 24) rfl)) rfl
set_option maxRecDepth 20000 in
theorem ff_X1_24 : XFF RX1 24 1 4 (.array .int) := ⟨RX1, TX1, 11, tyX1, rfl, by decide, xTB_of (xtb_1 (List.mem_of_getElem? (i := 66) rfl)) rfl, xin_X1, rfl, tyX1_ok, nmX1, rfl, rfl, rfl⟩
set_option maxRecDepth 20000 in
theorem ff_X1_28 : XFF RX1 28 1 5 (.array .int) := ⟨RX1, TX1, 11, tyX1, rfl, by decide, xTB_of (xtb_1 (List.mem_of_getElem? (i := 68) rfl)) rfl, xin_X1, rfl, tyX1_ok, nmX1, rfl, rfl, rfl⟩
set_option maxRecDepth 20000 in
theorem ff_X1_31 : XFF RX1 31 1 6 (.array .int) := ⟨RX1, TX1, 11, tyX1, rfl, by decide, xTB_of (xtb_1 (List.mem_of_getElem? (i := 70) rfl)) rfl, xin_X1, rfl, tyX1_ok, nmX1, rfl, rfl, rfl⟩
set_option maxRecDepth 20000 in
theorem ff_X1_34 : XFF RX1 34 1 7 (.array .int) := ⟨RX1, TX1, 11, tyX1, rfl, by decide, xTB_of (xtb_1 (List.mem_of_getElem? (i := 73) rfl)) rfl, xin_X1, rfl, tyX1_ok, nmX1, rfl, rfl, rfl⟩
set_option maxRecDepth 20000 in
theorem ff_X1_37 : XFF RX1 37 1 8 (.array .int) := ⟨RX1, TX1, 11, tyX1, rfl, by decide, xTB_of (xtb_1 (List.mem_of_getElem? (i := 75) rfl)) rfl, xin_X1, rfl, tyX1_ok, nmX1, rfl, rfl, rfl⟩
set_option maxRecDepth 20000 in
theorem ff_X1_40 : XFF RX1 40 1 9 (.array .int) := ⟨RX1, TX1, 11, tyX1, rfl, by decide, xTB_of (xtb_1 (List.mem_of_getElem? (i := 78) rfl)) rfl, xin_X1, rfl, tyX1_ok, nmX1, rfl, rfl, rfl⟩
set_option maxRecDepth 20000 in
theorem ff_X1_43 : XFF RX1 43 1 10 (.array .int) := ⟨RX1, TX1, 11, tyX1, rfl, by decide, xTB_of (xtb_1 (List.mem_of_getElem? (i := 81) rfl)) rfl, xin_X1, rfl, tyX1_ok, nmX1, rfl, rfl, rfl⟩
set_option maxRecDepth 100000 in
set_option maxHeartbeats 4000000 in
theorem co_X1 (h0 : Nat) : CW D cc l mX1_init (d + 1) 0 [(0, .ref h0)] [] [(h0, .inr (1, [.int 0, .int 0, .int 0, .int 0, .null, .null, .null, .null, .null, .null, .null]))] 7 46 (fun w => ∃ (q1 : Nat) (q2 : Nat) (q3 : Nat) (q4 : Nat) (q5 : Nat) (q6 : Nat) (q7 : Nat), w = [(h0, .inr (1, [.int 0, .int 0, .int 0, .int 0, .ref q1, .ref q2, .ref q3, .ref q4, .ref q5, .ref q6, .ref q7])), (q1, cz (cc 0) 8), (q2, cz (cc 0) 8), (q3, cz (cc 0) 6), (q4, cz (cc 0) 6), (q5, cz (cc 0) 6), (q6, cz (cc 0) 6), (q7, cz (cc 0) 6)]) := by
  refine cw_aload (i := 0) dX1_init_0 rfl ?_
  refine cw_obj dX1_init_1 (xTB_of (xtb_1 (List.mem_of_getElem? (i := 53) rfl)) rfl) co_oi co_oc rfl ?_
  refine cw_aload (i := 0) dX1_init_4 rfl ?_
  refine cw_iconst (v := 0) dX1_init_5 (by decide) ?_
  refine cw_putI (q0 := 0) (ws' := [(h0, .inr (1, [.int 0, .int 0, .int 0, .int 0, .null, .null, .null, .null, .null, .null, .null]))]) dX1_init_6 fp_X1_9 rfl rfl rfl ?_
  refine cw_aload (i := 0) dX1_init_9 rfl ?_
  refine cw_iconst (v := 0) dX1_init_10 (by decide) ?_
  refine cw_putI (q0 := 0) (ws' := [(h0, .inr (1, [.int 0, .int 0, .int 0, .int 0, .null, .null, .null, .null, .null, .null, .null]))]) dX1_init_11 fp_X1_15 rfl rfl rfl ?_
  refine cw_aload (i := 0) dX1_init_14 rfl ?_
  refine cw_iconst (v := 0) dX1_init_15 (by decide) ?_
  refine cw_putI (q0 := 0) (ws' := [(h0, .inr (1, [.int 0, .int 0, .int 0, .int 0, .null, .null, .null, .null, .null, .null, .null]))]) dX1_init_16 fp_X1_18 rfl rfl rfl ?_
  refine cw_aload (i := 0) dX1_init_19 rfl ?_
  refine cw_iconst (v := 0) dX1_init_20 (by decide) ?_
  refine cw_putI (q0 := 0) (ws' := [(h0, .inr (1, [.int 0, .int 0, .int 0, .int 0, .null, .null, .null, .null, .null, .null, .null]))]) dX1_init_21 fp_X1_21 rfl rfl rfl ?_
  refine cw_aload (i := 0) dX1_init_24 rfl ?_
  refine cw_bipush (v := 8) dX1_init_25 (by decide) ?_
  refine cw_newI (N' := 8) (mc := 6) (ms := 38) dX1_init_27 co_int (by decide) (by decide) rfl (fun q1 => ?_)
  refine cw_putR (q0 := 0) (ws' := [(h0, .inr (1, [.int 0, .int 0, .int 0, .int 0, .ref q1, .null, .null, .null, .null, .null, .null])), (q1, cz (cc 0) 8)]) dX1_init_29 ff_X1_24 rfl rfl rfl rfl rfl ?_
  refine cw_aload (i := 0) dX1_init_32 rfl ?_
  refine cw_bipush (v := 8) dX1_init_33 (by decide) ?_
  refine cw_newI (N' := 8) (mc := 5) (ms := 30) dX1_init_35 co_int (by decide) (by decide) rfl (fun q2 => ?_)
  refine cw_putR (q0 := 0) (ws' := [(h0, .inr (1, [.int 0, .int 0, .int 0, .int 0, .ref q1, .ref q2, .null, .null, .null, .null, .null])), (q1, cz (cc 0) 8), (q2, cz (cc 0) 8)]) dX1_init_37 ff_X1_28 rfl rfl rfl rfl rfl ?_
  refine cw_aload (i := 0) dX1_init_40 rfl ?_
  refine cw_bipush (v := 6) dX1_init_41 (by decide) ?_
  refine cw_newI (N' := 6) (mc := 4) (ms := 24) dX1_init_43 co_int (by decide) (by decide) rfl (fun q3 => ?_)
  refine cw_putR (q0 := 0) (ws' := [(h0, .inr (1, [.int 0, .int 0, .int 0, .int 0, .ref q1, .ref q2, .ref q3, .null, .null, .null, .null])), (q1, cz (cc 0) 8), (q2, cz (cc 0) 8), (q3, cz (cc 0) 6)]) dX1_init_45 ff_X1_31 rfl rfl rfl rfl rfl ?_
  refine cw_aload (i := 0) dX1_init_48 rfl ?_
  refine cw_bipush (v := 6) dX1_init_49 (by decide) ?_
  refine cw_newI (N' := 6) (mc := 3) (ms := 18) dX1_init_51 co_int (by decide) (by decide) rfl (fun q4 => ?_)
  refine cw_putR (q0 := 0) (ws' := [(h0, .inr (1, [.int 0, .int 0, .int 0, .int 0, .ref q1, .ref q2, .ref q3, .ref q4, .null, .null, .null])), (q1, cz (cc 0) 8), (q2, cz (cc 0) 8), (q3, cz (cc 0) 6), (q4, cz (cc 0) 6)]) dX1_init_53 ff_X1_34 rfl rfl rfl rfl rfl ?_
  refine cw_aload (i := 0) dX1_init_56 rfl ?_
  refine cw_bipush (v := 6) dX1_init_57 (by decide) ?_
  refine cw_newI (N' := 6) (mc := 2) (ms := 12) dX1_init_59 co_int (by decide) (by decide) rfl (fun q5 => ?_)
  refine cw_putR (q0 := 0) (ws' := [(h0, .inr (1, [.int 0, .int 0, .int 0, .int 0, .ref q1, .ref q2, .ref q3, .ref q4, .ref q5, .null, .null])), (q1, cz (cc 0) 8), (q2, cz (cc 0) 8), (q3, cz (cc 0) 6), (q4, cz (cc 0) 6), (q5, cz (cc 0) 6)]) dX1_init_61 ff_X1_37 rfl rfl rfl rfl rfl ?_
  refine cw_aload (i := 0) dX1_init_64 rfl ?_
  refine cw_bipush (v := 6) dX1_init_65 (by decide) ?_
  refine cw_newI (N' := 6) (mc := 1) (ms := 6) dX1_init_67 co_int (by decide) (by decide) rfl (fun q6 => ?_)
  refine cw_putR (q0 := 0) (ws' := [(h0, .inr (1, [.int 0, .int 0, .int 0, .int 0, .ref q1, .ref q2, .ref q3, .ref q4, .ref q5, .ref q6, .null])), (q1, cz (cc 0) 8), (q2, cz (cc 0) 8), (q3, cz (cc 0) 6), (q4, cz (cc 0) 6), (q5, cz (cc 0) 6), (q6, cz (cc 0) 6)]) dX1_init_69 ff_X1_40 rfl rfl rfl rfl rfl ?_
  refine cw_aload (i := 0) dX1_init_72 rfl ?_
  refine cw_bipush (v := 6) dX1_init_73 (by decide) ?_
  refine cw_newI (N' := 6) (mc := 0) (ms := 0) dX1_init_75 co_int (by decide) (by decide) rfl (fun q7 => ?_)
  refine cw_putR (q0 := 0) (ws' := [(h0, .inr (1, [.int 0, .int 0, .int 0, .int 0, .ref q1, .ref q2, .ref q3, .ref q4, .ref q5, .ref q6, .ref q7])), (q1, cz (cc 0) 8), (q2, cz (cc 0) 8), (q3, cz (cc 0) 6), (q4, cz (cc 0) 6), (q5, cz (cc 0) 6), (q6, cz (cc 0) 6), (q7, cz (cc 0) 6)]) dX1_init_77 ff_X1_43 rfl rfl rfl rfl rfl ?_
  exact cw_ret dX1_init_80 rfl rfl ⟨q1, q2, q3, q4, q5, q6, q7, rfl⟩
set_option maxRecDepth 20000 in
theorem ff_X3_9 : XFF RX3 9 3 0 (.array .int) := ⟨RX3, TX3, 4, tyX3, rfl, by decide, xTB_of (xtb_1 (List.mem_of_getElem? (i := 145) rfl)) rfl, xin_X3, rfl, tyX3_ok, nmX3, rfl, rfl, rfl⟩
set_option maxRecDepth 20000 in
theorem ff_X3_13 : XFF RX3 13 3 1 (.array .int) := ⟨RX3, TX3, 4, tyX3, rfl, by decide, xTB_of (xtb_1 (List.mem_of_getElem? (i := 146) rfl)) rfl, xin_X3, rfl, tyX3_ok, nmX3, rfl, rfl, rfl⟩
set_option maxRecDepth 100000 in
set_option maxHeartbeats 4000000 in
theorem co_X3 (h0 : Nat) : CW D cc l mX3_init (d + 1) 0 [(0, .ref h0)] [] [(h0, .inr (3, [.null, .null, .int 0, .int 0]))] 2 48 (fun w => ∃ (q1 : Nat) (q2 : Nat), w = [(h0, .inr (3, [.ref q1, .ref q2, .int 0, .int 0])), (q1, cz (cc 0) 24), (q2, cz (cc 0) 24)]) := by
  refine cw_aload (i := 0) dX3_init_0 rfl ?_
  refine cw_obj dX3_init_1 (xTB_of (xtb_1 (List.mem_of_getElem? (i := 144) rfl)) rfl) co_oi co_oc rfl ?_
  refine cw_aload (i := 0) dX3_init_4 rfl ?_
  refine cw_bipush (v := 24) dX3_init_5 (by decide) ?_
  refine cw_newI (N' := 24) (mc := 1) (ms := 24) dX3_init_7 co_int (by decide) (by decide) rfl (fun q1 => ?_)
  refine cw_putR (q0 := 0) (ws' := [(h0, .inr (3, [.ref q1, .null, .int 0, .int 0])), (q1, cz (cc 0) 24)]) dX3_init_9 ff_X3_9 rfl rfl rfl rfl rfl ?_
  refine cw_aload (i := 0) dX3_init_12 rfl ?_
  refine cw_bipush (v := 24) dX3_init_13 (by decide) ?_
  refine cw_newI (N' := 24) (mc := 0) (ms := 0) dX3_init_15 co_int (by decide) (by decide) rfl (fun q2 => ?_)
  refine cw_putR (q0 := 0) (ws' := [(h0, .inr (3, [.ref q1, .ref q2, .int 0, .int 0])), (q1, cz (cc 0) 24), (q2, cz (cc 0) 24)]) dX3_init_17 ff_X3_13 rfl rfl rfl rfl rfl ?_
  refine cw_aload (i := 0) dX3_init_20 rfl ?_
  refine cw_iconst (v := 0) dX3_init_21 (by decide) ?_
  refine cw_putI (q0 := 0) (ws' := [(h0, .inr (3, [.ref q1, .ref q2, .int 0, .int 0])), (q1, cz (cc 0) 24), (q2, cz (cc 0) 24)]) dX3_init_22 fp_X3_16 rfl rfl rfl ?_
  refine cw_aload (i := 0) dX3_init_25 rfl ?_
  refine cw_iconst (v := 0) dX3_init_26 (by decide) ?_
  refine cw_putI (q0 := 0) (ws' := [(h0, .inr (3, [.ref q1, .ref q2, .int 0, .int 0])), (q1, cz (cc 0) 24), (q2, cz (cc 0) 24)]) dX3_init_27 fp_X3_20 rfl rfl rfl ?_
  exact cw_ret dX3_init_30 rfl rfl ⟨q1, q2, rfl⟩
set_option maxRecDepth 20000 in
theorem ff_X2_11 : XFF RX2 11 2 0 (.array .int) := ⟨RX2, TX2, 4, tyX2, rfl, by decide, xTB_of (xtb_1 (List.mem_of_getElem? (i := 164) rfl)) rfl, xin_X2, rfl, tyX2_ok, nmX2, rfl, rfl, rfl⟩
set_option maxRecDepth 20000 in
theorem ff_X2_15 : XFF RX2 15 2 1 (.array .int) := ⟨RX2, TX2, 4, tyX2, rfl, by decide, xTB_of (xtb_1 (List.mem_of_getElem? (i := 165) rfl)) rfl, xin_X2, rfl, tyX2_ok, nmX2, rfl, rfl, rfl⟩
set_option maxRecDepth 20000 in
theorem ff_X2_22 : XFF RX2 22 2 3 (.array .int) := ⟨RX2, TX2, 4, tyX2, rfl, by decide, xTB_of (xtb_1 (List.mem_of_getElem? (i := 167) rfl)) rfl, xin_X2, rfl, tyX2_ok, nmX2, rfl, rfl, rfl⟩
set_option maxRecDepth 100000 in
set_option maxHeartbeats 4000000 in
theorem co_X2 (h0 : Nat) : CW D cc l mX2_init (d + 1) 0 [(0, .ref h0)] [] [(h0, .inr (2, [.null, .null, .int 0, .null]))] 3 516 (fun w => ∃ (q1 : Nat) (q2 : Nat) (q3 : Nat), w = [(h0, .inr (2, [.ref q1, .ref q2, .int 0, .ref q3])), (q1, cz (cc 0) 256), (q2, cz (cc 0) 256), (q3, cz (cc 0) 4)]) := by
  refine cw_aload (i := 0) dX2_init_0 rfl ?_
  refine cw_obj dX2_init_1 (xTB_of (xtb_1 (List.mem_of_getElem? (i := 163) rfl)) rfl) co_oi co_oc rfl ?_
  refine cw_aload (i := 0) dX2_init_4 rfl ?_
  refine cw_sipush (v := 256) dX2_init_5 (by decide) ?_
  refine cw_newI (N' := 256) (mc := 2) (ms := 260) dX2_init_8 co_int (by decide) (by decide) rfl (fun q1 => ?_)
  refine cw_putR (q0 := 0) (ws' := [(h0, .inr (2, [.ref q1, .null, .int 0, .null])), (q1, cz (cc 0) 256)]) dX2_init_10 ff_X2_11 rfl rfl rfl rfl rfl ?_
  refine cw_aload (i := 0) dX2_init_13 rfl ?_
  refine cw_sipush (v := 256) dX2_init_14 (by decide) ?_
  refine cw_newI (N' := 256) (mc := 1) (ms := 4) dX2_init_17 co_int (by decide) (by decide) rfl (fun q2 => ?_)
  refine cw_putR (q0 := 0) (ws' := [(h0, .inr (2, [.ref q1, .ref q2, .int 0, .null])), (q1, cz (cc 0) 256), (q2, cz (cc 0) 256)]) dX2_init_19 ff_X2_15 rfl rfl rfl rfl rfl ?_
  refine cw_aload (i := 0) dX2_init_22 rfl ?_
  refine cw_iconst (v := 0) dX2_init_23 (by decide) ?_
  refine cw_putI (q0 := 0) (ws' := [(h0, .inr (2, [.ref q1, .ref q2, .int 0, .null])), (q1, cz (cc 0) 256), (q2, cz (cc 0) 256)]) dX2_init_24 fp_X2_18 rfl rfl rfl ?_
  refine cw_aload (i := 0) dX2_init_27 rfl ?_
  refine cw_iconst (v := 4) dX2_init_28 (by decide) ?_
  refine cw_newI (N' := 4) (mc := 0) (ms := 0) dX2_init_29 co_int (by decide) (by decide) rfl (fun q3 => ?_)
  refine cw_putR (q0 := 0) (ws' := [(h0, .inr (2, [.ref q1, .ref q2, .int 0, .ref q3])), (q1, cz (cc 0) 256), (q2, cz (cc 0) 256), (q3, cz (cc 0) 4)]) dX2_init_31 ff_X2_22 rfl rfl rfl rfl rfl ?_
  exact cw_ret dX2_init_34 rfl rfl ⟨q1, q2, q3, rfl⟩
set_option maxRecDepth 20000 in
theorem ff_X0_11 : XFF RX0 11 0 0 (.array .int) := ⟨RX0, TX0, 2, tyX0, rfl, by decide, xTB_of (xtb_1 (List.mem_of_getElem? (i := 183) rfl)) rfl, xin_X0, rfl, tyX0_ok, nmX0, rfl, rfl, rfl⟩
set_option maxRecDepth 100000 in
set_option maxHeartbeats 4000000 in
theorem co_X0 (h0 : Nat) : CW D cc l mX0_init (d + 1) 0 [(0, .ref h0)] [] [(h0, .inr (0, [.null, .int 0]))] 1 16 (fun w => ∃ (q1 : Nat), w = [(h0, .inr (0, [.ref q1, .int 0])), (q1, cz (cc 0) 16)]) := by
  refine cw_aload (i := 0) dX0_init_0 rfl ?_
  refine cw_obj dX0_init_1 (xTB_of (xtb_1 (List.mem_of_getElem? (i := 182) rfl)) rfl) co_oi co_oc rfl ?_
  refine cw_aload (i := 0) dX0_init_4 rfl ?_
  refine cw_bipush (v := 16) dX0_init_5 (by decide) ?_
  refine cw_newI (N' := 16) (mc := 0) (ms := 0) dX0_init_7 co_int (by decide) (by decide) rfl (fun q1 => ?_)
  refine cw_putR (q0 := 0) (ws' := [(h0, .inr (0, [.ref q1, .int 0])), (q1, cz (cc 0) 16)]) dX0_init_9 ff_X0_11 rfl rfl rfl rfl rfl ?_
  refine cw_aload (i := 0) dX0_init_12 rfl ?_
  refine cw_iconst (v := 0) dX0_init_13 (by decide) ?_
  refine cw_putI (q0 := 0) (ws' := [(h0, .inr (0, [.ref q1, .int 0])), (q1, cz (cc 0) 16)]) dX0_init_14 fp_X0_15 rfl rfl rfl ?_
  exact cw_ret dX0_init_17 rfl rfl ⟨q1, rfl⟩
set_option maxRecDepth 20000 in
theorem ff_X6_9 : XFF RX6 9 5 0 (.array .int) := ⟨RX6, TX6, 3, tyX6, rfl, by decide, xTB_of (xtb_1 (List.mem_of_getElem? (i := 31) rfl)) rfl, xin_X6, rfl, tyX6_ok, nmX6, rfl, rfl, rfl⟩
set_option maxRecDepth 20000 in
theorem ff_X6_13 : XFF RX6 13 5 1 (.array .int) := ⟨RX6, TX6, 3, tyX6, rfl, by decide, xTB_of (xtb_1 (List.mem_of_getElem? (i := 32) rfl)) rfl, xin_X6, rfl, tyX6_ok, nmX6, rfl, rfl, rfl⟩
set_option maxRecDepth 20000 in
theorem ff_X6_16 : XFF RX6 16 5 2 (.array .int) := ⟨RX6, TX6, 3, tyX6, rfl, by decide, xTB_of (xtb_1 (List.mem_of_getElem? (i := 33) rfl)) rfl, xin_X6, rfl, tyX6_ok, nmX6, rfl, rfl, rfl⟩
set_option maxRecDepth 100000 in
set_option maxHeartbeats 4000000 in
theorem co_X6 (h0 : Nat) : CW D cc l mX6_init (d + 1) 0 [(0, .ref h0)] [] [(h0, .inr (5, [.null, .null, .null]))] 3 336 (fun w => ∃ (q1 q2 q3 : Nat) (f : Nat → Int32), (∀ r, r < 8 → f r = -1) ∧ w = [(h0, .inr (5, [.ref q1, .ref q2, .ref q3])), (q1, .inl (cc 0, 8, .inl f)), (q2, cz (cc 0) 8), (q3, cz (cc 0) 320)]) := by
  refine cw_aload (i := 0) dX6_init_0 rfl ?_
  refine cw_obj dX6_init_1 (xTB_of (xtb_1 (List.mem_of_getElem? (i := 30) rfl)) rfl) co_oi co_oc rfl ?_
  refine cw_aload (i := 0) dX6_init_4 rfl ?_
  refine cw_bipush (v := 8) dX6_init_5 (by decide) ?_
  refine cw_newI (N' := 8) (mc := 2) (ms := 328) dX6_init_7 co_int (by decide) (by decide) rfl (fun q1 => ?_)
  refine cw_dup dX6_init_9 ?_
  refine cw_iconst (v := 0) dX6_init_10 (by decide) ?_
  refine cw_iconst (v := (-1)) dX6_init_11 (by decide) ?_
  refine cw_iast (q0 := 1) (ws' := [(h0, .inr (5, [.null, .null, .null])), (q1, .inl (cc 0, 8, .inl (upd (fun _ => 0) (Int32.toNatClampNeg 0) (-1))))]) dX6_init_12 rfl (by unfold vp_in; decide) rfl ?_
  refine cw_dup dX6_init_13 ?_
  refine cw_iconst (v := 1) dX6_init_14 (by decide) ?_
  refine cw_iconst (v := (-1)) dX6_init_15 (by decide) ?_
  refine cw_iast (q0 := 1) (ws' := [(h0, .inr (5, [.null, .null, .null])), (q1, .inl (cc 0, 8, .inl (upd (upd (fun _ => 0) (Int32.toNatClampNeg 0) (-1)) (Int32.toNatClampNeg 1) (-1))))]) dX6_init_16 rfl (by unfold vp_in; decide) rfl ?_
  refine cw_dup dX6_init_17 ?_
  refine cw_iconst (v := 2) dX6_init_18 (by decide) ?_
  refine cw_iconst (v := (-1)) dX6_init_19 (by decide) ?_
  refine cw_iast (q0 := 1) (ws' := [(h0, .inr (5, [.null, .null, .null])), (q1, .inl (cc 0, 8, .inl (upd (upd (upd (fun _ => 0) (Int32.toNatClampNeg 0) (-1)) (Int32.toNatClampNeg 1) (-1)) (Int32.toNatClampNeg 2) (-1))))]) dX6_init_20 rfl (by unfold vp_in; decide) rfl ?_
  refine cw_dup dX6_init_21 ?_
  refine cw_iconst (v := 3) dX6_init_22 (by decide) ?_
  refine cw_iconst (v := (-1)) dX6_init_23 (by decide) ?_
  refine cw_iast (q0 := 1) (ws' := [(h0, .inr (5, [.null, .null, .null])), (q1, .inl (cc 0, 8, .inl (upd (upd (upd (upd (fun _ => 0) (Int32.toNatClampNeg 0) (-1)) (Int32.toNatClampNeg 1) (-1)) (Int32.toNatClampNeg 2) (-1)) (Int32.toNatClampNeg 3) (-1))))]) dX6_init_24 rfl (by unfold vp_in; decide) rfl ?_
  refine cw_dup dX6_init_25 ?_
  refine cw_iconst (v := 4) dX6_init_26 (by decide) ?_
  refine cw_iconst (v := (-1)) dX6_init_27 (by decide) ?_
  refine cw_iast (q0 := 1) (ws' := [(h0, .inr (5, [.null, .null, .null])), (q1, .inl (cc 0, 8, .inl (upd (upd (upd (upd (upd (fun _ => 0) (Int32.toNatClampNeg 0) (-1)) (Int32.toNatClampNeg 1) (-1)) (Int32.toNatClampNeg 2) (-1)) (Int32.toNatClampNeg 3) (-1)) (Int32.toNatClampNeg 4) (-1))))]) dX6_init_28 rfl (by unfold vp_in; decide) rfl ?_
  refine cw_dup dX6_init_29 ?_
  refine cw_iconst (v := 5) dX6_init_30 (by decide) ?_
  refine cw_iconst (v := (-1)) dX6_init_31 (by decide) ?_
  refine cw_iast (q0 := 1) (ws' := [(h0, .inr (5, [.null, .null, .null])), (q1, .inl (cc 0, 8, .inl (upd (upd (upd (upd (upd (upd (fun _ => 0) (Int32.toNatClampNeg 0) (-1)) (Int32.toNatClampNeg 1) (-1)) (Int32.toNatClampNeg 2) (-1)) (Int32.toNatClampNeg 3) (-1)) (Int32.toNatClampNeg 4) (-1)) (Int32.toNatClampNeg 5) (-1))))]) dX6_init_32 rfl (by unfold vp_in; decide) rfl ?_
  refine cw_dup dX6_init_33 ?_
  refine cw_bipush (v := 6) dX6_init_34 (by decide) ?_
  refine cw_iconst (v := (-1)) dX6_init_36 (by decide) ?_
  refine cw_iast (q0 := 1) (ws' := [(h0, .inr (5, [.null, .null, .null])), (q1, .inl (cc 0, 8, .inl (upd (upd (upd (upd (upd (upd (upd (fun _ => 0) (Int32.toNatClampNeg 0) (-1)) (Int32.toNatClampNeg 1) (-1)) (Int32.toNatClampNeg 2) (-1)) (Int32.toNatClampNeg 3) (-1)) (Int32.toNatClampNeg 4) (-1)) (Int32.toNatClampNeg 5) (-1)) (Int32.toNatClampNeg 6) (-1))))]) dX6_init_37 rfl (by unfold vp_in; decide) rfl ?_
  refine cw_dup dX6_init_38 ?_
  refine cw_bipush (v := 7) dX6_init_39 (by decide) ?_
  refine cw_iconst (v := (-1)) dX6_init_41 (by decide) ?_
  refine cw_iast (q0 := 1) (ws' := [(h0, .inr (5, [.null, .null, .null])), (q1, .inl (cc 0, 8, .inl (upd (upd (upd (upd (upd (upd (upd (upd (fun _ => 0) (Int32.toNatClampNeg 0) (-1)) (Int32.toNatClampNeg 1) (-1)) (Int32.toNatClampNeg 2) (-1)) (Int32.toNatClampNeg 3) (-1)) (Int32.toNatClampNeg 4) (-1)) (Int32.toNatClampNeg 5) (-1)) (Int32.toNatClampNeg 6) (-1)) (Int32.toNatClampNeg 7) (-1))))]) dX6_init_42 rfl (by unfold vp_in; decide) rfl ?_
  refine cw_putR (q0 := 0) (ws' := [(h0, .inr (5, [.ref q1, .null, .null])), (q1, .inl (cc 0, 8, .inl (upd (upd (upd (upd (upd (upd (upd (upd (fun _ => 0) (Int32.toNatClampNeg 0) (-1)) (Int32.toNatClampNeg 1) (-1)) (Int32.toNatClampNeg 2) (-1)) (Int32.toNatClampNeg 3) (-1)) (Int32.toNatClampNeg 4) (-1)) (Int32.toNatClampNeg 5) (-1)) (Int32.toNatClampNeg 6) (-1)) (Int32.toNatClampNeg 7) (-1))))]) dX6_init_43 ff_X6_9 rfl rfl rfl rfl rfl ?_
  refine cw_aload (i := 0) dX6_init_46 rfl ?_
  refine cw_bipush (v := 8) dX6_init_47 (by decide) ?_
  refine cw_newI (N' := 8) (mc := 1) (ms := 320) dX6_init_49 co_int (by decide) (by decide) rfl (fun q2 => ?_)
  refine cw_putR (q0 := 0) (ws' := [(h0, .inr (5, [.ref q1, .ref q2, .null])), (q1, .inl (cc 0, 8, .inl (upd (upd (upd (upd (upd (upd (upd (upd (fun _ => 0) (Int32.toNatClampNeg 0) (-1)) (Int32.toNatClampNeg 1) (-1)) (Int32.toNatClampNeg 2) (-1)) (Int32.toNatClampNeg 3) (-1)) (Int32.toNatClampNeg 4) (-1)) (Int32.toNatClampNeg 5) (-1)) (Int32.toNatClampNeg 6) (-1)) (Int32.toNatClampNeg 7) (-1)))), (q2, cz (cc 0) 8)]) dX6_init_51 ff_X6_13 rfl rfl rfl rfl rfl ?_
  refine cw_aload (i := 0) dX6_init_54 rfl ?_
  refine cw_sipush (v := 320) dX6_init_55 (by decide) ?_
  refine cw_newI (N' := 320) (mc := 0) (ms := 0) dX6_init_58 co_int (by decide) (by decide) rfl (fun q3 => ?_)
  refine cw_putR (q0 := 0) (ws' := [(h0, .inr (5, [.ref q1, .ref q2, .ref q3])), (q1, .inl (cc 0, 8, .inl (upd (upd (upd (upd (upd (upd (upd (upd (fun _ => 0) (Int32.toNatClampNeg 0) (-1)) (Int32.toNatClampNeg 1) (-1)) (Int32.toNatClampNeg 2) (-1)) (Int32.toNatClampNeg 3) (-1)) (Int32.toNatClampNeg 4) (-1)) (Int32.toNatClampNeg 5) (-1)) (Int32.toNatClampNeg 6) (-1)) (Int32.toNatClampNeg 7) (-1)))), (q2, cz (cc 0) 8), (q3, cz (cc 0) 320)]) dX6_init_60 ff_X6_16 rfl rfl rfl rfl rfl ?_
  exact cw_ret dX6_init_63 rfl rfl ⟨q1, q2, q3, (upd (upd (upd (upd (upd (upd (upd (upd (fun _ => 0) (Int32.toNatClampNeg 0) (-1)) (Int32.toNatClampNeg 1) (-1)) (Int32.toNatClampNeg 2) (-1)) (Int32.toNatClampNeg 3) (-1)) (Int32.toNatClampNeg 4) (-1)) (Int32.toNatClampNeg 5) (-1)) (Int32.toNatClampNeg 6) (-1)) (Int32.toNatClampNeg 7) (-1)), by decide, rfl⟩
set_option maxRecDepth 20000 in
theorem ff_X5_11 : XFF RX5 11 4 0 (.array .byte) := ⟨RX5, TX5, 9, tyX5, rfl, by decide, xTB_of (xtb_1 (List.mem_of_getElem? (i := 108) rfl)) rfl, xin_X5, rfl, tyX5_ok, nmX5, rfl, rfl, rfl⟩
set_option maxRecDepth 20000 in
theorem ff_X5_22 : XFF RX5 22 4 2 (.object "LieSlides$Field") := ⟨RX5, TX5, 9, tyX5, rfl, by decide, xTB_of (xtb_1 (List.mem_of_getElem? (i := 110) rfl)) rfl, xin_X5, rfl, tyX5_ok, nmX5, rfl, rfl, rfl⟩
set_option maxRecDepth 100000 in
set_option maxHeartbeats 4000000 in
theorem co_X5 (h0 : Nat) : CW D cc l mX5_init (d + 2) 0 [(0, .ref h0)] [] [(h0, .inr (4, [.null, .int 0, .null, .int 0, .int 0, .int 0, .int 0, .int 0, .int 0]))] 9 457 (fun w => ∃ (q1 : Nat) (q2 : Nat) (q3 : Nat) (q4 : Nat) (q5 : Nat) (q6 : Nat) (q7 : Nat) (q8 : Nat) (q9 : Nat), w = [(h0, .inr (4, [.ref q1, .int 0, .ref q2, .int 0, .int 0, .int 0, .int 0, .int 0, .int 0])), (q1, cz (cc 1) 400), (q2, .inr (1, [.int 0, .int 0, .int 0, .int 0, .ref q3, .ref q4, .ref q5, .ref q6, .ref q7, .ref q8, .ref q9])), (q3, cz (cc 0) 8), (q4, cz (cc 0) 8), (q5, cz (cc 0) 6), (q6, cz (cc 0) 6), (q7, cz (cc 0) 6), (q8, cz (cc 0) 6), (q9, cz (cc 0) 6)]) := by
  refine cw_aload (i := 0) dX5_init_0 rfl ?_
  refine cw_obj dX5_init_1 (xTB_of (xtb_1 (List.mem_of_getElem? (i := 47) rfl)) rfl) co_oi co_oc rfl ?_
  refine cw_aload (i := 0) dX5_init_4 rfl ?_
  refine cw_sipush (v := 400) dX5_init_5 (by decide) ?_
  refine cw_newB (N' := 400) (mc := 8) (ms := 57) dX5_init_8 co_byte (by decide) (by decide) rfl (fun q1 => ?_)
  refine cw_putR (q0 := 0) (ws' := [(h0, .inr (4, [.ref q1, .int 0, .null, .int 0, .int 0, .int 0, .int 0, .int 0, .int 0])), (q1, cz (cc 1) 400)]) dX5_init_10 ff_X5_11 rfl rfl rfl rfl rfl ?_
  refine cw_aload (i := 0) dX5_init_13 rfl ?_
  refine cw_iconst (v := 0) dX5_init_14 (by decide) ?_
  refine cw_putI (q0 := 0) (ws' := [(h0, .inr (4, [.ref q1, .int 0, .null, .int 0, .int 0, .int 0, .int 0, .int 0, .int 0])), (q1, cz (cc 1) 400)]) dX5_init_15 fp_X5_15 rfl rfl rfl ?_
  refine cw_aload (i := 0) dX5_init_18 rfl ?_
  refine cw_new (C := RX1) (T := TX1) (N := 11) (ci := 1) (fs := [.int 0, .int 0, .int 0, .int 0, .null, .null, .null, .null, .null, .null, .null]) (mc := 7) (ms := 46) dX5_init_19 rfl xin_X1 tyX1 tyX1_ok (xTB_of (xtb_1 (List.mem_of_getElem? (i := 48) rfl)) rfl) (xTB_of (xtb_1 (List.mem_of_getElem? (i := 49) rfl)) rfl) (xTB_of (xtb_1 (List.mem_of_getElem? (i := 4) rfl)) rfl) (fun j hj => by rcases (show j = 0 ∨ j = 1 ∨ j = 2 ∨ j = 3 ∨ j = 4 ∨ j = 5 ∨ j = 6 ∨ j = 7 ∨ j = 8 ∨ j = 9 ∨ j = 10 by omega) with rfl | rfl | rfl | rfl | rfl | rfl | rfl | rfl | rfl | rfl | rfl <;> rfl) (fun q2 => ?_)
  refine cw_dup dX5_init_22 ?_
  refine cw_call (z := mX1_init) (q0 := 2) (isR := [0, 1]) (wr := [(h0, .inr (4, [.ref q1, .int 0, .null, .int 0, .int 0, .int 0, .int 0, .int 0, .int 0])), (q1, cz (cc 1) 400)]) (mc := 0) (ms := 0) (mc1 := 7) (ms1 := 46) dX5_init_23 okX1_init rfl rfl rfl (fun U h => h.2.2.1) (xTB_of (xtb_1 (List.mem_of_getElem? (i := 4) rfl)) rfl) (xTB_of (xtb_1 (List.mem_of_getElem? (i := 51) rfl)) rfl) rfl rfl rfl (by decide) rfl (co_X1 q2) ?_
  rintro _ ⟨q3, q4, q5, q6, q7, q8, q9, rfl⟩
  refine cw_putR (q0 := 0) (ws' := [(h0, .inr (4, [.ref q1, .int 0, .ref q2, .int 0, .int 0, .int 0, .int 0, .int 0, .int 0])), (q1, cz (cc 1) 400), (q2, .inr (1, [.int 0, .int 0, .int 0, .int 0, .ref q3, .ref q4, .ref q5, .ref q6, .ref q7, .ref q8, .ref q9])), (q3, cz (cc 0) 8), (q4, cz (cc 0) 8), (q5, cz (cc 0) 6), (q6, cz (cc 0) 6), (q7, cz (cc 0) 6), (q8, cz (cc 0) 6), (q9, cz (cc 0) 6)]) dX5_init_26 ff_X5_22 rfl rfl rfl rfl rfl ?_
  refine cw_aload (i := 0) dX5_init_29 rfl ?_
  refine cw_iconst (v := 0) dX5_init_30 (by decide) ?_
  refine cw_putI (q0 := 0) (ws' := [(h0, .inr (4, [.ref q1, .int 0, .ref q2, .int 0, .int 0, .int 0, .int 0, .int 0, .int 0])), (q1, cz (cc 1) 400), (q2, .inr (1, [.int 0, .int 0, .int 0, .int 0, .ref q3, .ref q4, .ref q5, .ref q6, .ref q7, .ref q8, .ref q9])), (q3, cz (cc 0) 8), (q4, cz (cc 0) 8), (q5, cz (cc 0) 6), (q6, cz (cc 0) 6), (q7, cz (cc 0) 6), (q8, cz (cc 0) 6), (q9, cz (cc 0) 6)]) dX5_init_31 fp_X5_26 rfl rfl rfl ?_
  refine cw_aload (i := 0) dX5_init_34 rfl ?_
  refine cw_iconst (v := 0) dX5_init_35 (by decide) ?_
  refine cw_putI (q0 := 0) (ws' := [(h0, .inr (4, [.ref q1, .int 0, .ref q2, .int 0, .int 0, .int 0, .int 0, .int 0, .int 0])), (q1, cz (cc 1) 400), (q2, .inr (1, [.int 0, .int 0, .int 0, .int 0, .ref q3, .ref q4, .ref q5, .ref q6, .ref q7, .ref q8, .ref q9])), (q3, cz (cc 0) 8), (q4, cz (cc 0) 8), (q5, cz (cc 0) 6), (q6, cz (cc 0) 6), (q7, cz (cc 0) 6), (q8, cz (cc 0) 6), (q9, cz (cc 0) 6)]) dX5_init_36 fp_X5_29 rfl rfl rfl ?_
  refine cw_aload (i := 0) dX5_init_39 rfl ?_
  refine cw_iconst (v := 0) dX5_init_40 (by decide) ?_
  refine cw_putI (q0 := 0) (ws' := [(h0, .inr (4, [.ref q1, .int 0, .ref q2, .int 0, .int 0, .int 0, .int 0, .int 0, .int 0])), (q1, cz (cc 1) 400), (q2, .inr (1, [.int 0, .int 0, .int 0, .int 0, .ref q3, .ref q4, .ref q5, .ref q6, .ref q7, .ref q8, .ref q9])), (q3, cz (cc 0) 8), (q4, cz (cc 0) 8), (q5, cz (cc 0) 6), (q6, cz (cc 0) 6), (q7, cz (cc 0) 6), (q8, cz (cc 0) 6), (q9, cz (cc 0) 6)]) dX5_init_41 fp_X5_32 rfl rfl rfl ?_
  refine cw_aload (i := 0) dX5_init_44 rfl ?_
  refine cw_iconst (v := 0) dX5_init_45 (by decide) ?_
  refine cw_putI (q0 := 0) (ws' := [(h0, .inr (4, [.ref q1, .int 0, .ref q2, .int 0, .int 0, .int 0, .int 0, .int 0, .int 0])), (q1, cz (cc 1) 400), (q2, .inr (1, [.int 0, .int 0, .int 0, .int 0, .ref q3, .ref q4, .ref q5, .ref q6, .ref q7, .ref q8, .ref q9])), (q3, cz (cc 0) 8), (q4, cz (cc 0) 8), (q5, cz (cc 0) 6), (q6, cz (cc 0) 6), (q7, cz (cc 0) 6), (q8, cz (cc 0) 6), (q9, cz (cc 0) 6)]) dX5_init_46 fp_X5_35 rfl rfl rfl ?_
  refine cw_aload (i := 0) dX5_init_49 rfl ?_
  refine cw_iconst (v := 0) dX5_init_50 (by decide) ?_
  refine cw_putI (q0 := 0) (ws' := [(h0, .inr (4, [.ref q1, .int 0, .ref q2, .int 0, .int 0, .int 0, .int 0, .int 0, .int 0])), (q1, cz (cc 1) 400), (q2, .inr (1, [.int 0, .int 0, .int 0, .int 0, .ref q3, .ref q4, .ref q5, .ref q6, .ref q7, .ref q8, .ref q9])), (q3, cz (cc 0) 8), (q4, cz (cc 0) 8), (q5, cz (cc 0) 6), (q6, cz (cc 0) 6), (q7, cz (cc 0) 6), (q8, cz (cc 0) 6), (q9, cz (cc 0) 6)]) dX5_init_51 fp_X5_38 rfl rfl rfl ?_
  refine cw_aload (i := 0) dX5_init_54 rfl ?_
  refine cw_iconst (v := 0) dX5_init_55 (by decide) ?_
  refine cw_putI (q0 := 0) (ws' := [(h0, .inr (4, [.ref q1, .int 0, .ref q2, .int 0, .int 0, .int 0, .int 0, .int 0, .int 0])), (q1, cz (cc 1) 400), (q2, .inr (1, [.int 0, .int 0, .int 0, .int 0, .ref q3, .ref q4, .ref q5, .ref q6, .ref q7, .ref q8, .ref q9])), (q3, cz (cc 0) 8), (q4, cz (cc 0) 8), (q5, cz (cc 0) 6), (q6, cz (cc 0) 6), (q7, cz (cc 0) 6), (q8, cz (cc 0) 6), (q9, cz (cc 0) 6)]) dX5_init_56 fp_X5_41 rfl rfl rfl ?_
  exact cw_ret dX5_init_59 rfl rfl ⟨q1, q2, q3, q4, q5, q6, q7, q8, q9, rfl⟩
set_option maxRecDepth 20000 in
theorem ff_X8_7 : XFF RX8 7 7 0 (.array .int) := ⟨RX8, TX8, 24, tyX8, rfl, by decide, xTB_of (xtb_4 (List.mem_of_getElem? (i := 47) rfl)) rfl, xin_X8, rfl, tyX8_ok, nmX8, rfl, rfl, rfl⟩
set_option maxRecDepth 20000 in
theorem ff_X8_13 : XFF RX8 13 7 1 (.array .int) := ⟨RX8, TX8, 24, tyX8, rfl, by decide, xTB_of (xtb_4 (List.mem_of_getElem? (i := 48) rfl)) rfl, xin_X8, rfl, tyX8_ok, nmX8, rfl, rfl, rfl⟩
set_option maxRecDepth 20000 in
theorem ff_X8_16 : XFF RX8 16 7 2 (.array .int) := ⟨RX8, TX8, 24, tyX8, rfl, by decide, xTB_of (xtb_4 (List.mem_of_getElem? (i := 49) rfl)) rfl, xin_X8, rfl, tyX8_ok, nmX8, rfl, rfl, rfl⟩
set_option maxRecDepth 20000 in
theorem ff_X8_19 : XFF RX8 19 7 5 (.array .int) := ⟨RX8, TX8, 24, tyX8, rfl, by decide, xTB_of (xtb_4 (List.mem_of_getElem? (i := 52) rfl)) rfl, xin_X8, rfl, tyX8_ok, nmX8, rfl, rfl, rfl⟩
set_option maxRecDepth 20000 in
theorem ff_X8_22 : XFF RX8 22 7 13 (.array .int) := ⟨RX8, TX8, 24, tyX8, rfl, by decide, xTB_of (xtb_4 (List.mem_of_getElem? (i := 60) rfl)) rfl, xin_X8, rfl, tyX8_ok, nmX8, rfl, rfl, rfl⟩
set_option maxRecDepth 20000 in
theorem ff_X8_25 : XFF RX8 25 7 14 (.array .int) := ⟨RX8, TX8, 24, tyX8, rfl, by decide, xTB_of (xtb_4 (List.mem_of_getElem? (i := 61) rfl)) rfl, xin_X8, rfl, tyX8_ok, nmX8, rfl, rfl, rfl⟩
set_option maxRecDepth 20000 in
theorem ff_X8_28 : XFF RX8 28 7 15 (.array .int) := ⟨RX8, TX8, 24, tyX8, rfl, by decide, xTB_of (xtb_4 (List.mem_of_getElem? (i := 62) rfl)) rfl, xin_X8, rfl, tyX8_ok, nmX8, rfl, rfl, rfl⟩
set_option maxRecDepth 20000 in
theorem ff_X8_31 : XFF RX8 31 7 16 (.array .boolean) := ⟨RX8, TX8, 24, tyX8, rfl, by decide, xTB_of (xtb_4 (List.mem_of_getElem? (i := 63) rfl)) rfl, xin_X8, rfl, tyX8_ok, nmX8, rfl, rfl, rfl⟩
set_option maxRecDepth 20000 in
theorem ff_X8_35 : XFF RX8 35 7 18 (.array .int) := ⟨RX8, TX8, 24, tyX8, rfl, by decide, xTB_of (xtb_4 (List.mem_of_getElem? (i := 65) rfl)) rfl, xin_X8, rfl, tyX8_ok, nmX8, rfl, rfl, rfl⟩
set_option maxRecDepth 20000 in
theorem ff_X8_38 : XFF RX8 38 7 19 (.array .int) := ⟨RX8, TX8, 24, tyX8, rfl, by decide, xTB_of (xtb_4 (List.mem_of_getElem? (i := 66) rfl)) rfl, xin_X8, rfl, tyX8_ok, nmX8, rfl, rfl, rfl⟩
set_option maxRecDepth 20000 in
theorem ff_X8_41 : XFF RX8 41 7 21 (.array .int) := ⟨RX8, TX8, 24, tyX8, rfl, by decide, xTB_of (xtb_4 (List.mem_of_getElem? (i := 68) rfl)) rfl, xin_X8, rfl, tyX8_ok, nmX8, rfl, rfl, rfl⟩
set_option maxRecDepth 20000 in
theorem ff_X8_44 : XFF RX8 44 7 22 (.array .int) := ⟨RX8, TX8, 24, tyX8, rfl, by decide, xTB_of (xtb_4 (List.mem_of_getElem? (i := 69) rfl)) rfl, xin_X8, rfl, tyX8_ok, nmX8, rfl, rfl, rfl⟩
set_option maxRecDepth 20000 in
theorem ff_X8_47 : XFF RX8 47 7 23 (.array .int) := ⟨RX8, TX8, 24, tyX8, rfl, by decide, xTB_of (xtb_4 (List.mem_of_getElem? (i := 70) rfl)) rfl, xin_X8, rfl, tyX8_ok, nmX8, rfl, rfl, rfl⟩
abbrev wX8 (cc : Nat → ClassId) (f : Nat → Int32) (h0 q1 q2 q3 q4 q5 q6 q7 q8 q9 q10 q11 q12 q13 : Nat) : va_W := [(h0, .inr (7, [.ref q1, .ref q2, .ref q3, .int 0, .int 0, .ref q4, .int 0, .int 0, .int 0, .long 0, .int 0, .int 0, .int 0, .ref q5, .ref q6, .ref q7, .ref q8, .int 0, .ref q9, .ref q10, .int 0, .ref q11, .ref q12, .ref q13])), (q1, .inl (cc 0, 8, .inl f)), (q2, cz (cc 0) 8), (q3, cz (cc 0) 320), (q4, cz (cc 0) 400), (q5, cz (cc 0) 168), (q6, cz (cc 0) 168), (q7, cz (cc 0) 336), (q8, cz (cc 2) 2), (q9, cz (cc 0) 168), (q10, cz (cc 0) 6), (q11, cz (cc 0) 16), (q12, cz (cc 0) 40), (q13, cz (cc 0) 8)]
set_option maxRecDepth 100000 in
set_option maxHeartbeats 4000000 in
theorem co_X8l (h0 q1 q2 q3 q4 q5 q6 q7 q8 q9 q10 q11 q12 q13 : Nat) : ∀ (k i : Nat) (f : Nat → Int32), i + k = 8 → (∀ r, r < i → f r = -1000000) → CW D cc l mX8_init (d + 1) 115 [(1, .int (nI i)), (0, .ref h0)] [] (wX8 cc f h0 q1 q2 q3 q4 q5 q6 q7 q8 q9 q10 q11 q12 q13) 0 0 (fun w => ∃ (q1 q2 q3 q4 q5 q6 q7 q8 q9 q10 q11 q12 q13 : Nat) (f : Nat → Int32), (∀ r, r < 8 → f r = -1000000) ∧ w = wX8 cc f h0 q1 q2 q3 q4 q5 q6 q7 q8 q9 q10 q11 q12 q13) := by
  intro k
  induction k with
  | zero =>
    intro i f hk hf
    have e : i = 8 := by omega
    subst e
    refine cw_iload (i := 0) dX8_init_115 rfl ?_
    refine cw_bipush (v := 8) dX8_init_116 (by decide) ?_
    refine cw_icmp_ge (tgt := 135) dX8_init_118 (by decide) (fun c => ?_) (fun c => absurd (by decide) c)
    exact cw_ret dX8_init_135 rfl rfl ⟨q1, q2, q3, q4, q5, q6, q7, q8, q9, q10, q11, q12, q13, f, hf, rfl⟩
  | succ k ih =>
    intro i f hk hf
    refine cw_iload (i := 0) dX8_init_115 rfl ?_
    refine cw_bipush (v := 8) dX8_init_116 (by decide) ?_
    refine cw_icmp_ge (tgt := 135) dX8_init_118 (by decide) (fun c => absurd c (Int32.not_le.mpr (nI_lt8 (by omega)).2.1)) (fun c => ?_)
    refine cw_aload (i := 1) dX8_init_121 rfl ?_
    refine cw_getR (q0 := 0) (v := .ref q1) dX8_init_122 fl_X8_7 rfl rfl ?_
    refine cw_iload (i := 0) dX8_init_125 rfl ?_
    refine cw_ldc dX8_init_126 kc_X8_50 ?_
    refine cw_iast (q0 := 1) (ws' := [(h0, .inr (7, [.ref q1, .ref q2, .ref q3, .int 0, .int 0, .ref q4, .int 0, .int 0, .int 0, .long 0, .int 0, .int 0, .int 0, .ref q5, .ref q6, .ref q7, .ref q8, .int 0, .ref q9, .ref q10, .int 0, .ref q11, .ref q12, .ref q13])), (q1, .inl (cc 0, 8, .inl (upd f (nI i).toNatClampNeg (-1000000)))), (q2, cz (cc 0) 8), (q3, cz (cc 0) 320), (q4, cz (cc 0) 400), (q5, cz (cc 0) 168), (q6, cz (cc 0) 168), (q7, cz (cc 0) 336), (q8, cz (cc 2) 2), (q9, cz (cc 0) 168), (q10, cz (cc 0) 6), (q11, cz (cc 0) 16), (q12, cz (cc 0) 40), (q13, cz (cc 0) 8)]) dX8_init_128 rfl (vp_in_nI (by omega) (by omega)) rfl ?_
    refine cw_iinc (k := 0) (v := nI (i + 1)) (lx' := [(1, .int (nI (i + 1))), (0, .ref h0)]) dX8_init_129 rfl (nI_1 i) rfl rfl ?_
    refine cw_goto (tgt := 115) dX8_init_132 (by decide) ?_
    refine ih (i + 1) (upd f (nI i).toNatClampNeg (-1000000)) (by omega) (fun r hr => ?_)
    rw [nI_clamp (n := i) (by omega)]
    by_cases e : r = i
    · subst e; simp [upd]
    · have : r < i := by omega
      simp [upd, e]; exact hf r this
set_option maxRecDepth 100000 in
set_option maxHeartbeats 4000000 in
theorem co_X8 (h0 : Nat) : CW D cc l mX8_init (d + 1) 0 [(0, .ref h0)] [] [(h0, .inr (7, [.null, .null, .null, .int 0, .int 0, .null, .int 0, .int 0, .int 0, .long 0, .int 0, .int 0, .int 0, .null, .null, .null, .null, .int 0, .null, .null, .int 0, .null, .null, .null]))] 13 1648 (fun w => ∃ (q1 q2 q3 q4 q5 q6 q7 q8 q9 q10 q11 q12 q13 : Nat) (f : Nat → Int32), (∀ r, r < 8 → f r = -1000000) ∧ w = wX8 cc f h0 q1 q2 q3 q4 q5 q6 q7 q8 q9 q10 q11 q12 q13) := by
  refine cw_aload (i := 0) dX8_init_0 rfl ?_
  refine cw_obj dX8_init_1 (xTB_of (xtb_4 (List.mem_of_getElem? (i := 45) rfl)) rfl) co_oi co_oc rfl ?_
  refine cw_aload (i := 0) dX8_init_4 rfl ?_
  refine cw_bipush (v := 8) dX8_init_5 (by decide) ?_
  refine cw_newI (N' := 8) (mc := 12) (ms := 1640) dX8_init_7 co_int (by decide) (by decide) rfl (fun q1 => ?_)
  refine cw_putR (q0 := 0) (ws' := [(h0, .inr (7, [.ref q1, .null, .null, .int 0, .int 0, .null, .int 0, .int 0, .int 0, .long 0, .int 0, .int 0, .int 0, .null, .null, .null, .null, .int 0, .null, .null, .int 0, .null, .null, .null])), (q1, cz (cc 0) 8)]) dX8_init_9 ff_X8_7 rfl rfl rfl rfl rfl ?_
  refine cw_aload (i := 0) dX8_init_12 rfl ?_
  refine cw_bipush (v := 8) dX8_init_13 (by decide) ?_
  refine cw_newI (N' := 8) (mc := 11) (ms := 1632) dX8_init_15 co_int (by decide) (by decide) rfl (fun q2 => ?_)
  refine cw_putR (q0 := 0) (ws' := [(h0, .inr (7, [.ref q1, .ref q2, .null, .int 0, .int 0, .null, .int 0, .int 0, .int 0, .long 0, .int 0, .int 0, .int 0, .null, .null, .null, .null, .int 0, .null, .null, .int 0, .null, .null, .null])), (q1, cz (cc 0) 8), (q2, cz (cc 0) 8)]) dX8_init_17 ff_X8_13 rfl rfl rfl rfl rfl ?_
  refine cw_aload (i := 0) dX8_init_20 rfl ?_
  refine cw_sipush (v := 320) dX8_init_21 (by decide) ?_
  refine cw_newI (N' := 320) (mc := 10) (ms := 1312) dX8_init_24 co_int (by decide) (by decide) rfl (fun q3 => ?_)
  refine cw_putR (q0 := 0) (ws' := [(h0, .inr (7, [.ref q1, .ref q2, .ref q3, .int 0, .int 0, .null, .int 0, .int 0, .int 0, .long 0, .int 0, .int 0, .int 0, .null, .null, .null, .null, .int 0, .null, .null, .int 0, .null, .null, .null])), (q1, cz (cc 0) 8), (q2, cz (cc 0) 8), (q3, cz (cc 0) 320)]) dX8_init_26 ff_X8_16 rfl rfl rfl rfl rfl ?_
  refine cw_aload (i := 0) dX8_init_29 rfl ?_
  refine cw_sipush (v := 400) dX8_init_30 (by decide) ?_
  refine cw_newI (N' := 400) (mc := 9) (ms := 912) dX8_init_33 co_int (by decide) (by decide) rfl (fun q4 => ?_)
  refine cw_putR (q0 := 0) (ws' := [(h0, .inr (7, [.ref q1, .ref q2, .ref q3, .int 0, .int 0, .ref q4, .int 0, .int 0, .int 0, .long 0, .int 0, .int 0, .int 0, .null, .null, .null, .null, .int 0, .null, .null, .int 0, .null, .null, .null])), (q1, cz (cc 0) 8), (q2, cz (cc 0) 8), (q3, cz (cc 0) 320), (q4, cz (cc 0) 400)]) dX8_init_35 ff_X8_19 rfl rfl rfl rfl rfl ?_
  refine cw_aload (i := 0) dX8_init_38 rfl ?_
  refine cw_sipush (v := 168) dX8_init_39 (by decide) ?_
  refine cw_newI (N' := 168) (mc := 8) (ms := 744) dX8_init_42 co_int (by decide) (by decide) rfl (fun q5 => ?_)
  refine cw_putR (q0 := 0) (ws' := [(h0, .inr (7, [.ref q1, .ref q2, .ref q3, .int 0, .int 0, .ref q4, .int 0, .int 0, .int 0, .long 0, .int 0, .int 0, .int 0, .ref q5, .null, .null, .null, .int 0, .null, .null, .int 0, .null, .null, .null])), (q1, cz (cc 0) 8), (q2, cz (cc 0) 8), (q3, cz (cc 0) 320), (q4, cz (cc 0) 400), (q5, cz (cc 0) 168)]) dX8_init_44 ff_X8_22 rfl rfl rfl rfl rfl ?_
  refine cw_aload (i := 0) dX8_init_47 rfl ?_
  refine cw_sipush (v := 168) dX8_init_48 (by decide) ?_
  refine cw_newI (N' := 168) (mc := 7) (ms := 576) dX8_init_51 co_int (by decide) (by decide) rfl (fun q6 => ?_)
  refine cw_putR (q0 := 0) (ws' := [(h0, .inr (7, [.ref q1, .ref q2, .ref q3, .int 0, .int 0, .ref q4, .int 0, .int 0, .int 0, .long 0, .int 0, .int 0, .int 0, .ref q5, .ref q6, .null, .null, .int 0, .null, .null, .int 0, .null, .null, .null])), (q1, cz (cc 0) 8), (q2, cz (cc 0) 8), (q3, cz (cc 0) 320), (q4, cz (cc 0) 400), (q5, cz (cc 0) 168), (q6, cz (cc 0) 168)]) dX8_init_53 ff_X8_25 rfl rfl rfl rfl rfl ?_
  refine cw_aload (i := 0) dX8_init_56 rfl ?_
  refine cw_sipush (v := 336) dX8_init_57 (by decide) ?_
  refine cw_newI (N' := 336) (mc := 6) (ms := 240) dX8_init_60 co_int (by decide) (by decide) rfl (fun q7 => ?_)
  refine cw_putR (q0 := 0) (ws' := [(h0, .inr (7, [.ref q1, .ref q2, .ref q3, .int 0, .int 0, .ref q4, .int 0, .int 0, .int 0, .long 0, .int 0, .int 0, .int 0, .ref q5, .ref q6, .ref q7, .null, .int 0, .null, .null, .int 0, .null, .null, .null])), (q1, cz (cc 0) 8), (q2, cz (cc 0) 8), (q3, cz (cc 0) 320), (q4, cz (cc 0) 400), (q5, cz (cc 0) 168), (q6, cz (cc 0) 168), (q7, cz (cc 0) 336)]) dX8_init_62 ff_X8_28 rfl rfl rfl rfl rfl ?_
  refine cw_aload (i := 0) dX8_init_65 rfl ?_
  refine cw_iconst (v := 2) dX8_init_66 (by decide) ?_
  refine cw_newZ (N' := 2) (mc := 5) (ms := 238) dX8_init_67 co_boolean (by decide) (by decide) rfl (fun q8 => ?_)
  refine cw_putR (q0 := 0) (ws' := [(h0, .inr (7, [.ref q1, .ref q2, .ref q3, .int 0, .int 0, .ref q4, .int 0, .int 0, .int 0, .long 0, .int 0, .int 0, .int 0, .ref q5, .ref q6, .ref q7, .ref q8, .int 0, .null, .null, .int 0, .null, .null, .null])), (q1, cz (cc 0) 8), (q2, cz (cc 0) 8), (q3, cz (cc 0) 320), (q4, cz (cc 0) 400), (q5, cz (cc 0) 168), (q6, cz (cc 0) 168), (q7, cz (cc 0) 336), (q8, cz (cc 2) 2)]) dX8_init_69 ff_X8_31 rfl rfl rfl rfl rfl ?_
  refine cw_aload (i := 0) dX8_init_72 rfl ?_
  refine cw_sipush (v := 168) dX8_init_73 (by decide) ?_
  refine cw_newI (N' := 168) (mc := 4) (ms := 70) dX8_init_76 co_int (by decide) (by decide) rfl (fun q9 => ?_)
  refine cw_putR (q0 := 0) (ws' := [(h0, .inr (7, [.ref q1, .ref q2, .ref q3, .int 0, .int 0, .ref q4, .int 0, .int 0, .int 0, .long 0, .int 0, .int 0, .int 0, .ref q5, .ref q6, .ref q7, .ref q8, .int 0, .ref q9, .null, .int 0, .null, .null, .null])), (q1, cz (cc 0) 8), (q2, cz (cc 0) 8), (q3, cz (cc 0) 320), (q4, cz (cc 0) 400), (q5, cz (cc 0) 168), (q6, cz (cc 0) 168), (q7, cz (cc 0) 336), (q8, cz (cc 2) 2), (q9, cz (cc 0) 168)]) dX8_init_78 ff_X8_35 rfl rfl rfl rfl rfl ?_
  refine cw_aload (i := 0) dX8_init_81 rfl ?_
  refine cw_bipush (v := 6) dX8_init_82 (by decide) ?_
  refine cw_newI (N' := 6) (mc := 3) (ms := 64) dX8_init_84 co_int (by decide) (by decide) rfl (fun q10 => ?_)
  refine cw_putR (q0 := 0) (ws' := [(h0, .inr (7, [.ref q1, .ref q2, .ref q3, .int 0, .int 0, .ref q4, .int 0, .int 0, .int 0, .long 0, .int 0, .int 0, .int 0, .ref q5, .ref q6, .ref q7, .ref q8, .int 0, .ref q9, .ref q10, .int 0, .null, .null, .null])), (q1, cz (cc 0) 8), (q2, cz (cc 0) 8), (q3, cz (cc 0) 320), (q4, cz (cc 0) 400), (q5, cz (cc 0) 168), (q6, cz (cc 0) 168), (q7, cz (cc 0) 336), (q8, cz (cc 2) 2), (q9, cz (cc 0) 168), (q10, cz (cc 0) 6)]) dX8_init_86 ff_X8_38 rfl rfl rfl rfl rfl ?_
  refine cw_aload (i := 0) dX8_init_89 rfl ?_
  refine cw_bipush (v := 16) dX8_init_90 (by decide) ?_
  refine cw_newI (N' := 16) (mc := 2) (ms := 48) dX8_init_92 co_int (by decide) (by decide) rfl (fun q11 => ?_)
  refine cw_putR (q0 := 0) (ws' := [(h0, .inr (7, [.ref q1, .ref q2, .ref q3, .int 0, .int 0, .ref q4, .int 0, .int 0, .int 0, .long 0, .int 0, .int 0, .int 0, .ref q5, .ref q6, .ref q7, .ref q8, .int 0, .ref q9, .ref q10, .int 0, .ref q11, .null, .null])), (q1, cz (cc 0) 8), (q2, cz (cc 0) 8), (q3, cz (cc 0) 320), (q4, cz (cc 0) 400), (q5, cz (cc 0) 168), (q6, cz (cc 0) 168), (q7, cz (cc 0) 336), (q8, cz (cc 2) 2), (q9, cz (cc 0) 168), (q10, cz (cc 0) 6), (q11, cz (cc 0) 16)]) dX8_init_94 ff_X8_41 rfl rfl rfl rfl rfl ?_
  refine cw_aload (i := 0) dX8_init_97 rfl ?_
  refine cw_bipush (v := 40) dX8_init_98 (by decide) ?_
  refine cw_newI (N' := 40) (mc := 1) (ms := 8) dX8_init_100 co_int (by decide) (by decide) rfl (fun q12 => ?_)
  refine cw_putR (q0 := 0) (ws' := [(h0, .inr (7, [.ref q1, .ref q2, .ref q3, .int 0, .int 0, .ref q4, .int 0, .int 0, .int 0, .long 0, .int 0, .int 0, .int 0, .ref q5, .ref q6, .ref q7, .ref q8, .int 0, .ref q9, .ref q10, .int 0, .ref q11, .ref q12, .null])), (q1, cz (cc 0) 8), (q2, cz (cc 0) 8), (q3, cz (cc 0) 320), (q4, cz (cc 0) 400), (q5, cz (cc 0) 168), (q6, cz (cc 0) 168), (q7, cz (cc 0) 336), (q8, cz (cc 2) 2), (q9, cz (cc 0) 168), (q10, cz (cc 0) 6), (q11, cz (cc 0) 16), (q12, cz (cc 0) 40)]) dX8_init_102 ff_X8_44 rfl rfl rfl rfl rfl ?_
  refine cw_aload (i := 0) dX8_init_105 rfl ?_
  refine cw_bipush (v := 8) dX8_init_106 (by decide) ?_
  refine cw_newI (N' := 8) (mc := 0) (ms := 0) dX8_init_108 co_int (by decide) (by decide) rfl (fun q13 => ?_)
  refine cw_putR (q0 := 0) (ws' := [(h0, .inr (7, [.ref q1, .ref q2, .ref q3, .int 0, .int 0, .ref q4, .int 0, .int 0, .int 0, .long 0, .int 0, .int 0, .int 0, .ref q5, .ref q6, .ref q7, .ref q8, .int 0, .ref q9, .ref q10, .int 0, .ref q11, .ref q12, .ref q13])), (q1, cz (cc 0) 8), (q2, cz (cc 0) 8), (q3, cz (cc 0) 320), (q4, cz (cc 0) 400), (q5, cz (cc 0) 168), (q6, cz (cc 0) 168), (q7, cz (cc 0) 336), (q8, cz (cc 2) 2), (q9, cz (cc 0) 168), (q10, cz (cc 0) 6), (q11, cz (cc 0) 16), (q12, cz (cc 0) 40), (q13, cz (cc 0) 8)]) dX8_init_110 ff_X8_47 rfl rfl rfl rfl rfl ?_
  refine cw_iconst (v := 0) dX8_init_113 (by decide) ?_
  refine cw_istore (lx' := [(1, .int 0), (0, .ref h0)]) dX8_init_114 rfl rfl ?_
  exact co_X8l h0 q1 q2 q3 q4 q5 q6 q7 q8 q9 q10 q11 q12 q13 8 0 (fun _ => 0) rfl (fun r hr => absurd hr (Nat.not_lt_zero r))
end CONSWALK
