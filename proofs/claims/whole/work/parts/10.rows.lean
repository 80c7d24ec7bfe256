section ROWS
variable {g : XG} {l : Launch} {d : Nat} {M : XM}
set_option maxRecDepth 20000 in
theorem s_X6_isNumber (row : Int32) : XC g l mX6_isNumber d [xr 1, xi row] M (XB (0 ≤ row ∧ row < 8) M M) := by
  show XW g l mX6_isNumber _ 0 [some (xr 1), some (xi row)] [] M _
  refine xw_iload_n dX6_isNumber_0 rfl ?_
  refine xw_if_lt (tgt := 14) dX6_isNumber_1 (by decide) (fun c1 => ?_) (fun c1 => ?_)
  · refine xw_iconst (v := 0) dX6_isNumber_14 (by decide) ?_
    refine xw_iretz dX6_isNumber_15 rfl (Or.inl rfl) (Or.inr ⟨?_, rfl, rfl⟩)
    first | assumption | grind
  · refine xw_iload_n dX6_isNumber_4 rfl ?_
    refine xw_bipush (v := 8) dX6_isNumber_5 (by decide) ?_
    refine xw_icmp_ge (tgt := 14) dX6_isNumber_7 (by decide) (fun c7 => ?_) (fun c7 => ?_)
    · refine xw_iconst (v := 0) dX6_isNumber_14 (by decide) ?_
      refine xw_iretz dX6_isNumber_15 rfl (Or.inl rfl) (Or.inr ⟨?_, rfl, rfl⟩)
      first | assumption | grind
    · refine xw_iconst (v := 1) dX6_isNumber_10 (by decide) ?_
      refine xw_goto (tgt := 15) dX6_isNumber_11 (by decide) ?_
      refine xw_iretz dX6_isNumber_15 rfl (Or.inr rfl) (Or.inl ⟨?_, rfl, rfl⟩)
      first | assumption | grind
set_option maxRecDepth 20000 in
theorem s_X6_isLane (row : Int32) : XC g l mX6_isLane d [xr 1, xi row] M (XB (0 ≤ row ∧ row < 3) M M) := by
  show XW g l mX6_isLane _ 0 [some (xr 1), some (xi row)] [] M _
  refine xw_iload_n dX6_isLane_0 rfl ?_
  refine xw_if_lt (tgt := 13) dX6_isLane_1 (by decide) (fun c1 => ?_) (fun c1 => ?_)
  · refine xw_iconst (v := 0) dX6_isLane_13 (by decide) ?_
    refine xw_iretz dX6_isLane_14 rfl (Or.inl rfl) (Or.inr ⟨?_, rfl, rfl⟩)
    first | assumption | grind
  · refine xw_iload_n dX6_isLane_4 rfl ?_
    refine xw_iconst (v := 3) dX6_isLane_5 (by decide) ?_
    refine xw_icmp_ge (tgt := 13) dX6_isLane_6 (by decide) (fun c6 => ?_) (fun c6 => ?_)
    · refine xw_iconst (v := 0) dX6_isLane_13 (by decide) ?_
      refine xw_iretz dX6_isLane_14 rfl (Or.inl rfl) (Or.inr ⟨?_, rfl, rfl⟩)
      first | assumption | grind
    · refine xw_iconst (v := 1) dX6_isLane_9 (by decide) ?_
      refine xw_goto (tgt := 14) dX6_isLane_10 (by decide) ?_
      refine xw_iretz dX6_isLane_14 rfl (Or.inr rfl) (Or.inl ⟨?_, rfl, rfl⟩)
      first | assumption | grind
set_option maxRecDepth 20000 in
theorem s_X6_isMissing {r : Nat} (hr : r < 8) : XC g l mX6_isMissing d [xr 1, xi (nI r)] M (XB (M.1 2 r = -1) M M) := by
  show XW g l mX6_isMissing _ 0 [some (xr 1), some (xi (nI r))] [] M _
  refine xw_aload_n dX6_isMissing_0 rfl ?_
  refine xw_getR dX6_isMissing_1 fl_X6_9 rfl rfl ?_
  refine xw_iload_n dX6_isMissing_4 rfl ?_
  refine xw_ialN _ dX6_isMissing_5 rfl (rfl) (rfl) rfl ?_ ?_
  · omega
  refine xw_iconst (v := (-1)) dX6_isMissing_6 (by decide) ?_
  refine xw_icmp_ne (tgt := 14) dX6_isMissing_7 (by decide) (fun c7 => ?_) (fun c7 => ?_)
  · refine xw_iconst (v := 0) dX6_isMissing_14 (by decide) ?_
    refine xw_iretz dX6_isMissing_15 rfl (Or.inl rfl) (Or.inr ⟨?_, rfl, rfl⟩)
    first | assumption | grind
  · refine xw_iconst (v := 1) dX6_isMissing_10 (by decide) ?_
    refine xw_goto (tgt := 15) dX6_isMissing_11 (by decide) ?_
    refine xw_iretz dX6_isMissing_15 rfl (Or.inr rfl) (Or.inl ⟨?_, rfl, rfl⟩)
    first | assumption | grind
end ROWS
