/-! the constructors of the parts -/
abbrev jX0_init : Mt := (yX0_init, cX0_init, 1, none, ({ frames := 1, cells := 2, slots := 88, locals := 12 } : Room), 0, 0)
theorem lkI0 : LkI jX0_init := ⟨by decide +kernel, rfl, rfl, by decide, by decide, by decide +kernel⟩
abbrev jX1_init : Mt := (yX1_init, cX1_init, 1, none, ({ frames := 1, cells := 5, slots := 268, locals := 12 } : Room), 0, 0)
theorem lkI1 : LkI jX1_init := ⟨by decide +kernel, rfl, rfl, by decide, by decide, by decide +kernel⟩
abbrev jX2_init : Mt := (yX2_init, cX2_init, 1, none, ({ frames := 1, cells := 1, slots := 64, locals := 12 } : Room), 0, 0)
theorem lkI2 : LkI jX2_init := ⟨by decide +kernel, rfl, rfl, by decide, by decide, by decide +kernel⟩
abbrev jX3_init : Mt := (yX3_init, cX3_init, 1, none, ({ frames := 1, cells := 8, slots := 848, locals := 12 } : Room), 0, 0)
theorem lkI3 : LkI jX3_init := ⟨by decide +kernel, rfl, rfl, by decide, by decide, by decide +kernel⟩
abbrev jX4_init : Mt := (yX4_init, cX4_init, 2, none, ({ frames := 2, cells := 27, slots := 1505, locals := 32 } : Room), 0, 0)
theorem lkI4 : LkI jX4_init := ⟨by decide +kernel, rfl, rfl, by decide, by decide, by decide +kernel⟩
abbrev jX5_init : Mt := (yX5_init, cX5_init, 2, none, ({ frames := 1, cells := 14, slots := 764, locals := 12 } : Room), 0, 0)
theorem lkI5 : LkI jX5_init := ⟨by decide +kernel, rfl, rfl, by decide, by decide, by decide +kernel⟩
def wX2 : WT := fun cI cZ cS h0 u => [(h0, .inr (2, [.ref (u 24), .int (-1), .int (nI 0)])), ((u 24), .inl (cI, 64, .inl (fun _ => 0)))]
set_option maxRecDepth 20000 in
theorem ctX2 : CtI jX2_init (.inr (2, [.null, .int 0, .int 0])) wX2 := by
  refine cti_start (by decide) rfl (by decide) (fun dC dI cI cZ cS h0 sz => ?_)
  show CW jX2_init _ _ _ 0 0 0 [some (.ref h0)] [] [(h0, .inr (2, [.null, .int 0, .int 0]))]
  refine cw_aload_n dX2_init_0 rfl ?_
  refine cw_objI dX2_init_1 (by decide +kernel) (by decide) (by decide) ?_
  refine cw_aload_n dX2_init_4 rfl ?_
  refine cw_bipush (v := nI 64) dX2_init_5 (by decide) ?_
  refine cw_newI dX2_init_7 (by decide) (by decide) (by decide) (fun q1 => ?_)
  show CW jX2_init _ _ _ 1 64 9 [some (.ref h0)] [.ref q1, .ref h0] [(h0, .inr (2, [.null, .int 0, .int 0])), (q1, .inl (cI, 64, .inl (fun _ => 0)))]
  refine cw_putF (q0 := 0) (ci := 2) (i := 0) (ty := .array .int) dX2_init_9 ⟨RX2, TX2, 3, tyX2, rfl, by decide, by decide +kernel, lay2, rfl, rfl, by decide +kernel, tyX2_ok, nmX2⟩ rfl rfl rfl rfl (Nat.le_of_ble_eq_true rfl) ?_
  show CW jX2_init _ _ _ 1 64 12 [some (.ref h0)] [] [(h0, .inr (2, [.ref q1, .int 0, .int 0])), (q1, .inl (cI, 64, .inl (fun _ => 0)))]
  refine cw_aload_n dX2_init_12 rfl ?_
  refine cw_iconst (v := (-1)) dX2_init_13 (by decide) ?_
  refine cw_put (q0 := 0) dX2_init_14 fpX2_15 rfl rfl rfl (Nat.le_of_ble_eq_true rfl) ?_
  show CW jX2_init _ _ _ 1 64 17 [some (.ref h0)] [] [(h0, .inr (2, [.ref q1, .int ((-1)), .int 0])), (q1, .inl (cI, 64, .inl (fun _ => 0)))]
  refine cw_aload_n dX2_init_17 rfl ?_
  refine cw_iconst (v := nI 0) dX2_init_18 (by decide) ?_
  refine cw_put (q0 := 0) dX2_init_19 fpX2_19 rfl rfl rfl (Nat.le_of_ble_eq_true rfl) ?_
  show CW jX2_init _ _ _ 1 64 22 [some (.ref h0)] [] [(h0, .inr (2, [.ref q1, .int ((-1)), .int (nI 0)])), (q1, .inl (cI, 64, .inl (fun _ => 0)))]
  exact cw_vret (fun k => [0, 0, 0, 0, 0, 0, 0, 0, 0, 0, 0, 0, 0, 0, 0, 0, 0, 0, 0, 0, 0, 0, 0, 0, q1].getD k 0) dX2_init_22 rfl rfl rfl rfl
def wX0 : WT := fun cI cZ cS h0 u => [(h0, .inr (0, [.ref (u 11), .ref (u 12), .int (nI 0), .int (nI 0), .int (nI 0), .int (-1)])), ((u 11), .inl (cI, 24, .inl (fun _ => 0))), ((u 12), .inl (cI, 64, .inl (fun _ => 0)))]
set_option maxRecDepth 20000 in
theorem ctX0 : CtI jX0_init (.inr (0, [.null, .null, .int 0, .int 0, .int 0, .int 0])) wX0 := by
  refine cti_start (by decide) rfl (by decide) (fun dC dI cI cZ cS h0 sz => ?_)
  show CW jX0_init _ _ _ 0 0 0 [some (.ref h0)] [] [(h0, .inr (0, [.null, .null, .int 0, .int 0, .int 0, .int 0]))]
  refine cw_aload_n dX0_init_0 rfl ?_
  refine cw_objI dX0_init_1 (by decide +kernel) (by decide) (by decide) ?_
  refine cw_aload_n dX0_init_4 rfl ?_
  refine cw_bipush (v := nI 24) dX0_init_5 (by decide) ?_
  refine cw_newI dX0_init_7 (by decide) (by decide) (by decide) (fun q1 => ?_)
  show CW jX0_init _ _ _ 1 24 9 [some (.ref h0)] [.ref q1, .ref h0] [(h0, .inr (0, [.null, .null, .int 0, .int 0, .int 0, .int 0])), (q1, .inl (cI, 24, .inl (fun _ => 0)))]
  refine cw_putF (q0 := 0) (ci := 0) (i := 0) (ty := .array .int) dX0_init_9 ⟨RX0, TX0, 6, tyX0, rfl, by decide, by decide +kernel, lay0, rfl, rfl, by decide +kernel, tyX0_ok, nmX0⟩ rfl rfl rfl rfl (Nat.le_of_ble_eq_true rfl) ?_
  show CW jX0_init _ _ _ 1 24 12 [some (.ref h0)] [] [(h0, .inr (0, [.ref q1, .null, .int 0, .int 0, .int 0, .int 0])), (q1, .inl (cI, 24, .inl (fun _ => 0)))]
  refine cw_aload_n dX0_init_12 rfl ?_
  refine cw_bipush (v := nI 64) dX0_init_13 (by decide) ?_
  refine cw_newI dX0_init_15 (by decide) (by decide) (by decide) (fun q2 => ?_)
  show CW jX0_init _ _ _ 2 88 17 [some (.ref h0)] [.ref q2, .ref h0] [(h0, .inr (0, [.ref q1, .null, .int 0, .int 0, .int 0, .int 0])), (q1, .inl (cI, 24, .inl (fun _ => 0))), (q2, .inl (cI, 64, .inl (fun _ => 0)))]
  refine cw_putF (q0 := 0) (ci := 0) (i := 1) (ty := .array .int) dX0_init_17 ⟨RX0, TX0, 6, tyX0, rfl, by decide, by decide +kernel, lay0, rfl, rfl, by decide +kernel, tyX0_ok, nmX0⟩ rfl rfl rfl rfl (Nat.le_of_ble_eq_true rfl) ?_
  show CW jX0_init _ _ _ 2 88 20 [some (.ref h0)] [] [(h0, .inr (0, [.ref q1, .ref q2, .int 0, .int 0, .int 0, .int 0])), (q1, .inl (cI, 24, .inl (fun _ => 0))), (q2, .inl (cI, 64, .inl (fun _ => 0)))]
  refine cw_aload_n dX0_init_20 rfl ?_
  refine cw_iconst (v := nI 0) dX0_init_21 (by decide) ?_
  refine cw_put (q0 := 0) dX0_init_22 fpX0_18 rfl rfl rfl (Nat.le_of_ble_eq_true rfl) ?_
  show CW jX0_init _ _ _ 2 88 25 [some (.ref h0)] [] [(h0, .inr (0, [.ref q1, .ref q2, .int (nI 0), .int 0, .int 0, .int 0])), (q1, .inl (cI, 24, .inl (fun _ => 0))), (q2, .inl (cI, 64, .inl (fun _ => 0)))]
  refine cw_aload_n dX0_init_25 rfl ?_
  refine cw_iconst (v := nI 0) dX0_init_26 (by decide) ?_
  refine cw_put (q0 := 0) dX0_init_27 fpX0_22 rfl rfl rfl (Nat.le_of_ble_eq_true rfl) ?_
  show CW jX0_init _ _ _ 2 88 30 [some (.ref h0)] [] [(h0, .inr (0, [.ref q1, .ref q2, .int (nI 0), .int (nI 0), .int 0, .int 0])), (q1, .inl (cI, 24, .inl (fun _ => 0))), (q2, .inl (cI, 64, .inl (fun _ => 0)))]
  refine cw_aload_n dX0_init_30 rfl ?_
  refine cw_iconst (v := nI 0) dX0_init_31 (by decide) ?_
  refine cw_put (q0 := 0) dX0_init_32 fpX0_25 rfl rfl rfl (Nat.le_of_ble_eq_true rfl) ?_
  show CW jX0_init _ _ _ 2 88 35 [some (.ref h0)] [] [(h0, .inr (0, [.ref q1, .ref q2, .int (nI 0), .int (nI 0), .int (nI 0), .int 0])), (q1, .inl (cI, 24, .inl (fun _ => 0))), (q2, .inl (cI, 64, .inl (fun _ => 0)))]
  refine cw_aload_n dX0_init_35 rfl ?_
  refine cw_iconst (v := (-1)) dX0_init_36 (by decide) ?_
  refine cw_put (q0 := 0) dX0_init_37 fpX0_28 rfl rfl rfl (Nat.le_of_ble_eq_true rfl) ?_
  show CW jX0_init _ _ _ 2 88 40 [some (.ref h0)] [] [(h0, .inr (0, [.ref q1, .ref q2, .int (nI 0), .int (nI 0), .int (nI 0), .int ((-1))])), (q1, .inl (cI, 24, .inl (fun _ => 0))), (q2, .inl (cI, 64, .inl (fun _ => 0)))]
  exact cw_vret (fun k => [0, 0, 0, 0, 0, 0, 0, 0, 0, 0, 0, q1, q2].getD k 0) dX0_init_40 rfl rfl rfl rfl
def wX1 : WT := fun cI cZ cS h0 u => [(h0, .inr (1, [.int (nI 0), .ref (u 14), .ref (u 15), .ref (u 16), .ref (u 17), .ref (u 18), .int (nI 0), .int (nI 0), .int (nI 0), .int (nI 0), .int (-4), .int (-4)])), ((u 14), .inl (cI, 12, .inl (fun _ => 0))), ((u 15), .inl (cI, 12, .inl (fun _ => 0))), ((u 16), .inl (cI, 12, .inl (fun _ => 0))), ((u 17), .inl (cI, 12, .inl (fun _ => 0))), ((u 18), .inl (cI, 220, .inl (fun _ => 0)))]
set_option maxRecDepth 20000 in
theorem ctX1 : CtI jX1_init (.inr (1, [.int 0, .null, .null, .null, .null, .null, .int 0, .int 0, .int 0, .int 0, .int 0, .int 0])) wX1 := by
  refine cti_start (by decide) rfl (by decide) (fun dC dI cI cZ cS h0 sz => ?_)
  show CW jX1_init _ _ _ 0 0 0 [some (.ref h0)] [] [(h0, .inr (1, [.int 0, .null, .null, .null, .null, .null, .int 0, .int 0, .int 0, .int 0, .int 0, .int 0]))]
  refine cw_aload_n dX1_init_0 rfl ?_
  refine cw_objI dX1_init_1 (by decide +kernel) (by decide) (by decide) ?_
  refine cw_aload_n dX1_init_4 rfl ?_
  refine cw_iconst (v := nI 0) dX1_init_5 (by decide) ?_
  refine cw_put (q0 := 0) dX1_init_6 fpX1_9 rfl rfl rfl (Nat.le_of_ble_eq_true rfl) ?_
  show CW jX1_init _ _ _ 0 0 9 [some (.ref h0)] [] [(h0, .inr (1, [.int (nI 0), .null, .null, .null, .null, .null, .int 0, .int 0, .int 0, .int 0, .int 0, .int 0]))]
  refine cw_aload_n dX1_init_9 rfl ?_
  refine cw_bipush (v := nI 12) dX1_init_10 (by decide) ?_
  refine cw_newI dX1_init_12 (by decide) (by decide) (by decide) (fun q1 => ?_)
  show CW jX1_init _ _ _ 1 12 14 [some (.ref h0)] [.ref q1, .ref h0] [(h0, .inr (1, [.int (nI 0), .null, .null, .null, .null, .null, .int 0, .int 0, .int 0, .int 0, .int 0, .int 0])), (q1, .inl (cI, 12, .inl (fun _ => 0)))]
  refine cw_putF (q0 := 0) (ci := 1) (i := 1) (ty := .array .int) dX1_init_14 ⟨RX1, TX1, 12, tyX1, rfl, by decide, by decide +kernel, lay1, rfl, rfl, by decide +kernel, tyX1_ok, nmX1⟩ rfl rfl rfl rfl (Nat.le_of_ble_eq_true rfl) ?_
  show CW jX1_init _ _ _ 1 12 17 [some (.ref h0)] [] [(h0, .inr (1, [.int (nI 0), .ref q1, .null, .null, .null, .null, .int 0, .int 0, .int 0, .int 0, .int 0, .int 0])), (q1, .inl (cI, 12, .inl (fun _ => 0)))]
  refine cw_aload_n dX1_init_17 rfl ?_
  refine cw_bipush (v := nI 12) dX1_init_18 (by decide) ?_
  refine cw_newI dX1_init_20 (by decide) (by decide) (by decide) (fun q2 => ?_)
  show CW jX1_init _ _ _ 2 24 22 [some (.ref h0)] [.ref q2, .ref h0] [(h0, .inr (1, [.int (nI 0), .ref q1, .null, .null, .null, .null, .int 0, .int 0, .int 0, .int 0, .int 0, .int 0])), (q1, .inl (cI, 12, .inl (fun _ => 0))), (q2, .inl (cI, 12, .inl (fun _ => 0)))]
  refine cw_putF (q0 := 0) (ci := 1) (i := 2) (ty := .array .int) dX1_init_22 ⟨RX1, TX1, 12, tyX1, rfl, by decide, by decide +kernel, lay1, rfl, rfl, by decide +kernel, tyX1_ok, nmX1⟩ rfl rfl rfl rfl (Nat.le_of_ble_eq_true rfl) ?_
  show CW jX1_init _ _ _ 2 24 25 [some (.ref h0)] [] [(h0, .inr (1, [.int (nI 0), .ref q1, .ref q2, .null, .null, .null, .int 0, .int 0, .int 0, .int 0, .int 0, .int 0])), (q1, .inl (cI, 12, .inl (fun _ => 0))), (q2, .inl (cI, 12, .inl (fun _ => 0)))]
  refine cw_aload_n dX1_init_25 rfl ?_
  refine cw_bipush (v := nI 12) dX1_init_26 (by decide) ?_
  refine cw_newI dX1_init_28 (by decide) (by decide) (by decide) (fun q3 => ?_)
  show CW jX1_init _ _ _ 3 36 30 [some (.ref h0)] [.ref q3, .ref h0] [(h0, .inr (1, [.int (nI 0), .ref q1, .ref q2, .null, .null, .null, .int 0, .int 0, .int 0, .int 0, .int 0, .int 0])), (q1, .inl (cI, 12, .inl (fun _ => 0))), (q2, .inl (cI, 12, .inl (fun _ => 0))), (q3, .inl (cI, 12, .inl (fun _ => 0)))]
  refine cw_putF (q0 := 0) (ci := 1) (i := 3) (ty := .array .int) dX1_init_30 ⟨RX1, TX1, 12, tyX1, rfl, by decide, by decide +kernel, lay1, rfl, rfl, by decide +kernel, tyX1_ok, nmX1⟩ rfl rfl rfl rfl (Nat.le_of_ble_eq_true rfl) ?_
  show CW jX1_init _ _ _ 3 36 33 [some (.ref h0)] [] [(h0, .inr (1, [.int (nI 0), .ref q1, .ref q2, .ref q3, .null, .null, .int 0, .int 0, .int 0, .int 0, .int 0, .int 0])), (q1, .inl (cI, 12, .inl (fun _ => 0))), (q2, .inl (cI, 12, .inl (fun _ => 0))), (q3, .inl (cI, 12, .inl (fun _ => 0)))]
  refine cw_aload_n dX1_init_33 rfl ?_
  refine cw_bipush (v := nI 12) dX1_init_34 (by decide) ?_
  refine cw_newI dX1_init_36 (by decide) (by decide) (by decide) (fun q4 => ?_)
  show CW jX1_init _ _ _ 4 48 38 [some (.ref h0)] [.ref q4, .ref h0] [(h0, .inr (1, [.int (nI 0), .ref q1, .ref q2, .ref q3, .null, .null, .int 0, .int 0, .int 0, .int 0, .int 0, .int 0])), (q1, .inl (cI, 12, .inl (fun _ => 0))), (q2, .inl (cI, 12, .inl (fun _ => 0))), (q3, .inl (cI, 12, .inl (fun _ => 0))), (q4, .inl (cI, 12, .inl (fun _ => 0)))]
  refine cw_putF (q0 := 0) (ci := 1) (i := 4) (ty := .array .int) dX1_init_38 ⟨RX1, TX1, 12, tyX1, rfl, by decide, by decide +kernel, lay1, rfl, rfl, by decide +kernel, tyX1_ok, nmX1⟩ rfl rfl rfl rfl (Nat.le_of_ble_eq_true rfl) ?_
  show CW jX1_init _ _ _ 4 48 41 [some (.ref h0)] [] [(h0, .inr (1, [.int (nI 0), .ref q1, .ref q2, .ref q3, .ref q4, .null, .int 0, .int 0, .int 0, .int 0, .int 0, .int 0])), (q1, .inl (cI, 12, .inl (fun _ => 0))), (q2, .inl (cI, 12, .inl (fun _ => 0))), (q3, .inl (cI, 12, .inl (fun _ => 0))), (q4, .inl (cI, 12, .inl (fun _ => 0)))]
  refine cw_aload_n dX1_init_41 rfl ?_
  refine cw_sipush (v := nI 220) dX1_init_42 (by decide) ?_
  refine cw_newI dX1_init_45 (by decide) (by decide) (by decide) (fun q5 => ?_)
  show CW jX1_init _ _ _ 5 268 47 [some (.ref h0)] [.ref q5, .ref h0] [(h0, .inr (1, [.int (nI 0), .ref q1, .ref q2, .ref q3, .ref q4, .null, .int 0, .int 0, .int 0, .int 0, .int 0, .int 0])), (q1, .inl (cI, 12, .inl (fun _ => 0))), (q2, .inl (cI, 12, .inl (fun _ => 0))), (q3, .inl (cI, 12, .inl (fun _ => 0))), (q4, .inl (cI, 12, .inl (fun _ => 0))), (q5, .inl (cI, 220, .inl (fun _ => 0)))]
  refine cw_putF (q0 := 0) (ci := 1) (i := 5) (ty := .array .int) dX1_init_47 ⟨RX1, TX1, 12, tyX1, rfl, by decide, by decide +kernel, lay1, rfl, rfl, by decide +kernel, tyX1_ok, nmX1⟩ rfl rfl rfl rfl (Nat.le_of_ble_eq_true rfl) ?_
  show CW jX1_init _ _ _ 5 268 50 [some (.ref h0)] [] [(h0, .inr (1, [.int (nI 0), .ref q1, .ref q2, .ref q3, .ref q4, .ref q5, .int 0, .int 0, .int 0, .int 0, .int 0, .int 0])), (q1, .inl (cI, 12, .inl (fun _ => 0))), (q2, .inl (cI, 12, .inl (fun _ => 0))), (q3, .inl (cI, 12, .inl (fun _ => 0))), (q4, .inl (cI, 12, .inl (fun _ => 0))), (q5, .inl (cI, 220, .inl (fun _ => 0)))]
  refine cw_aload_n dX1_init_50 rfl ?_
  refine cw_iconst (v := nI 0) dX1_init_51 (by decide) ?_
  refine cw_put (q0 := 0) dX1_init_52 fpX1_31 rfl rfl rfl (Nat.le_of_ble_eq_true rfl) ?_
  show CW jX1_init _ _ _ 5 268 55 [some (.ref h0)] [] [(h0, .inr (1, [.int (nI 0), .ref q1, .ref q2, .ref q3, .ref q4, .ref q5, .int (nI 0), .int 0, .int 0, .int 0, .int 0, .int 0])), (q1, .inl (cI, 12, .inl (fun _ => 0))), (q2, .inl (cI, 12, .inl (fun _ => 0))), (q3, .inl (cI, 12, .inl (fun _ => 0))), (q4, .inl (cI, 12, .inl (fun _ => 0))), (q5, .inl (cI, 220, .inl (fun _ => 0)))]
  refine cw_aload_n dX1_init_55 rfl ?_
  refine cw_iconst (v := nI 0) dX1_init_56 (by decide) ?_
  refine cw_put (q0 := 0) dX1_init_57 fpX1_35 rfl rfl rfl (Nat.le_of_ble_eq_true rfl) ?_
  show CW jX1_init _ _ _ 5 268 60 [some (.ref h0)] [] [(h0, .inr (1, [.int (nI 0), .ref q1, .ref q2, .ref q3, .ref q4, .ref q5, .int (nI 0), .int (nI 0), .int 0, .int 0, .int 0, .int 0])), (q1, .inl (cI, 12, .inl (fun _ => 0))), (q2, .inl (cI, 12, .inl (fun _ => 0))), (q3, .inl (cI, 12, .inl (fun _ => 0))), (q4, .inl (cI, 12, .inl (fun _ => 0))), (q5, .inl (cI, 220, .inl (fun _ => 0)))]
  refine cw_aload_n dX1_init_60 rfl ?_
  refine cw_iconst (v := nI 0) dX1_init_61 (by decide) ?_
  refine cw_put (q0 := 0) dX1_init_62 fpX1_38 rfl rfl rfl (Nat.le_of_ble_eq_true rfl) ?_
  show CW jX1_init _ _ _ 5 268 65 [some (.ref h0)] [] [(h0, .inr (1, [.int (nI 0), .ref q1, .ref q2, .ref q3, .ref q4, .ref q5, .int (nI 0), .int (nI 0), .int (nI 0), .int 0, .int 0, .int 0])), (q1, .inl (cI, 12, .inl (fun _ => 0))), (q2, .inl (cI, 12, .inl (fun _ => 0))), (q3, .inl (cI, 12, .inl (fun _ => 0))), (q4, .inl (cI, 12, .inl (fun _ => 0))), (q5, .inl (cI, 220, .inl (fun _ => 0)))]
  refine cw_aload_n dX1_init_65 rfl ?_
  refine cw_iconst (v := nI 0) dX1_init_66 (by decide) ?_
  refine cw_put (q0 := 0) dX1_init_67 fpX1_41 rfl rfl rfl (Nat.le_of_ble_eq_true rfl) ?_
  show CW jX1_init _ _ _ 5 268 70 [some (.ref h0)] [] [(h0, .inr (1, [.int (nI 0), .ref q1, .ref q2, .ref q3, .ref q4, .ref q5, .int (nI 0), .int (nI 0), .int (nI 0), .int (nI 0), .int 0, .int 0])), (q1, .inl (cI, 12, .inl (fun _ => 0))), (q2, .inl (cI, 12, .inl (fun _ => 0))), (q3, .inl (cI, 12, .inl (fun _ => 0))), (q4, .inl (cI, 12, .inl (fun _ => 0))), (q5, .inl (cI, 220, .inl (fun _ => 0)))]
  refine cw_aload_n dX1_init_70 rfl ?_
  refine cw_bipush (v := (-4)) dX1_init_71 (by decide) ?_
  refine cw_put (q0 := 0) dX1_init_73 fpX1_44 rfl rfl rfl (Nat.le_of_ble_eq_true rfl) ?_
  show CW jX1_init _ _ _ 5 268 76 [some (.ref h0)] [] [(h0, .inr (1, [.int (nI 0), .ref q1, .ref q2, .ref q3, .ref q4, .ref q5, .int (nI 0), .int (nI 0), .int (nI 0), .int (nI 0), .int ((-4)), .int 0])), (q1, .inl (cI, 12, .inl (fun _ => 0))), (q2, .inl (cI, 12, .inl (fun _ => 0))), (q3, .inl (cI, 12, .inl (fun _ => 0))), (q4, .inl (cI, 12, .inl (fun _ => 0))), (q5, .inl (cI, 220, .inl (fun _ => 0)))]
  refine cw_aload_n dX1_init_76 rfl ?_
  refine cw_bipush (v := (-4)) dX1_init_77 (by decide) ?_
  refine cw_put (q0 := 0) dX1_init_79 fpX1_47 rfl rfl rfl (Nat.le_of_ble_eq_true rfl) ?_
  show CW jX1_init _ _ _ 5 268 82 [some (.ref h0)] [] [(h0, .inr (1, [.int (nI 0), .ref q1, .ref q2, .ref q3, .ref q4, .ref q5, .int (nI 0), .int (nI 0), .int (nI 0), .int (nI 0), .int ((-4)), .int ((-4))])), (q1, .inl (cI, 12, .inl (fun _ => 0))), (q2, .inl (cI, 12, .inl (fun _ => 0))), (q3, .inl (cI, 12, .inl (fun _ => 0))), (q4, .inl (cI, 12, .inl (fun _ => 0))), (q5, .inl (cI, 220, .inl (fun _ => 0)))]
  exact cw_vret (fun k => [0, 0, 0, 0, 0, 0, 0, 0, 0, 0, 0, 0, 0, 0, q1, q2, q3, q4, q5].getD k 0) dX1_init_82 rfl rfl rfl rfl
def wX3 : WT := fun cI cZ cS h0 u => [(h0, .inr (3, [.int (nI 4), .int (nI 0), .int (nI 0), .ref (u 2), .ref (u 3), .ref (u 4), .ref (u 5), .ref (u 6), .ref (u 7), .ref (u 8), .ref (u 9)])), ((u 2), .inl (cI, 8, .inl (fun _ => 0))), ((u 3), .inl (cI, 8, .inl (fun _ => 0))), ((u 4), .inl (cI, 64, .inl (fun _ => 0))), ((u 5), .inl (cI, 64, .inl (fun _ => 0))), ((u 6), .inl (cI, 64, .inl (fun _ => 0))), ((u 7), .inl (cI, 512, .inl (fun _ => 0))), ((u 8), .inl (cI, 64, .inl (fun _ => 0))), ((u 9), .inl (cZ, 64, .inl (fun _ => 0)))]
set_option maxRecDepth 20000 in
theorem ctX3 : CtI jX3_init (.inr (3, [.int 0, .int 0, .int 0, .null, .null, .null, .null, .null, .null, .null, .null])) wX3 := by
  refine cti_start (by decide) rfl (by decide) (fun dC dI cI cZ cS h0 sz => ?_)
  show CW jX3_init _ _ _ 0 0 0 [some (.ref h0)] [] [(h0, .inr (3, [.int 0, .int 0, .int 0, .null, .null, .null, .null, .null, .null, .null, .null]))]
  refine cw_aload_n dX3_init_0 rfl ?_
  refine cw_objI dX3_init_1 (by decide +kernel) (by decide) (by decide) ?_
  refine cw_aload_n dX3_init_4 rfl ?_
  refine cw_iconst (v := nI 4) dX3_init_5 (by decide) ?_
  refine cw_put (q0 := 0) dX3_init_6 fpX3_9 rfl rfl rfl (Nat.le_of_ble_eq_true rfl) ?_
  show CW jX3_init _ _ _ 0 0 9 [some (.ref h0)] [] [(h0, .inr (3, [.int (nI 4), .int 0, .int 0, .null, .null, .null, .null, .null, .null, .null, .null]))]
  refine cw_aload_n dX3_init_9 rfl ?_
  refine cw_iconst (v := nI 0) dX3_init_10 (by decide) ?_
  refine cw_put (q0 := 0) dX3_init_11 fpX3_15 rfl rfl rfl (Nat.le_of_ble_eq_true rfl) ?_
  show CW jX3_init _ _ _ 0 0 14 [some (.ref h0)] [] [(h0, .inr (3, [.int (nI 4), .int (nI 0), .int 0, .null, .null, .null, .null, .null, .null, .null, .null]))]
  refine cw_aload_n dX3_init_14 rfl ?_
  refine cw_iconst (v := nI 0) dX3_init_15 (by decide) ?_
  refine cw_put (q0 := 0) dX3_init_16 fpX3_18 rfl rfl rfl (Nat.le_of_ble_eq_true rfl) ?_
  show CW jX3_init _ _ _ 0 0 19 [some (.ref h0)] [] [(h0, .inr (3, [.int (nI 4), .int (nI 0), .int (nI 0), .null, .null, .null, .null, .null, .null, .null, .null]))]
  refine cw_aload_n dX3_init_19 rfl ?_
  refine cw_bipush (v := nI 8) dX3_init_20 (by decide) ?_
  refine cw_newI dX3_init_22 (by decide) (by decide) (by decide) (fun q1 => ?_)
  show CW jX3_init _ _ _ 1 8 24 [some (.ref h0)] [.ref q1, .ref h0] [(h0, .inr (3, [.int (nI 4), .int (nI 0), .int (nI 0), .null, .null, .null, .null, .null, .null, .null, .null])), (q1, .inl (cI, 8, .inl (fun _ => 0)))]
  refine cw_putF (q0 := 0) (ci := 3) (i := 3) (ty := .array .int) dX3_init_24 ⟨RX3, TX3, 11, tyX3, rfl, by decide, by decide +kernel, lay3, rfl, rfl, by decide +kernel, tyX3_ok, nmX3⟩ rfl rfl rfl rfl (Nat.le_of_ble_eq_true rfl) ?_
  show CW jX3_init _ _ _ 1 8 27 [some (.ref h0)] [] [(h0, .inr (3, [.int (nI 4), .int (nI 0), .int (nI 0), .ref q1, .null, .null, .null, .null, .null, .null, .null])), (q1, .inl (cI, 8, .inl (fun _ => 0)))]
  refine cw_aload_n dX3_init_27 rfl ?_
  refine cw_bipush (v := nI 8) dX3_init_28 (by decide) ?_
  refine cw_newI dX3_init_30 (by decide) (by decide) (by decide) (fun q2 => ?_)
  show CW jX3_init _ _ _ 2 16 32 [some (.ref h0)] [.ref q2, .ref h0] [(h0, .inr (3, [.int (nI 4), .int (nI 0), .int (nI 0), .ref q1, .null, .null, .null, .null, .null, .null, .null])), (q1, .inl (cI, 8, .inl (fun _ => 0))), (q2, .inl (cI, 8, .inl (fun _ => 0)))]
  refine cw_putF (q0 := 0) (ci := 3) (i := 4) (ty := .array .int) dX3_init_32 ⟨RX3, TX3, 11, tyX3, rfl, by decide, by decide +kernel, lay3, rfl, rfl, by decide +kernel, tyX3_ok, nmX3⟩ rfl rfl rfl rfl (Nat.le_of_ble_eq_true rfl) ?_
  show CW jX3_init _ _ _ 2 16 35 [some (.ref h0)] [] [(h0, .inr (3, [.int (nI 4), .int (nI 0), .int (nI 0), .ref q1, .ref q2, .null, .null, .null, .null, .null, .null])), (q1, .inl (cI, 8, .inl (fun _ => 0))), (q2, .inl (cI, 8, .inl (fun _ => 0)))]
  refine cw_aload_n dX3_init_35 rfl ?_
  refine cw_bipush (v := nI 64) dX3_init_36 (by decide) ?_
  refine cw_newI dX3_init_38 (by decide) (by decide) (by decide) (fun q3 => ?_)
  show CW jX3_init _ _ _ 3 80 40 [some (.ref h0)] [.ref q3, .ref h0] [(h0, .inr (3, [.int (nI 4), .int (nI 0), .int (nI 0), .ref q1, .ref q2, .null, .null, .null, .null, .null, .null])), (q1, .inl (cI, 8, .inl (fun _ => 0))), (q2, .inl (cI, 8, .inl (fun _ => 0))), (q3, .inl (cI, 64, .inl (fun _ => 0)))]
  refine cw_putF (q0 := 0) (ci := 3) (i := 5) (ty := .array .int) dX3_init_40 ⟨RX3, TX3, 11, tyX3, rfl, by decide, by decide +kernel, lay3, rfl, rfl, by decide +kernel, tyX3_ok, nmX3⟩ rfl rfl rfl rfl (Nat.le_of_ble_eq_true rfl) ?_
  show CW jX3_init _ _ _ 3 80 43 [some (.ref h0)] [] [(h0, .inr (3, [.int (nI 4), .int (nI 0), .int (nI 0), .ref q1, .ref q2, .ref q3, .null, .null, .null, .null, .null])), (q1, .inl (cI, 8, .inl (fun _ => 0))), (q2, .inl (cI, 8, .inl (fun _ => 0))), (q3, .inl (cI, 64, .inl (fun _ => 0)))]
  refine cw_aload_n dX3_init_43 rfl ?_
  refine cw_bipush (v := nI 64) dX3_init_44 (by decide) ?_
  refine cw_newI dX3_init_46 (by decide) (by decide) (by decide) (fun q4 => ?_)
  show CW jX3_init _ _ _ 4 144 48 [some (.ref h0)] [.ref q4, .ref h0] [(h0, .inr (3, [.int (nI 4), .int (nI 0), .int (nI 0), .ref q1, .ref q2, .ref q3, .null, .null, .null, .null, .null])), (q1, .inl (cI, 8, .inl (fun _ => 0))), (q2, .inl (cI, 8, .inl (fun _ => 0))), (q3, .inl (cI, 64, .inl (fun _ => 0))), (q4, .inl (cI, 64, .inl (fun _ => 0)))]
  refine cw_putF (q0 := 0) (ci := 3) (i := 6) (ty := .array .int) dX3_init_48 ⟨RX3, TX3, 11, tyX3, rfl, by decide, by decide +kernel, lay3, rfl, rfl, by decide +kernel, tyX3_ok, nmX3⟩ rfl rfl rfl rfl (Nat.le_of_ble_eq_true rfl) ?_
  show CW jX3_init _ _ _ 4 144 51 [some (.ref h0)] [] [(h0, .inr (3, [.int (nI 4), .int (nI 0), .int (nI 0), .ref q1, .ref q2, .ref q3, .ref q4, .null, .null, .null, .null])), (q1, .inl (cI, 8, .inl (fun _ => 0))), (q2, .inl (cI, 8, .inl (fun _ => 0))), (q3, .inl (cI, 64, .inl (fun _ => 0))), (q4, .inl (cI, 64, .inl (fun _ => 0)))]
  refine cw_aload_n dX3_init_51 rfl ?_
  refine cw_bipush (v := nI 64) dX3_init_52 (by decide) ?_
  refine cw_newI dX3_init_54 (by decide) (by decide) (by decide) (fun q5 => ?_)
  show CW jX3_init _ _ _ 5 208 56 [some (.ref h0)] [.ref q5, .ref h0] [(h0, .inr (3, [.int (nI 4), .int (nI 0), .int (nI 0), .ref q1, .ref q2, .ref q3, .ref q4, .null, .null, .null, .null])), (q1, .inl (cI, 8, .inl (fun _ => 0))), (q2, .inl (cI, 8, .inl (fun _ => 0))), (q3, .inl (cI, 64, .inl (fun _ => 0))), (q4, .inl (cI, 64, .inl (fun _ => 0))), (q5, .inl (cI, 64, .inl (fun _ => 0)))]
  refine cw_putF (q0 := 0) (ci := 3) (i := 7) (ty := .array .int) dX3_init_56 ⟨RX3, TX3, 11, tyX3, rfl, by decide, by decide +kernel, lay3, rfl, rfl, by decide +kernel, tyX3_ok, nmX3⟩ rfl rfl rfl rfl (Nat.le_of_ble_eq_true rfl) ?_
  show CW jX3_init _ _ _ 5 208 59 [some (.ref h0)] [] [(h0, .inr (3, [.int (nI 4), .int (nI 0), .int (nI 0), .ref q1, .ref q2, .ref q3, .ref q4, .ref q5, .null, .null, .null])), (q1, .inl (cI, 8, .inl (fun _ => 0))), (q2, .inl (cI, 8, .inl (fun _ => 0))), (q3, .inl (cI, 64, .inl (fun _ => 0))), (q4, .inl (cI, 64, .inl (fun _ => 0))), (q5, .inl (cI, 64, .inl (fun _ => 0)))]
  refine cw_aload_n dX3_init_59 rfl ?_
  refine cw_sipush (v := nI 512) dX3_init_60 (by decide) ?_
  refine cw_newI dX3_init_63 (by decide) (by decide) (by decide) (fun q6 => ?_)
  show CW jX3_init _ _ _ 6 720 65 [some (.ref h0)] [.ref q6, .ref h0] [(h0, .inr (3, [.int (nI 4), .int (nI 0), .int (nI 0), .ref q1, .ref q2, .ref q3, .ref q4, .ref q5, .null, .null, .null])), (q1, .inl (cI, 8, .inl (fun _ => 0))), (q2, .inl (cI, 8, .inl (fun _ => 0))), (q3, .inl (cI, 64, .inl (fun _ => 0))), (q4, .inl (cI, 64, .inl (fun _ => 0))), (q5, .inl (cI, 64, .inl (fun _ => 0))), (q6, .inl (cI, 512, .inl (fun _ => 0)))]
  refine cw_putF (q0 := 0) (ci := 3) (i := 8) (ty := .array .int) dX3_init_65 ⟨RX3, TX3, 11, tyX3, rfl, by decide, by decide +kernel, lay3, rfl, rfl, by decide +kernel, tyX3_ok, nmX3⟩ rfl rfl rfl rfl (Nat.le_of_ble_eq_true rfl) ?_
  show CW jX3_init _ _ _ 6 720 68 [some (.ref h0)] [] [(h0, .inr (3, [.int (nI 4), .int (nI 0), .int (nI 0), .ref q1, .ref q2, .ref q3, .ref q4, .ref q5, .ref q6, .null, .null])), (q1, .inl (cI, 8, .inl (fun _ => 0))), (q2, .inl (cI, 8, .inl (fun _ => 0))), (q3, .inl (cI, 64, .inl (fun _ => 0))), (q4, .inl (cI, 64, .inl (fun _ => 0))), (q5, .inl (cI, 64, .inl (fun _ => 0))), (q6, .inl (cI, 512, .inl (fun _ => 0)))]
  refine cw_aload_n dX3_init_68 rfl ?_
  refine cw_bipush (v := nI 64) dX3_init_69 (by decide) ?_
  refine cw_newI dX3_init_71 (by decide) (by decide) (by decide) (fun q7 => ?_)
  show CW jX3_init _ _ _ 7 784 73 [some (.ref h0)] [.ref q7, .ref h0] [(h0, .inr (3, [.int (nI 4), .int (nI 0), .int (nI 0), .ref q1, .ref q2, .ref q3, .ref q4, .ref q5, .ref q6, .null, .null])), (q1, .inl (cI, 8, .inl (fun _ => 0))), (q2, .inl (cI, 8, .inl (fun _ => 0))), (q3, .inl (cI, 64, .inl (fun _ => 0))), (q4, .inl (cI, 64, .inl (fun _ => 0))), (q5, .inl (cI, 64, .inl (fun _ => 0))), (q6, .inl (cI, 512, .inl (fun _ => 0))), (q7, .inl (cI, 64, .inl (fun _ => 0)))]
  refine cw_putF (q0 := 0) (ci := 3) (i := 9) (ty := .array .int) dX3_init_73 ⟨RX3, TX3, 11, tyX3, rfl, by decide, by decide +kernel, lay3, rfl, rfl, by decide +kernel, tyX3_ok, nmX3⟩ rfl rfl rfl rfl (Nat.le_of_ble_eq_true rfl) ?_
  show CW jX3_init _ _ _ 7 784 76 [some (.ref h0)] [] [(h0, .inr (3, [.int (nI 4), .int (nI 0), .int (nI 0), .ref q1, .ref q2, .ref q3, .ref q4, .ref q5, .ref q6, .ref q7, .null])), (q1, .inl (cI, 8, .inl (fun _ => 0))), (q2, .inl (cI, 8, .inl (fun _ => 0))), (q3, .inl (cI, 64, .inl (fun _ => 0))), (q4, .inl (cI, 64, .inl (fun _ => 0))), (q5, .inl (cI, 64, .inl (fun _ => 0))), (q6, .inl (cI, 512, .inl (fun _ => 0))), (q7, .inl (cI, 64, .inl (fun _ => 0)))]
  refine cw_aload_n dX3_init_76 rfl ?_
  refine cw_bipush (v := nI 64) dX3_init_77 (by decide) ?_
  refine cw_newZ dX3_init_79 (by decide) (by decide) (by decide) (fun q8 => ?_)
  show CW jX3_init _ _ _ 8 848 81 [some (.ref h0)] [.ref q8, .ref h0] [(h0, .inr (3, [.int (nI 4), .int (nI 0), .int (nI 0), .ref q1, .ref q2, .ref q3, .ref q4, .ref q5, .ref q6, .ref q7, .null])), (q1, .inl (cI, 8, .inl (fun _ => 0))), (q2, .inl (cI, 8, .inl (fun _ => 0))), (q3, .inl (cI, 64, .inl (fun _ => 0))), (q4, .inl (cI, 64, .inl (fun _ => 0))), (q5, .inl (cI, 64, .inl (fun _ => 0))), (q6, .inl (cI, 512, .inl (fun _ => 0))), (q7, .inl (cI, 64, .inl (fun _ => 0))), (q8, .inl (cZ, 64, .inl (fun _ => 0)))]
  refine cw_putF (q0 := 0) (ci := 3) (i := 10) (ty := .array .boolean) dX3_init_81 ⟨RX3, TX3, 11, tyX3, rfl, by decide, by decide +kernel, lay3, rfl, rfl, by decide +kernel, tyX3_ok, nmX3⟩ rfl rfl rfl rfl (Nat.le_of_ble_eq_true rfl) ?_
  show CW jX3_init _ _ _ 8 848 84 [some (.ref h0)] [] [(h0, .inr (3, [.int (nI 4), .int (nI 0), .int (nI 0), .ref q1, .ref q2, .ref q3, .ref q4, .ref q5, .ref q6, .ref q7, .ref q8])), (q1, .inl (cI, 8, .inl (fun _ => 0))), (q2, .inl (cI, 8, .inl (fun _ => 0))), (q3, .inl (cI, 64, .inl (fun _ => 0))), (q4, .inl (cI, 64, .inl (fun _ => 0))), (q5, .inl (cI, 64, .inl (fun _ => 0))), (q6, .inl (cI, 512, .inl (fun _ => 0))), (q7, .inl (cI, 64, .inl (fun _ => 0))), (q8, .inl (cZ, 64, .inl (fun _ => 0)))]
  exact cw_vret (fun k => [0, 0, q1, q2, q3, q4, q5, q6, q7, q8].getD k 0) dX3_init_84 rfl rfl rfl rfl
