/-! the constructor of the reference -/
def wX5 : WT := fun cI cZ cS h0 u => [(h0, .inr (5, [.int (nI 4), .int 0, .ref (u 29), .ref (u 30), .ref (u 31), .ref (u 32), .ref (u 33), .ref (u 34), .int 0, .int 0, .ref (u 35), .ref (u 36), .ref (u 37), .ref (u 38), .ref (u 39), .int 0, .ref (u 40), .ref (u 41), .ref (u 42)])), ((u 29), .inl (cI, 8, .inl (fun _ => 0))), ((u 30), .inl (cI, 8, .inl (fun _ => 0))), ((u 31), .inl (cI, 64, .inl (fun _ => 0))), ((u 32), .inl (cI, 64, .inl (fun _ => 0))), ((u 33), .inl (cI, 64, .inl (fun _ => 0))), ((u 34), .inl (cI, 24, .inl (fun _ => 0))), ((u 35), .inl (cI, 12, .inl (fun _ => 0))), ((u 36), .inl (cI, 12, .inl (fun _ => 0))), ((u 37), .inl (cI, 12, .inl (fun _ => 0))), ((u 38), .inl (cI, 12, .inl (fun _ => 0))), ((u 39), .inl (cI, 220, .inl (fun _ => 0))), ((u 40), .inl (cI, 4, .inl (upd (upd (upd (upd (fun _ => 0) 0 (-4)) 1 (-4)) 2 (-4)) 3 (-4)))), ((u 41), .inl (cI, 4, .inl (fun _ => 0))), ((u 42), .inl (cI, 256, .inl (fun _ => 0)))]
set_option maxRecDepth 20000 in
theorem ctX5 : CtI jX5_init (.inr (5, [.int 0, .int 0, .null, .null, .null, .null, .null, .null, .int 0, .int 0, .null, .null, .null, .null, .null, .int 0, .null, .null, .null])) wX5 := by
  refine cti_start (by decide) rfl (by decide) (fun dC dI cI cZ cS h0 sz => ?_)
  show CW jX5_init _ _ _ 0 0 0 [some (.ref h0), none] [] [(h0, .inr (5, [.int 0, .int 0, .null, .null, .null, .null, .null, .null, .int 0, .int 0, .null, .null, .null, .null, .null, .int 0, .null, .null, .null]))]
  refine cw_aload_n dX5_init_0 rfl ?_
  refine cw_objI dX5_init_1 (by decide +kernel) (by decide) (by decide) ?_
  refine cw_aload_n dX5_init_4 rfl ?_
  refine cw_iconst (v := nI 4) dX5_init_5 (by decide) ?_
  refine cw_put (q0 := 0) dX5_init_6 fpX5_7 rfl rfl rfl (by decide) ?_
  show CW jX5_init _ _ _ 0 0 9 [some (.ref h0), none] [] [(h0, .inr (5, [.int (nI 4), .int 0, .null, .null, .null, .null, .null, .null, .int 0, .int 0, .null, .null, .null, .null, .null, .int 0, .null, .null, .null]))]
  refine cw_aload_n dX5_init_9 rfl ?_
  refine cw_bipush (v := nI 8) dX5_init_10 (by decide) ?_
  refine cw_newI dX5_init_12 (by decide) (by decide) (by decide) (fun q1 => ?_)
  show CW jX5_init _ _ _ 1 8 14 [some (.ref h0), none] [.ref q1, .ref h0] [(h0, .inr (5, [.int (nI 4), .int 0, .null, .null, .null, .null, .null, .null, .int 0, .int 0, .null, .null, .null, .null, .null, .int 0, .null, .null, .null])), (q1, .inl (cI, 8, .inl (fun _ => 0)))]
  refine cw_putF (q0 := 0) (ty := .array .int) dX5_init_14 ⟨RX5, TX5, 19, tyX5, rfl, by decide, by decide +kernel, lay5, rfl, rfl, by decide +kernel, tyX5_ok, nmX5⟩ rfl rfl rfl rfl (by decide) ?_
  show CW jX5_init _ _ _ 1 8 17 [some (.ref h0), none] [] [(h0, .inr (5, [.int (nI 4), .int 0, .ref q1, .null, .null, .null, .null, .null, .int 0, .int 0, .null, .null, .null, .null, .null, .int 0, .null, .null, .null])), (q1, .inl (cI, 8, .inl (fun _ => 0)))]
  refine cw_aload_n dX5_init_17 rfl ?_
  refine cw_bipush (v := nI 8) dX5_init_18 (by decide) ?_
  refine cw_newI dX5_init_20 (by decide) (by decide) (by decide) (fun q2 => ?_)
  show CW jX5_init _ _ _ 2 16 22 [some (.ref h0), none] [.ref q2, .ref h0] [(h0, .inr (5, [.int (nI 4), .int 0, .ref q1, .null, .null, .null, .null, .null, .int 0, .int 0, .null, .null, .null, .null, .null, .int 0, .null, .null, .null])), (q1, .inl (cI, 8, .inl (fun _ => 0))), (q2, .inl (cI, 8, .inl (fun _ => 0)))]
  refine cw_putF (q0 := 0) (ty := .array .int) dX5_init_22 ⟨RX5, TX5, 19, tyX5, rfl, by decide, by decide +kernel, lay5, rfl, rfl, by decide +kernel, tyX5_ok, nmX5⟩ rfl rfl rfl rfl (by decide) ?_
  show CW jX5_init _ _ _ 2 16 25 [some (.ref h0), none] [] [(h0, .inr (5, [.int (nI 4), .int 0, .ref q1, .ref q2, .null, .null, .null, .null, .int 0, .int 0, .null, .null, .null, .null, .null, .int 0, .null, .null, .null])), (q1, .inl (cI, 8, .inl (fun _ => 0))), (q2, .inl (cI, 8, .inl (fun _ => 0)))]
  refine cw_aload_n dX5_init_25 rfl ?_
  refine cw_bipush (v := nI 64) dX5_init_26 (by decide) ?_
  refine cw_newI dX5_init_28 (by decide) (by decide) (by decide) (fun q3 => ?_)
  show CW jX5_init _ _ _ 3 80 30 [some (.ref h0), none] [.ref q3, .ref h0] [(h0, .inr (5, [.int (nI 4), .int 0, .ref q1, .ref q2, .null, .null, .null, .null, .int 0, .int 0, .null, .null, .null, .null, .null, .int 0, .null, .null, .null])), (q1, .inl (cI, 8, .inl (fun _ => 0))), (q2, .inl (cI, 8, .inl (fun _ => 0))), (q3, .inl (cI, 64, .inl (fun _ => 0)))]
  refine cw_putF (q0 := 0) (ty := .array .int) dX5_init_30 ⟨RX5, TX5, 19, tyX5, rfl, by decide, by decide +kernel, lay5, rfl, rfl, by decide +kernel, tyX5_ok, nmX5⟩ rfl rfl rfl rfl (by decide) ?_
  show CW jX5_init _ _ _ 3 80 33 [some (.ref h0), none] [] [(h0, .inr (5, [.int (nI 4), .int 0, .ref q1, .ref q2, .ref q3, .null, .null, .null, .int 0, .int 0, .null, .null, .null, .null, .null, .int 0, .null, .null, .null])), (q1, .inl (cI, 8, .inl (fun _ => 0))), (q2, .inl (cI, 8, .inl (fun _ => 0))), (q3, .inl (cI, 64, .inl (fun _ => 0)))]
  refine cw_aload_n dX5_init_33 rfl ?_
  refine cw_bipush (v := nI 64) dX5_init_34 (by decide) ?_
  refine cw_newI dX5_init_36 (by decide) (by decide) (by decide) (fun q4 => ?_)
  show CW jX5_init _ _ _ 4 144 38 [some (.ref h0), none] [.ref q4, .ref h0] [(h0, .inr (5, [.int (nI 4), .int 0, .ref q1, .ref q2, .ref q3, .null, .null, .null, .int 0, .int 0, .null, .null, .null, .null, .null, .int 0, .null, .null, .null])), (q1, .inl (cI, 8, .inl (fun _ => 0))), (q2, .inl (cI, 8, .inl (fun _ => 0))), (q3, .inl (cI, 64, .inl (fun _ => 0))), (q4, .inl (cI, 64, .inl (fun _ => 0)))]
  refine cw_putF (q0 := 0) (ty := .array .int) dX5_init_38 ⟨RX5, TX5, 19, tyX5, rfl, by decide, by decide +kernel, lay5, rfl, rfl, by decide +kernel, tyX5_ok, nmX5⟩ rfl rfl rfl rfl (by decide) ?_
  show CW jX5_init _ _ _ 4 144 41 [some (.ref h0), none] [] [(h0, .inr (5, [.int (nI 4), .int 0, .ref q1, .ref q2, .ref q3, .ref q4, .null, .null, .int 0, .int 0, .null, .null, .null, .null, .null, .int 0, .null, .null, .null])), (q1, .inl (cI, 8, .inl (fun _ => 0))), (q2, .inl (cI, 8, .inl (fun _ => 0))), (q3, .inl (cI, 64, .inl (fun _ => 0))), (q4, .inl (cI, 64, .inl (fun _ => 0)))]
  refine cw_aload_n dX5_init_41 rfl ?_
  refine cw_bipush (v := nI 64) dX5_init_42 (by decide) ?_
  refine cw_newI dX5_init_44 (by decide) (by decide) (by decide) (fun q5 => ?_)
  show CW jX5_init _ _ _ 5 208 46 [some (.ref h0), none] [.ref q5, .ref h0] [(h0, .inr (5, [.int (nI 4), .int 0, .ref q1, .ref q2, .ref q3, .ref q4, .null, .null, .int 0, .int 0, .null, .null, .null, .null, .null, .int 0, .null, .null, .null])), (q1, .inl (cI, 8, .inl (fun _ => 0))), (q2, .inl (cI, 8, .inl (fun _ => 0))), (q3, .inl (cI, 64, .inl (fun _ => 0))), (q4, .inl (cI, 64, .inl (fun _ => 0))), (q5, .inl (cI, 64, .inl (fun _ => 0)))]
  refine cw_putF (q0 := 0) (ty := .array .int) dX5_init_46 ⟨RX5, TX5, 19, tyX5, rfl, by decide, by decide +kernel, lay5, rfl, rfl, by decide +kernel, tyX5_ok, nmX5⟩ rfl rfl rfl rfl (by decide) ?_
  show CW jX5_init _ _ _ 5 208 49 [some (.ref h0), none] [] [(h0, .inr (5, [.int (nI 4), .int 0, .ref q1, .ref q2, .ref q3, .ref q4, .ref q5, .null, .int 0, .int 0, .null, .null, .null, .null, .null, .int 0, .null, .null, .null])), (q1, .inl (cI, 8, .inl (fun _ => 0))), (q2, .inl (cI, 8, .inl (fun _ => 0))), (q3, .inl (cI, 64, .inl (fun _ => 0))), (q4, .inl (cI, 64, .inl (fun _ => 0))), (q5, .inl (cI, 64, .inl (fun _ => 0)))]
  refine cw_aload_n dX5_init_49 rfl ?_
  refine cw_bipush (v := nI 24) dX5_init_50 (by decide) ?_
  refine cw_newI dX5_init_52 (by decide) (by decide) (by decide) (fun q6 => ?_)
  show CW jX5_init _ _ _ 6 232 54 [some (.ref h0), none] [.ref q6, .ref h0] [(h0, .inr (5, [.int (nI 4), .int 0, .ref q1, .ref q2, .ref q3, .ref q4, .ref q5, .null, .int 0, .int 0, .null, .null, .null, .null, .null, .int 0, .null, .null, .null])), (q1, .inl (cI, 8, .inl (fun _ => 0))), (q2, .inl (cI, 8, .inl (fun _ => 0))), (q3, .inl (cI, 64, .inl (fun _ => 0))), (q4, .inl (cI, 64, .inl (fun _ => 0))), (q5, .inl (cI, 64, .inl (fun _ => 0))), (q6, .inl (cI, 24, .inl (fun _ => 0)))]
  refine cw_putF (q0 := 0) (ty := .array .int) dX5_init_54 ⟨RX5, TX5, 19, tyX5, rfl, by decide, by decide +kernel, lay5, rfl, rfl, by decide +kernel, tyX5_ok, nmX5⟩ rfl rfl rfl rfl (by decide) ?_
  show CW jX5_init _ _ _ 6 232 57 [some (.ref h0), none] [] [(h0, .inr (5, [.int (nI 4), .int 0, .ref q1, .ref q2, .ref q3, .ref q4, .ref q5, .ref q6, .int 0, .int 0, .null, .null, .null, .null, .null, .int 0, .null, .null, .null])), (q1, .inl (cI, 8, .inl (fun _ => 0))), (q2, .inl (cI, 8, .inl (fun _ => 0))), (q3, .inl (cI, 64, .inl (fun _ => 0))), (q4, .inl (cI, 64, .inl (fun _ => 0))), (q5, .inl (cI, 64, .inl (fun _ => 0))), (q6, .inl (cI, 24, .inl (fun _ => 0)))]
  refine cw_aload_n dX5_init_57 rfl ?_
  refine cw_bipush (v := nI 12) dX5_init_58 (by decide) ?_
  refine cw_newI dX5_init_60 (by decide) (by decide) (by decide) (fun q7 => ?_)
  show CW jX5_init _ _ _ 7 244 62 [some (.ref h0), none] [.ref q7, .ref h0] [(h0, .inr (5, [.int (nI 4), .int 0, .ref q1, .ref q2, .ref q3, .ref q4, .ref q5, .ref q6, .int 0, .int 0, .null, .null, .null, .null, .null, .int 0, .null, .null, .null])), (q1, .inl (cI, 8, .inl (fun _ => 0))), (q2, .inl (cI, 8, .inl (fun _ => 0))), (q3, .inl (cI, 64, .inl (fun _ => 0))), (q4, .inl (cI, 64, .inl (fun _ => 0))), (q5, .inl (cI, 64, .inl (fun _ => 0))), (q6, .inl (cI, 24, .inl (fun _ => 0))), (q7, .inl (cI, 12, .inl (fun _ => 0)))]
  refine cw_putF (q0 := 0) (ty := .array .int) dX5_init_62 ⟨RX5, TX5, 19, tyX5, rfl, by decide, by decide +kernel, lay5, rfl, rfl, by decide +kernel, tyX5_ok, nmX5⟩ rfl rfl rfl rfl (by decide) ?_
  show CW jX5_init _ _ _ 7 244 65 [some (.ref h0), none] [] [(h0, .inr (5, [.int (nI 4), .int 0, .ref q1, .ref q2, .ref q3, .ref q4, .ref q5, .ref q6, .int 0, .int 0, .ref q7, .null, .null, .null, .null, .int 0, .null, .null, .null])), (q1, .inl (cI, 8, .inl (fun _ => 0))), (q2, .inl (cI, 8, .inl (fun _ => 0))), (q3, .inl (cI, 64, .inl (fun _ => 0))), (q4, .inl (cI, 64, .inl (fun _ => 0))), (q5, .inl (cI, 64, .inl (fun _ => 0))), (q6, .inl (cI, 24, .inl (fun _ => 0))), (q7, .inl (cI, 12, .inl (fun _ => 0)))]
  refine cw_aload_n dX5_init_65 rfl ?_
  refine cw_bipush (v := nI 12) dX5_init_66 (by decide) ?_
  refine cw_newI dX5_init_68 (by decide) (by decide) (by decide) (fun q8 => ?_)
  show CW jX5_init _ _ _ 8 256 70 [some (.ref h0), none] [.ref q8, .ref h0] [(h0, .inr (5, [.int (nI 4), .int 0, .ref q1, .ref q2, .ref q3, .ref q4, .ref q5, .ref q6, .int 0, .int 0, .ref q7, .null, .null, .null, .null, .int 0, .null, .null, .null])), (q1, .inl (cI, 8, .inl (fun _ => 0))), (q2, .inl (cI, 8, .inl (fun _ => 0))), (q3, .inl (cI, 64, .inl (fun _ => 0))), (q4, .inl (cI, 64, .inl (fun _ => 0))), (q5, .inl (cI, 64, .inl (fun _ => 0))), (q6, .inl (cI, 24, .inl (fun _ => 0))), (q7, .inl (cI, 12, .inl (fun _ => 0))), (q8, .inl (cI, 12, .inl (fun _ => 0)))]
  refine cw_putF (q0 := 0) (ty := .array .int) dX5_init_70 ⟨RX5, TX5, 19, tyX5, rfl, by decide, by decide +kernel, lay5, rfl, rfl, by decide +kernel, tyX5_ok, nmX5⟩ rfl rfl rfl rfl (by decide) ?_
  show CW jX5_init _ _ _ 8 256 73 [some (.ref h0), none] [] [(h0, .inr (5, [.int (nI 4), .int 0, .ref q1, .ref q2, .ref q3, .ref q4, .ref q5, .ref q6, .int 0, .int 0, .ref q7, .ref q8, .null, .null, .null, .int 0, .null, .null, .null])), (q1, .inl (cI, 8, .inl (fun _ => 0))), (q2, .inl (cI, 8, .inl (fun _ => 0))), (q3, .inl (cI, 64, .inl (fun _ => 0))), (q4, .inl (cI, 64, .inl (fun _ => 0))), (q5, .inl (cI, 64, .inl (fun _ => 0))), (q6, .inl (cI, 24, .inl (fun _ => 0))), (q7, .inl (cI, 12, .inl (fun _ => 0))), (q8, .inl (cI, 12, .inl (fun _ => 0)))]
  refine cw_aload_n dX5_init_73 rfl ?_
  refine cw_bipush (v := nI 12) dX5_init_74 (by decide) ?_
  refine cw_newI dX5_init_76 (by decide) (by decide) (by decide) (fun q9 => ?_)
  show CW jX5_init _ _ _ 9 268 78 [some (.ref h0), none] [.ref q9, .ref h0] [(h0, .inr (5, [.int (nI 4), .int 0, .ref q1, .ref q2, .ref q3, .ref q4, .ref q5, .ref q6, .int 0, .int 0, .ref q7, .ref q8, .null, .null, .null, .int 0, .null, .null, .null])), (q1, .inl (cI, 8, .inl (fun _ => 0))), (q2, .inl (cI, 8, .inl (fun _ => 0))), (q3, .inl (cI, 64, .inl (fun _ => 0))), (q4, .inl (cI, 64, .inl (fun _ => 0))), (q5, .inl (cI, 64, .inl (fun _ => 0))), (q6, .inl (cI, 24, .inl (fun _ => 0))), (q7, .inl (cI, 12, .inl (fun _ => 0))), (q8, .inl (cI, 12, .inl (fun _ => 0))), (q9, .inl (cI, 12, .inl (fun _ => 0)))]
  refine cw_putF (q0 := 0) (ty := .array .int) dX5_init_78 ⟨RX5, TX5, 19, tyX5, rfl, by decide, by decide +kernel, lay5, rfl, rfl, by decide +kernel, tyX5_ok, nmX5⟩ rfl rfl rfl rfl (by decide) ?_
  show CW jX5_init _ _ _ 9 268 81 [some (.ref h0), none] [] [(h0, .inr (5, [.int (nI 4), .int 0, .ref q1, .ref q2, .ref q3, .ref q4, .ref q5, .ref q6, .int 0, .int 0, .ref q7, .ref q8, .ref q9, .null, .null, .int 0, .null, .null, .null])), (q1, .inl (cI, 8, .inl (fun _ => 0))), (q2, .inl (cI, 8, .inl (fun _ => 0))), (q3, .inl (cI, 64, .inl (fun _ => 0))), (q4, .inl (cI, 64, .inl (fun _ => 0))), (q5, .inl (cI, 64, .inl (fun _ => 0))), (q6, .inl (cI, 24, .inl (fun _ => 0))), (q7, .inl (cI, 12, .inl (fun _ => 0))), (q8, .inl (cI, 12, .inl (fun _ => 0))), (q9, .inl (cI, 12, .inl (fun _ => 0)))]
  refine cw_aload_n dX5_init_81 rfl ?_
  refine cw_bipush (v := nI 12) dX5_init_82 (by decide) ?_
  refine cw_newI dX5_init_84 (by decide) (by decide) (by decide) (fun q10 => ?_)
  show CW jX5_init _ _ _ 10 280 86 [some (.ref h0), none] [.ref q10, .ref h0] [(h0, .inr (5, [.int (nI 4), .int 0, .ref q1, .ref q2, .ref q3, .ref q4, .ref q5, .ref q6, .int 0, .int 0, .ref q7, .ref q8, .ref q9, .null, .null, .int 0, .null, .null, .null])), (q1, .inl (cI, 8, .inl (fun _ => 0))), (q2, .inl (cI, 8, .inl (fun _ => 0))), (q3, .inl (cI, 64, .inl (fun _ => 0))), (q4, .inl (cI, 64, .inl (fun _ => 0))), (q5, .inl (cI, 64, .inl (fun _ => 0))), (q6, .inl (cI, 24, .inl (fun _ => 0))), (q7, .inl (cI, 12, .inl (fun _ => 0))), (q8, .inl (cI, 12, .inl (fun _ => 0))), (q9, .inl (cI, 12, .inl (fun _ => 0))), (q10, .inl (cI, 12, .inl (fun _ => 0)))]
  refine cw_putF (q0 := 0) (ty := .array .int) dX5_init_86 ⟨RX5, TX5, 19, tyX5, rfl, by decide, by decide +kernel, lay5, rfl, rfl, by decide +kernel, tyX5_ok, nmX5⟩ rfl rfl rfl rfl (by decide) ?_
  show CW jX5_init _ _ _ 10 280 89 [some (.ref h0), none] [] [(h0, .inr (5, [.int (nI 4), .int 0, .ref q1, .ref q2, .ref q3, .ref q4, .ref q5, .ref q6, .int 0, .int 0, .ref q7, .ref q8, .ref q9, .ref q10, .null, .int 0, .null, .null, .null])), (q1, .inl (cI, 8, .inl (fun _ => 0))), (q2, .inl (cI, 8, .inl (fun _ => 0))), (q3, .inl (cI, 64, .inl (fun _ => 0))), (q4, .inl (cI, 64, .inl (fun _ => 0))), (q5, .inl (cI, 64, .inl (fun _ => 0))), (q6, .inl (cI, 24, .inl (fun _ => 0))), (q7, .inl (cI, 12, .inl (fun _ => 0))), (q8, .inl (cI, 12, .inl (fun _ => 0))), (q9, .inl (cI, 12, .inl (fun _ => 0))), (q10, .inl (cI, 12, .inl (fun _ => 0)))]
  refine cw_aload_n dX5_init_89 rfl ?_
  refine cw_sipush (v := nI 220) dX5_init_90 (by decide) ?_
  refine cw_newI dX5_init_93 (by decide) (by decide) (by decide) (fun q11 => ?_)
  show CW jX5_init _ _ _ 11 500 95 [some (.ref h0), none] [.ref q11, .ref h0] [(h0, .inr (5, [.int (nI 4), .int 0, .ref q1, .ref q2, .ref q3, .ref q4, .ref q5, .ref q6, .int 0, .int 0, .ref q7, .ref q8, .ref q9, .ref q10, .null, .int 0, .null, .null, .null])), (q1, .inl (cI, 8, .inl (fun _ => 0))), (q2, .inl (cI, 8, .inl (fun _ => 0))), (q3, .inl (cI, 64, .inl (fun _ => 0))), (q4, .inl (cI, 64, .inl (fun _ => 0))), (q5, .inl (cI, 64, .inl (fun _ => 0))), (q6, .inl (cI, 24, .inl (fun _ => 0))), (q7, .inl (cI, 12, .inl (fun _ => 0))), (q8, .inl (cI, 12, .inl (fun _ => 0))), (q9, .inl (cI, 12, .inl (fun _ => 0))), (q10, .inl (cI, 12, .inl (fun _ => 0))), (q11, .inl (cI, 220, .inl (fun _ => 0)))]
  refine cw_putF (q0 := 0) (ty := .array .int) dX5_init_95 ⟨RX5, TX5, 19, tyX5, rfl, by decide, by decide +kernel, lay5, rfl, rfl, by decide +kernel, tyX5_ok, nmX5⟩ rfl rfl rfl rfl (by decide) ?_
  show CW jX5_init _ _ _ 11 500 98 [some (.ref h0), none] [] [(h0, .inr (5, [.int (nI 4), .int 0, .ref q1, .ref q2, .ref q3, .ref q4, .ref q5, .ref q6, .int 0, .int 0, .ref q7, .ref q8, .ref q9, .ref q10, .ref q11, .int 0, .null, .null, .null])), (q1, .inl (cI, 8, .inl (fun _ => 0))), (q2, .inl (cI, 8, .inl (fun _ => 0))), (q3, .inl (cI, 64, .inl (fun _ => 0))), (q4, .inl (cI, 64, .inl (fun _ => 0))), (q5, .inl (cI, 64, .inl (fun _ => 0))), (q6, .inl (cI, 24, .inl (fun _ => 0))), (q7, .inl (cI, 12, .inl (fun _ => 0))), (q8, .inl (cI, 12, .inl (fun _ => 0))), (q9, .inl (cI, 12, .inl (fun _ => 0))), (q10, .inl (cI, 12, .inl (fun _ => 0))), (q11, .inl (cI, 220, .inl (fun _ => 0)))]
  refine cw_aload_n dX5_init_98 rfl ?_
  refine cw_iconst (v := nI 4) dX5_init_99 (by decide) ?_
  refine cw_newI dX5_init_100 (by decide) (by decide) (by decide) (fun q12 => ?_)
  show CW jX5_init _ _ _ 12 504 102 [some (.ref h0), none] [.ref q12, .ref h0] [(h0, .inr (5, [.int (nI 4), .int 0, .ref q1, .ref q2, .ref q3, .ref q4, .ref q5, .ref q6, .int 0, .int 0, .ref q7, .ref q8, .ref q9, .ref q10, .ref q11, .int 0, .null, .null, .null])), (q1, .inl (cI, 8, .inl (fun _ => 0))), (q2, .inl (cI, 8, .inl (fun _ => 0))), (q3, .inl (cI, 64, .inl (fun _ => 0))), (q4, .inl (cI, 64, .inl (fun _ => 0))), (q5, .inl (cI, 64, .inl (fun _ => 0))), (q6, .inl (cI, 24, .inl (fun _ => 0))), (q7, .inl (cI, 12, .inl (fun _ => 0))), (q8, .inl (cI, 12, .inl (fun _ => 0))), (q9, .inl (cI, 12, .inl (fun _ => 0))), (q10, .inl (cI, 12, .inl (fun _ => 0))), (q11, .inl (cI, 220, .inl (fun _ => 0))), (q12, .inl (cI, 4, .inl (fun _ => 0)))]
  refine cw_putF (q0 := 0) (ty := .array .int) dX5_init_102 ⟨RX5, TX5, 19, tyX5, rfl, by decide, by decide +kernel, lay5, rfl, rfl, by decide +kernel, tyX5_ok, nmX5⟩ rfl rfl rfl rfl (by decide) ?_
  show CW jX5_init _ _ _ 12 504 105 [some (.ref h0), none] [] [(h0, .inr (5, [.int (nI 4), .int 0, .ref q1, .ref q2, .ref q3, .ref q4, .ref q5, .ref q6, .int 0, .int 0, .ref q7, .ref q8, .ref q9, .ref q10, .ref q11, .int 0, .ref q12, .null, .null])), (q1, .inl (cI, 8, .inl (fun _ => 0))), (q2, .inl (cI, 8, .inl (fun _ => 0))), (q3, .inl (cI, 64, .inl (fun _ => 0))), (q4, .inl (cI, 64, .inl (fun _ => 0))), (q5, .inl (cI, 64, .inl (fun _ => 0))), (q6, .inl (cI, 24, .inl (fun _ => 0))), (q7, .inl (cI, 12, .inl (fun _ => 0))), (q8, .inl (cI, 12, .inl (fun _ => 0))), (q9, .inl (cI, 12, .inl (fun _ => 0))), (q10, .inl (cI, 12, .inl (fun _ => 0))), (q11, .inl (cI, 220, .inl (fun _ => 0))), (q12, .inl (cI, 4, .inl (fun _ => 0)))]
  refine cw_aload_n dX5_init_105 rfl ?_
  refine cw_iconst (v := nI 4) dX5_init_106 (by decide) ?_
  refine cw_newI dX5_init_107 (by decide) (by decide) (by decide) (fun q13 => ?_)
  show CW jX5_init _ _ _ 13 508 109 [some (.ref h0), none] [.ref q13, .ref h0] [(h0, .inr (5, [.int (nI 4), .int 0, .ref q1, .ref q2, .ref q3, .ref q4, .ref q5, .ref q6, .int 0, .int 0, .ref q7, .ref q8, .ref q9, .ref q10, .ref q11, .int 0, .ref q12, .null, .null])), (q1, .inl (cI, 8, .inl (fun _ => 0))), (q2, .inl (cI, 8, .inl (fun _ => 0))), (q3, .inl (cI, 64, .inl (fun _ => 0))), (q4, .inl (cI, 64, .inl (fun _ => 0))), (q5, .inl (cI, 64, .inl (fun _ => 0))), (q6, .inl (cI, 24, .inl (fun _ => 0))), (q7, .inl (cI, 12, .inl (fun _ => 0))), (q8, .inl (cI, 12, .inl (fun _ => 0))), (q9, .inl (cI, 12, .inl (fun _ => 0))), (q10, .inl (cI, 12, .inl (fun _ => 0))), (q11, .inl (cI, 220, .inl (fun _ => 0))), (q12, .inl (cI, 4, .inl (fun _ => 0))), (q13, .inl (cI, 4, .inl (fun _ => 0)))]
  refine cw_putF (q0 := 0) (ty := .array .int) dX5_init_109 ⟨RX5, TX5, 19, tyX5, rfl, by decide, by decide +kernel, lay5, rfl, rfl, by decide +kernel, tyX5_ok, nmX5⟩ rfl rfl rfl rfl (by decide) ?_
  show CW jX5_init _ _ _ 13 508 112 [some (.ref h0), none] [] [(h0, .inr (5, [.int (nI 4), .int 0, .ref q1, .ref q2, .ref q3, .ref q4, .ref q5, .ref q6, .int 0, .int 0, .ref q7, .ref q8, .ref q9, .ref q10, .ref q11, .int 0, .ref q12, .ref q13, .null])), (q1, .inl (cI, 8, .inl (fun _ => 0))), (q2, .inl (cI, 8, .inl (fun _ => 0))), (q3, .inl (cI, 64, .inl (fun _ => 0))), (q4, .inl (cI, 64, .inl (fun _ => 0))), (q5, .inl (cI, 64, .inl (fun _ => 0))), (q6, .inl (cI, 24, .inl (fun _ => 0))), (q7, .inl (cI, 12, .inl (fun _ => 0))), (q8, .inl (cI, 12, .inl (fun _ => 0))), (q9, .inl (cI, 12, .inl (fun _ => 0))), (q10, .inl (cI, 12, .inl (fun _ => 0))), (q11, .inl (cI, 220, .inl (fun _ => 0))), (q12, .inl (cI, 4, .inl (fun _ => 0))), (q13, .inl (cI, 4, .inl (fun _ => 0)))]
  refine cw_aload_n dX5_init_112 rfl ?_
  refine cw_sipush (v := nI 256) dX5_init_113 (by decide) ?_
  refine cw_newI dX5_init_116 (by decide) (by decide) (by decide) (fun q14 => ?_)
  show CW jX5_init _ _ _ 14 764 118 [some (.ref h0), none] [.ref q14, .ref h0] [(h0, .inr (5, [.int (nI 4), .int 0, .ref q1, .ref q2, .ref q3, .ref q4, .ref q5, .ref q6, .int 0, .int 0, .ref q7, .ref q8, .ref q9, .ref q10, .ref q11, .int 0, .ref q12, .ref q13, .null])), (q1, .inl (cI, 8, .inl (fun _ => 0))), (q2, .inl (cI, 8, .inl (fun _ => 0))), (q3, .inl (cI, 64, .inl (fun _ => 0))), (q4, .inl (cI, 64, .inl (fun _ => 0))), (q5, .inl (cI, 64, .inl (fun _ => 0))), (q6, .inl (cI, 24, .inl (fun _ => 0))), (q7, .inl (cI, 12, .inl (fun _ => 0))), (q8, .inl (cI, 12, .inl (fun _ => 0))), (q9, .inl (cI, 12, .inl (fun _ => 0))), (q10, .inl (cI, 12, .inl (fun _ => 0))), (q11, .inl (cI, 220, .inl (fun _ => 0))), (q12, .inl (cI, 4, .inl (fun _ => 0))), (q13, .inl (cI, 4, .inl (fun _ => 0))), (q14, .inl (cI, 256, .inl (fun _ => 0)))]
  refine cw_putF (q0 := 0) (ty := .array .int) dX5_init_118 ⟨RX5, TX5, 19, tyX5, rfl, by decide, by decide +kernel, lay5, rfl, rfl, by decide +kernel, tyX5_ok, nmX5⟩ rfl rfl rfl rfl (by decide) ?_
  show CW jX5_init _ _ _ 14 764 121 [some (.ref h0), none] [] [(h0, .inr (5, [.int (nI 4), .int 0, .ref q1, .ref q2, .ref q3, .ref q4, .ref q5, .ref q6, .int 0, .int 0, .ref q7, .ref q8, .ref q9, .ref q10, .ref q11, .int 0, .ref q12, .ref q13, .ref q14])), (q1, .inl (cI, 8, .inl (fun _ => 0))), (q2, .inl (cI, 8, .inl (fun _ => 0))), (q3, .inl (cI, 64, .inl (fun _ => 0))), (q4, .inl (cI, 64, .inl (fun _ => 0))), (q5, .inl (cI, 64, .inl (fun _ => 0))), (q6, .inl (cI, 24, .inl (fun _ => 0))), (q7, .inl (cI, 12, .inl (fun _ => 0))), (q8, .inl (cI, 12, .inl (fun _ => 0))), (q9, .inl (cI, 12, .inl (fun _ => 0))), (q10, .inl (cI, 12, .inl (fun _ => 0))), (q11, .inl (cI, 220, .inl (fun _ => 0))), (q12, .inl (cI, 4, .inl (fun _ => 0))), (q13, .inl (cI, 4, .inl (fun _ => 0))), (q14, .inl (cI, 256, .inl (fun _ => 0)))]
  refine cw_iconst (v := nI 0) dX5_init_121 (by decide) ?_
  refine cw_istore_n dX5_init_122 (by decide) rfl ?_
  refine cw_iload_n dX5_init_123 rfl ?_
  refine cw_iconst (v := nI 4) dX5_init_124 (by decide) ?_
  refine cw_icmp_ge (tgt := 142) dX5_init_125 (by decide) (fun hc => absurd hc (by decide)) (fun _ => ?_)
  refine cw_aload_n dX5_init_128 rfl ?_
  refine cw_get (q0 := 0) dX5_init_129 flX5_47 rfl rfl ?_
  refine cw_iload_n dX5_init_132 rfl ?_
  refine cw_bipush (v := (-4)) dX5_init_133 (by decide) ?_
  refine cw_iast (q0 := 12) dX5_init_135 rfl (by decide) (by decide) ?_
  show CW jX5_init _ _ _ 14 764 136 [some (.ref h0), some (.int (nI 0))] [] [(h0, .inr (5, [.int (nI 4), .int 0, .ref q1, .ref q2, .ref q3, .ref q4, .ref q5, .ref q6, .int 0, .int 0, .ref q7, .ref q8, .ref q9, .ref q10, .ref q11, .int 0, .ref q12, .ref q13, .ref q14])), (q1, .inl (cI, 8, .inl (fun _ => 0))), (q2, .inl (cI, 8, .inl (fun _ => 0))), (q3, .inl (cI, 64, .inl (fun _ => 0))), (q4, .inl (cI, 64, .inl (fun _ => 0))), (q5, .inl (cI, 64, .inl (fun _ => 0))), (q6, .inl (cI, 24, .inl (fun _ => 0))), (q7, .inl (cI, 12, .inl (fun _ => 0))), (q8, .inl (cI, 12, .inl (fun _ => 0))), (q9, .inl (cI, 12, .inl (fun _ => 0))), (q10, .inl (cI, 12, .inl (fun _ => 0))), (q11, .inl (cI, 220, .inl (fun _ => 0))), (q12, .inl (cI, 4, .inl (upd (fun _ => 0) 0 ((-4))))), (q13, .inl (cI, 4, .inl (fun _ => 0))), (q14, .inl (cI, 256, .inl (fun _ => 0)))]
  refine cw_iinc (v := nI 1) dX5_init_136 rfl (by decide) (by decide) rfl ?_
  refine cw_goto (tgt := 123) dX5_init_139 (by decide) ?_
  refine cw_iload_n dX5_init_123 rfl ?_
  refine cw_iconst (v := nI 4) dX5_init_124 (by decide) ?_
  refine cw_icmp_ge (tgt := 142) dX5_init_125 (by decide) (fun hc => absurd hc (by decide)) (fun _ => ?_)
  refine cw_aload_n dX5_init_128 rfl ?_
  refine cw_get (q0 := 0) dX5_init_129 flX5_47 rfl rfl ?_
  refine cw_iload_n dX5_init_132 rfl ?_
  refine cw_bipush (v := (-4)) dX5_init_133 (by decide) ?_
  refine cw_iast (q0 := 12) dX5_init_135 rfl (by decide) (by decide) ?_
  show CW jX5_init _ _ _ 14 764 136 [some (.ref h0), some (.int (nI 1))] [] [(h0, .inr (5, [.int (nI 4), .int 0, .ref q1, .ref q2, .ref q3, .ref q4, .ref q5, .ref q6, .int 0, .int 0, .ref q7, .ref q8, .ref q9, .ref q10, .ref q11, .int 0, .ref q12, .ref q13, .ref q14])), (q1, .inl (cI, 8, .inl (fun _ => 0))), (q2, .inl (cI, 8, .inl (fun _ => 0))), (q3, .inl (cI, 64, .inl (fun _ => 0))), (q4, .inl (cI, 64, .inl (fun _ => 0))), (q5, .inl (cI, 64, .inl (fun _ => 0))), (q6, .inl (cI, 24, .inl (fun _ => 0))), (q7, .inl (cI, 12, .inl (fun _ => 0))), (q8, .inl (cI, 12, .inl (fun _ => 0))), (q9, .inl (cI, 12, .inl (fun _ => 0))), (q10, .inl (cI, 12, .inl (fun _ => 0))), (q11, .inl (cI, 220, .inl (fun _ => 0))), (q12, .inl (cI, 4, .inl (upd (upd (fun _ => 0) 0 ((-4))) 1 ((-4))))), (q13, .inl (cI, 4, .inl (fun _ => 0))), (q14, .inl (cI, 256, .inl (fun _ => 0)))]
  refine cw_iinc (v := nI 2) dX5_init_136 rfl (by decide) (by decide) rfl ?_
  refine cw_goto (tgt := 123) dX5_init_139 (by decide) ?_
  refine cw_iload_n dX5_init_123 rfl ?_
  refine cw_iconst (v := nI 4) dX5_init_124 (by decide) ?_
  refine cw_icmp_ge (tgt := 142) dX5_init_125 (by decide) (fun hc => absurd hc (by decide)) (fun _ => ?_)
  refine cw_aload_n dX5_init_128 rfl ?_
  refine cw_get (q0 := 0) dX5_init_129 flX5_47 rfl rfl ?_
  refine cw_iload_n dX5_init_132 rfl ?_
  refine cw_bipush (v := (-4)) dX5_init_133 (by decide) ?_
  refine cw_iast (q0 := 12) dX5_init_135 rfl (by decide) (by decide) ?_
  show CW jX5_init _ _ _ 14 764 136 [some (.ref h0), some (.int (nI 2))] [] [(h0, .inr (5, [.int (nI 4), .int 0, .ref q1, .ref q2, .ref q3, .ref q4, .ref q5, .ref q6, .int 0, .int 0, .ref q7, .ref q8, .ref q9, .ref q10, .ref q11, .int 0, .ref q12, .ref q13, .ref q14])), (q1, .inl (cI, 8, .inl (fun _ => 0))), (q2, .inl (cI, 8, .inl (fun _ => 0))), (q3, .inl (cI, 64, .inl (fun _ => 0))), (q4, .inl (cI, 64, .inl (fun _ => 0))), (q5, .inl (cI, 64, .inl (fun _ => 0))), (q6, .inl (cI, 24, .inl (fun _ => 0))), (q7, .inl (cI, 12, .inl (fun _ => 0))), (q8, .inl (cI, 12, .inl (fun _ => 0))), (q9, .inl (cI, 12, .inl (fun _ => 0))), (q10, .inl (cI, 12, .inl (fun _ => 0))), (q11, .inl (cI, 220, .inl (fun _ => 0))), (q12, .inl (cI, 4, .inl (upd (upd (upd (fun _ => 0) 0 ((-4))) 1 ((-4))) 2 ((-4))))), (q13, .inl (cI, 4, .inl (fun _ => 0))), (q14, .inl (cI, 256, .inl (fun _ => 0)))]
  refine cw_iinc (v := nI 3) dX5_init_136 rfl (by decide) (by decide) rfl ?_
  refine cw_goto (tgt := 123) dX5_init_139 (by decide) ?_
  refine cw_iload_n dX5_init_123 rfl ?_
  refine cw_iconst (v := nI 4) dX5_init_124 (by decide) ?_
  refine cw_icmp_ge (tgt := 142) dX5_init_125 (by decide) (fun hc => absurd hc (by decide)) (fun _ => ?_)
  refine cw_aload_n dX5_init_128 rfl ?_
  refine cw_get (q0 := 0) dX5_init_129 flX5_47 rfl rfl ?_
  refine cw_iload_n dX5_init_132 rfl ?_
  refine cw_bipush (v := (-4)) dX5_init_133 (by decide) ?_
  refine cw_iast (q0 := 12) dX5_init_135 rfl (by decide) (by decide) ?_
  show CW jX5_init _ _ _ 14 764 136 [some (.ref h0), some (.int (nI 3))] [] [(h0, .inr (5, [.int (nI 4), .int 0, .ref q1, .ref q2, .ref q3, .ref q4, .ref q5, .ref q6, .int 0, .int 0, .ref q7, .ref q8, .ref q9, .ref q10, .ref q11, .int 0, .ref q12, .ref q13, .ref q14])), (q1, .inl (cI, 8, .inl (fun _ => 0))), (q2, .inl (cI, 8, .inl (fun _ => 0))), (q3, .inl (cI, 64, .inl (fun _ => 0))), (q4, .inl (cI, 64, .inl (fun _ => 0))), (q5, .inl (cI, 64, .inl (fun _ => 0))), (q6, .inl (cI, 24, .inl (fun _ => 0))), (q7, .inl (cI, 12, .inl (fun _ => 0))), (q8, .inl (cI, 12, .inl (fun _ => 0))), (q9, .inl (cI, 12, .inl (fun _ => 0))), (q10, .inl (cI, 12, .inl (fun _ => 0))), (q11, .inl (cI, 220, .inl (fun _ => 0))), (q12, .inl (cI, 4, .inl (upd (upd (upd (upd (fun _ => 0) 0 ((-4))) 1 ((-4))) 2 ((-4))) 3 ((-4))))), (q13, .inl (cI, 4, .inl (fun _ => 0))), (q14, .inl (cI, 256, .inl (fun _ => 0)))]
  refine cw_iinc (v := nI 4) dX5_init_136 rfl (by decide) (by decide) rfl ?_
  refine cw_goto (tgt := 123) dX5_init_139 (by decide) ?_
  refine cw_iload_n dX5_init_123 rfl ?_
  refine cw_iconst (v := nI 4) dX5_init_124 (by decide) ?_
  refine cw_icmp_ge (tgt := 142) dX5_init_125 (by decide) (fun _ => ?_) (fun hc => absurd (by decide) hc)
  exact cw_vret (fun k => [0, 0, 0, 0, 0, 0, 0, 0, 0, 0, 0, 0, 0, 0, 0, 0, 0, 0, 0, 0, 0, 0, 0, 0, 0, 0, 0, 0, 0, q1, q2, q3, q4, q5, q6, q7, q8, q9, q10, q11, q12, q13, q14].getD k 0) dX5_init_142 rfl rfl rfl rfl
