/-! calls: ray, cut, square -/
abbrev okR (x y w : Int32) : Prop := rg (-5) 5 x = true ∧ rg (-5) 5 y = true ∧ rg (-5) 5 w = true ∧ ¬ (x = 0 ∧ y = 0 ∧ w = 0)
theorem i0_nI : ∀ {x : Int32}, x = nI 0 ↔ x = 0 := by
  intro x
  exact Iff.rfl
theorem parM {X Y Z : Nat → Int32} {x y w : Int32} {i : Nat} : (x * Y i = y * X i ∧ y * Z i = w * Y i ∧ x * Z i = w * X i) ↔ parB X Y Z x y w i = true := by
  unfold parB
  rw [decide_eq_true_iff, Int32.mul_comm x (Y i), Int32.mul_comm y (X i), Int32.mul_comm y (Z i), Int32.mul_comm w (Y i), Int32.mul_comm x (Z i), Int32.mul_comm w (X i)]
  constructor
  · intro q; exact ⟨q.1.symm, q.2.2.symm, q.2.1.symm⟩
  · intro q; exact ⟨q.1.symm, q.2.2.symm, q.2.1.symm⟩
section OPS
variable {h : Hp} {r : Nat} {Q : Option Value → Hp → Prop}
theorem x_ray (V : RV h r) {x y w : Int32} (k1 : ¬ okR x y w → Q (some (.int (-1))) h) (k2 : okR x y w → allB (fun i => !parB (h 14) (h 15) (h 16) x y w i) r = false → Q (some (.int (-2))) h) (k3 : okR x y w → allB (fun i => !parB (h 14) (h 15) (h 16) x y w i) r = true → ¬ r < 12 → Q (some (.int (-3))) h) (k4 : okR x y w → allB (fun i => !parB (h 14) (h 15) (h 16) x y w i) r = true → r < 12 → ∀ g : Hp, (∀ k, k ≠ 13 → k ≠ 14 → k ≠ 15 → k ≠ 16 → k ≠ 17 → g k = h k) → g 14 = upd (h 14) r x → g 15 = upd (h 15) r y → g 16 = upd (h 16) r w → RV g (r + 1) → g 13 6 = nI 0 → Q (some (.int (nI r))) g) : Ctr jX4_ray [.ref 0, .int x, .int y, .int w] h Q := by
  have hr := V.1
  refine ctr_start (by decide) (Nat.le_of_ble_eq_true rfl) rfl rfl ?_
  show SW jX4_ray E0 _ 0 [some (.ref 0), some (.int x), some (.int y), some (.int w)] [] _
  have bad : ¬ okR x y w → SW jX4_ray E0 (Zm Q) 33 [some (.ref 0), some (.int x), some (.int y), some (.int w)] [] h := fun q => by
    refine sw_iconst (v := (-1)) dX4_ray_33 (by decide) ?_
    refine sw_iret dX4_ray_34 rfl rfl rfl ?_
    exact k1 q
  have good : okR x y w → SW jX4_ray E0 (Zm Q) 35 [some (.ref 0), some (.int x), some (.int y), some (.int w)] [] h := fun q => by
    refine sw_aload_n dX4_ray_35 rfl ?_
    refine sw_getR dX4_ray_36 flX4_26 ⟨by decide, _, rfl, rfl⟩ ?_
    refine sw_iload_n dX4_ray_39 rfl ?_
    refine sw_iload_n dX4_ray_40 rfl ?_
    refine sw_iload_n dX4_ray_41 rfl ?_
    refine sw_cvi (i := 0) (c_hasMultipleOf hr V.2.1 x y w) dX4_ray_42 lkX4_159 (by decide) ⟨by decide, _, rfl, rfl⟩ rfl rfl rfl (Nat.le_of_ble_eq_true rfl) ?_
    refine sw_if_eq (tgt := 51) dX4_ray_45 (by decide) (fun hc => ?_) (fun hc => ?_)
    · have hno := bI_0 hc
      rw [Bool.not_eq_false'] at hno
      clear hc
      refine sw_aload_n dX4_ray_51 rfl ?_
      refine sw_getR dX4_ray_52 flX4_26 ⟨by decide, _, rfl, rfl⟩ ?_
      refine sw_getNI dX4_ray_55 fnX4_163 ⟨by decide, _, rfl, rfl⟩ ?_
      rw [V.2.1]
      refine sw_bipush (v := nI 12) dX4_ray_58 (by decide) ?_
      refine sw_icmpN_lt (tgt := 68) dX4_ray_60 (by decide) (by omega) (by omega) (fun hc => ?_) (fun hc => ?_)
      · refine sw_aload_n dX4_ray_68 rfl ?_
        refine sw_getR dX4_ray_69 flX4_26 ⟨by decide, _, rfl, rfl⟩ ?_
        refine sw_iload_n dX4_ray_72 rfl ?_
        refine sw_iload_n dX4_ray_73 rfl ?_
        refine sw_iload_n dX4_ray_74 rfl ?_
        have hr12 := hc
        clear hc
        refine sw_callV (i := 0) (c_add1 V hr12 x y w) dX4_ray_75 lkX4_164 (by decide) ⟨by decide, _, rfl, rfl⟩ rfl rfl rfl (Nat.le_of_ble_eq_true rfl) (fun v h1 hq => ?_)
        obtain ⟨rfl, q1, q2, q3, q4, q5, q6⟩ := hq
        refine sw_iret dX4_ray_78 rfl rfl rfl ?_
        exact k4 q hno hr12 h1 q1 q2 q3 q4 q5 q6
      · refine sw_bipush (v := (-3)) dX4_ray_63 (by decide) ?_
        refine sw_goto (tgt := 78) dX4_ray_65 (by decide) ?_
        refine sw_iret dX4_ray_78 rfl rfl rfl ?_
        exact k3 q hno (by omega)
    · have hyes := bI_1 hc
      rw [Bool.not_eq_true'] at hyes
      refine sw_bipush (v := (-2)) dX4_ray_48 (by decide) ?_
      refine sw_iret dX4_ray_50 rfl rfl rfl ?_
      exact k2 q hyes
  refine sw_iload_n dX4_ray_0 rfl ?_
  refine sw_csi (c_isRayNumber x) dX4_ray_1 lkX4_156 (by decide) rfl rfl (Nat.le_of_ble_eq_true rfl) ?_
  refine sw_if_eq (tgt := 33) dX4_ray_4 (by decide) (fun hc => ?_) (fun hc => ?_)
  · exact bad (fun q => absurd ((bI_0 hc).symm.trans q.1) (by decide))
  · have a1 := bI_1 hc
    clear hc
    refine sw_iload_n dX4_ray_7 rfl ?_
    refine sw_csi (c_isRayNumber y) dX4_ray_8 lkX4_156 (by decide) rfl rfl (Nat.le_of_ble_eq_true rfl) ?_
    refine sw_if_eq (tgt := 33) dX4_ray_11 (by decide) (fun hc => ?_) (fun hc => ?_)
    · exact bad (fun q => absurd ((bI_0 hc).symm.trans q.2.1) (by decide))
    · have a2 := bI_1 hc
      clear hc
      refine sw_iload_n dX4_ray_14 rfl ?_
      refine sw_csi (c_isRayNumber w) dX4_ray_15 lkX4_156 (by decide) rfl rfl (Nat.le_of_ble_eq_true rfl) ?_
      refine sw_if_eq (tgt := 33) dX4_ray_18 (by decide) (fun hc => ?_) (fun hc => ?_)
      · exact bad (fun q => absurd ((bI_0 hc).symm.trans q.2.2.1) (by decide))
      · have a3 := bI_1 hc
        clear hc
        refine sw_iload_n dX4_ray_21 rfl ?_
        refine sw_if_ne (tgt := 35) dX4_ray_22 (by decide) (fun hc => ?_) (fun hc => ?_)
        · exact good ⟨a1, a2, a3, fun q => hc q.1⟩
        · have b1 := hc
          clear hc
          refine sw_iload_n dX4_ray_25 rfl ?_
          refine sw_if_ne (tgt := 35) dX4_ray_26 (by decide) (fun hc => ?_) (fun hc => ?_)
          · exact good ⟨a1, a2, a3, fun q => hc q.2.1⟩
          · have b2 := hc
            clear hc
            refine sw_iload_n dX4_ray_29 rfl ?_
            refine sw_if_ne (tgt := 35) dX4_ray_30 (by decide) (fun hc => ?_) (fun hc => ?_)
            · exact good ⟨a1, a2, a3, fun q => hc q.2.2⟩
            · exact bad (fun q => q.2.2.2 ⟨b1, b2, hc⟩)
theorem m_ray (hr : r ≤ 12) (hz : h 28 9 = nI r) {x y w : Int32} (k1 : ¬ okR x y w → Q (some (.int (-1))) h) (k2 : okR x y w → allB (fun i => !parB (h 35) (h 36) (h 37) x y w i) r = false → Q (some (.int (-2))) h) (k3 : okR x y w → allB (fun i => !parB (h 35) (h 36) (h 37) x y w i) r = true → ¬ r < 12 → Q (some (.int (-3))) h) (k4 : okR x y w → allB (fun i => !parB (h 35) (h 36) (h 37) x y w i) r = true → r < 12 → Q (some (.int (nI r))) (hset (hset (hset (hset h 35 r x) 36 r y) 37 r w) 28 9 (nI (r + 1)))) : Ctr jX5_ray [.ref 28, .int x, .int y, .int w] h Q := by
  refine ctr_start (by decide) (Nat.le_of_ble_eq_true rfl) rfl rfl ?_
  show SW jX5_ray E0 _ 0 [some (.ref 28), some (.int x), some (.int y), some (.int w), none] [] _
  have bad : ¬ okR x y w → SW jX5_ray E0 (Zm Q) 54 [some (.ref 28), some (.int x), some (.int y), some (.int w), none] [] h := fun q => by
    refine sw_iconst (v := (-1)) dX5_ray_54 (by decide) ?_
    refine sw_iret dX5_ray_55 rfl rfl rfl ?_
    exact k1 q
  have good : okR x y w → SW jX5_ray E0 (Zm Q) 56 [some (.ref 28), some (.int x), some (.int y), some (.int w), none] [] h := fun q => by
    refine sw_iconst (v := nI 0) dX5_ray_56 (by decide) ?_
    refine sw_istore dX5_ray_57 (by decide) rfl ?_
    refine lp_up (n := r) (S := fun i => allB (fun i => !parB (h 35) (h 36) (h 37) x y w i) i = true → SW jX5_ray E0 (Zm Q) 59 [some (.ref 28), some (.int x), some (.int y), some (.int w), some (.int (nI i))] [] h) ?_ ?_ 0 (Nat.zero_le _) rfl
    · intro ha
      refine sw_iload dX5_ray_59 rfl ?_
      refine sw_aload_n dX5_ray_61 rfl ?_
      refine sw_getI dX5_ray_62 flX5_149 ⟨by decide, _, rfl, rfl⟩ ?_
      rw [hz]
      refine sw_icmpN_ge (tgt := 140) dX5_ray_65 (by decide) (by omega) (by omega) (fun hc => ?_) (fun hc => ?_)
      · clear hc
        refine sw_aload_n dX5_ray_140 rfl ?_
        refine sw_getI dX5_ray_141 flX5_149 ⟨by decide, _, rfl, rfl⟩ ?_
        rw [hz]
        refine sw_bipush (v := nI 12) dX5_ray_144 (by decide) ?_
        refine sw_icmpN_ne (tgt := 152) dX5_ray_146 (by decide) (by omega) (by omega) (fun hc => ?_) (fun hc => ?_)
        · have hr12 : r < 12 := by omega
          clear hc
          refine sw_aload_n dX5_ray_152 rfl ?_
          refine sw_getR dX5_ray_153 flX5_32 ⟨by decide, _, rfl, rfl⟩ ?_
          refine sw_aload_n dX5_ray_156 rfl ?_
          refine sw_getI dX5_ray_157 flX5_149 ⟨by decide, _, rfl, rfl⟩ ?_
          rw [hz]
          refine sw_iload_n dX5_ray_160 rfl ?_
          refine sw_iast dX5_ray_161 rfl (by simp only [plA]; omega) ?_
          refine sw_aload_n dX5_ray_162 rfl ?_
          refine sw_getR dX5_ray_163 flX5_35 ⟨by decide, _, rfl, rfl⟩ ?_
          refine sw_aload_n dX5_ray_166 rfl ?_
          refine sw_getI dX5_ray_167 flX5_149 ⟨by decide, _, rfl, rfl⟩ ?_
          rw [show hset h 35 r x 28 9 = nI r by rw [hset_k (by decide)]; exact hz]
          refine sw_iload_n dX5_ray_170 rfl ?_
          refine sw_iast dX5_ray_171 rfl (by simp only [plA]; omega) ?_
          refine sw_aload_n dX5_ray_172 rfl ?_
          refine sw_getR dX5_ray_173 flX5_38 ⟨by decide, _, rfl, rfl⟩ ?_
          refine sw_aload_n dX5_ray_176 rfl ?_
          refine sw_getI dX5_ray_177 flX5_149 ⟨by decide, _, rfl, rfl⟩ ?_
          rw [show hset (hset h 35 r x) 36 r y 28 9 = nI r by rw [hset_k (by decide), hset_k (by decide)]; exact hz]
          refine sw_iload_n dX5_ray_180 rfl ?_
          refine sw_iast dX5_ray_181 rfl (by simp only [plA]; omega) ?_
          refine sw_aload_n dX5_ray_182 rfl ?_
          refine sw_dup dX5_ray_183 rfl ?_
          refine sw_getI dX5_ray_184 flX5_149 ⟨by decide, _, rfl, rfl⟩ ?_
          rw [show hset (hset (hset h 35 r x) 36 r y) 37 r w 28 9 = nI r by rw [hset_k (by decide), hset_k (by decide), hset_k (by decide)]; exact hz]
          refine sw_iconst (v := nI 1) dX5_ray_187 (by decide) ?_
          first | refine sw_iaddN dX5_ray_188 ?_ | refine sw_iadd dX5_ray_188 ?_
          refine sw_put dX5_ray_189 fpX5_149 ⟨by decide, _, rfl, rfl⟩ rfl rfl ?_
          refine sw_aload_n dX5_ray_192 rfl ?_
          refine sw_getI dX5_ray_193 flX5_149 ⟨by decide, _, rfl, rfl⟩ ?_
          rw [hset_at]
          refine sw_iconst (v := nI 1) dX5_ray_196 (by decide) ?_
          first | refine sw_isubN dX5_ray_197 (by omega) ?_ | refine sw_isub dX5_ray_197 ?_
          rw [show r + 1 - 1 = r by omega]
          refine sw_iret dX5_ray_198 rfl rfl rfl ?_
          exact k4 q ha hr12
        · refine sw_bipush (v := (-3)) dX5_ray_149 (by decide) ?_
          refine sw_iret dX5_ray_151 rfl rfl rfl ?_
          exact k3 q ha (by omega)
      · omega
    · intro i hi ih ha
      have nx : parB (h 35) (h 36) (h 37) x y w i = false → SW jX5_ray E0 (Zm Q) 134 [some (.ref 28), some (.int x), some (.int y), some (.int w), some (.int (nI i))] [] h := fun hp => by
        first | refine sw_iincN (b := 1) dX5_ray_134 rfl (by decide) rfl ?_ | refine sw_iinc dX5_ray_134 rfl rfl (by decide) rfl ?_
        refine sw_goto (tgt := 59) dX5_ray_137 (by decide) ?_
        exact ih (by simp only [allB, ha, Bool.true_and, hp]; rfl)
      have nf : ¬ (x * h 36 i = y * h 35 i ∧ y * h 37 i = w * h 36 i ∧ x * h 37 i = w * h 35 i) → parB (h 35) (h 36) (h 37) x y w i = false := fun q => by
        cases e : parB (h 35) (h 36) (h 37) x y w i with
        | false => rfl
        | true => exact absurd (parM.mpr e) q
      refine sw_iload dX5_ray_59 rfl ?_
      refine sw_aload_n dX5_ray_61 rfl ?_
      refine sw_getI dX5_ray_62 flX5_149 ⟨by decide, _, rfl, rfl⟩ ?_
      rw [hz]
      refine sw_icmpN_ge (tgt := 140) dX5_ray_65 (by decide) (by omega) (by omega) (fun hc => ?_) (fun hc => ?_)
      · omega
      · clear hc
        refine sw_iload_n dX5_ray_68 rfl ?_
        refine sw_aload_n dX5_ray_69 rfl ?_
        refine sw_getR dX5_ray_70 flX5_35 ⟨by decide, _, rfl, rfl⟩ ?_
        refine sw_iload dX5_ray_73 rfl ?_
        refine sw_iald dX5_ray_75 rfl (by simp only [plA]; omega) ?_
        refine sw_imul dX5_ray_76 ?_
        refine sw_iload_n dX5_ray_77 rfl ?_
        refine sw_aload_n dX5_ray_78 rfl ?_
        refine sw_getR dX5_ray_79 flX5_32 ⟨by decide, _, rfl, rfl⟩ ?_
        refine sw_iload dX5_ray_82 rfl ?_
        refine sw_iald dX5_ray_84 rfl (by simp only [plA]; omega) ?_
        refine sw_imul dX5_ray_85 ?_
        refine sw_icmp_ne (tgt := 134) dX5_ray_86 (by decide) (fun hc => ?_) (fun hc => ?_)
        · exact nx (nf (fun q => hc q.1))
        · have h1 := hc
          clear hc
          refine sw_iload_n dX5_ray_89 rfl ?_
          refine sw_aload_n dX5_ray_90 rfl ?_
          refine sw_getR dX5_ray_91 flX5_38 ⟨by decide, _, rfl, rfl⟩ ?_
          refine sw_iload dX5_ray_94 rfl ?_
          refine sw_iald dX5_ray_96 rfl (by simp only [plA]; omega) ?_
          refine sw_imul dX5_ray_97 ?_
          refine sw_iload_n dX5_ray_98 rfl ?_
          refine sw_aload_n dX5_ray_99 rfl ?_
          refine sw_getR dX5_ray_100 flX5_35 ⟨by decide, _, rfl, rfl⟩ ?_
          refine sw_iload dX5_ray_103 rfl ?_
          refine sw_iald dX5_ray_105 rfl (by simp only [plA]; omega) ?_
          refine sw_imul dX5_ray_106 ?_
          refine sw_icmp_ne (tgt := 134) dX5_ray_107 (by decide) (fun hc => ?_) (fun hc => ?_)
          · exact nx (nf (fun q => hc q.2.1))
          · have h2 := hc
            clear hc
            refine sw_iload_n dX5_ray_110 rfl ?_
            refine sw_aload_n dX5_ray_111 rfl ?_
            refine sw_getR dX5_ray_112 flX5_38 ⟨by decide, _, rfl, rfl⟩ ?_
            refine sw_iload dX5_ray_115 rfl ?_
            refine sw_iald dX5_ray_117 rfl (by simp only [plA]; omega) ?_
            refine sw_imul dX5_ray_118 ?_
            refine sw_iload_n dX5_ray_119 rfl ?_
            refine sw_aload_n dX5_ray_120 rfl ?_
            refine sw_getR dX5_ray_121 flX5_32 ⟨by decide, _, rfl, rfl⟩ ?_
            refine sw_iload dX5_ray_124 rfl ?_
            refine sw_iald dX5_ray_126 rfl (by simp only [plA]; omega) ?_
            refine sw_imul dX5_ray_127 ?_
            refine sw_icmp_ne (tgt := 134) dX5_ray_128 (by decide) (fun hc => ?_) (fun hc => ?_)
            · exact nx (nf (fun q => hc q.2.2))
            · have hp : parB (h 35) (h 36) (h 37) x y w i = true := parM.mp ⟨h1, h2, hc⟩
              refine sw_bipush (v := (-2)) dX5_ray_131 (by decide) ?_
              refine sw_iret dX5_ray_133 rfl rfl rfl ?_
              exact k2 q (allB_f hi (by rw [hp]; rfl))
  refine sw_iload_n dX5_ray_0 rfl ?_
  refine sw_i2l dX5_ray_1 ?_
  refine sw_ldc2_w (v := (-5)) dX5_ray_2 (by decide +kernel) ?_
  refine sw_ldc2_w (v := lN 5) dX5_ray_5 (by decide +kernel) ?_
  refine sw_csi (c_inR (l := -5) (u := 5) (by decide) (by decide)) dX5_ray_8 lkX5_59 (by decide) rfl rfl (Nat.le_of_ble_eq_true rfl) ?_
  refine sw_if_eq (tgt := 54) dX5_ray_11 (by decide) (fun hc => ?_) (fun hc => ?_)
  · exact bad (fun q => absurd ((bI_0 hc).symm.trans q.1) (by decide))
  · have a1 := bI_1 hc
    clear hc
    refine sw_iload_n dX5_ray_14 rfl ?_
    refine sw_i2l dX5_ray_15 ?_
    refine sw_ldc2_w (v := (-5)) dX5_ray_16 (by decide +kernel) ?_
    refine sw_ldc2_w (v := lN 5) dX5_ray_19 (by decide +kernel) ?_
    refine sw_csi (c_inR (l := -5) (u := 5) (by decide) (by decide)) dX5_ray_22 lkX5_59 (by decide) rfl rfl (Nat.le_of_ble_eq_true rfl) ?_
    refine sw_if_eq (tgt := 54) dX5_ray_25 (by decide) (fun hc => ?_) (fun hc => ?_)
    · exact bad (fun q => absurd ((bI_0 hc).symm.trans q.2.1) (by decide))
    · have a2 := bI_1 hc
      clear hc
      refine sw_iload_n dX5_ray_28 rfl ?_
      refine sw_i2l dX5_ray_29 ?_
      refine sw_ldc2_w (v := (-5)) dX5_ray_30 (by decide +kernel) ?_
      refine sw_ldc2_w (v := lN 5) dX5_ray_33 (by decide +kernel) ?_
      refine sw_csi (c_inR (l := -5) (u := 5) (by decide) (by decide)) dX5_ray_36 lkX5_59 (by decide) rfl rfl (Nat.le_of_ble_eq_true rfl) ?_
      refine sw_if_eq (tgt := 54) dX5_ray_39 (by decide) (fun hc => ?_) (fun hc => ?_)
      · exact bad (fun q => absurd ((bI_0 hc).symm.trans q.2.2.1) (by decide))
      · have a3 := bI_1 hc
        clear hc
        refine sw_iload_n dX5_ray_42 rfl ?_
        refine sw_if_ne (tgt := 56) dX5_ray_43 (by decide) (fun hc => ?_) (fun hc => ?_)
        · exact good ⟨a1, a2, a3, fun q => hc q.1⟩
        · have b1 := hc
          clear hc
          refine sw_iload_n dX5_ray_46 rfl ?_
          refine sw_if_ne (tgt := 56) dX5_ray_47 (by decide) (fun hc => ?_) (fun hc => ?_)
          · exact good ⟨a1, a2, a3, fun q => hc q.2.1⟩
          · have b2 := hc
            clear hc
            refine sw_iload_n dX5_ray_50 rfl ?_
            refine sw_if_ne (tgt := 56) dX5_ray_51 (by decide) (fun hc => ?_) (fun hc => ?_)
            · exact good ⟨a1, a2, a3, fun q => hc q.2.2⟩
            · exact bad (fun q => q.2.2.2 ⟨b1, b2, hc⟩)
/-- the rays alone have changed -/
theorem I0_ri {h g : Hp} {n z : Nat} {sm lf : Nat → Nat} {r r' K : Nat} (I : I0 h n z sm lf r K) (e : ∀ k, (k < 13 ∨ 18 < k) → k ≠ 28 → (k < 35 ∨ 39 < k) → g k = h k) (e28 : ∀ i, i ≠ 9 → i ≠ 15 → g 28 i = h 28 i) (hR : RI g r') : I0 g n z sm lf r' (K + 1) := by
  obtain ⟨i1, iT, iM, iW, iS, iC, iR, iH⟩ := I
  have e' : ∀ k, k < 13 → g k = h k := fun k hk => e k (Or.inl hk) (by omega) (Or.inl (by omega))
  refine ⟨i1, TX_keep iT (e' 1 (by decide)) (e' 2 (by decide)) (e' 6 (by decide)) (e' 7 (by decide)), TM_keep iM (e28 0 (by decide) (by decide)) (e28 1 (by decide) (by decide)) (e 29 (by decide) (by decide) (by decide)), ?_, ?_, CK_eq (e' 1 (by decide)) (e' 10 (by decide)) (e' 11 (by decide)) iC, hR, SH_eq (fun k k1 k2 => e k (by omega) (by omega) (by omega)) (fun k k1 k2 => e k (by omega) (by omega) (by omega)) iH⟩
  · unfold WI at iW ⊢
    rw [e' 4 (by decide), e 31 (by decide) (by decide) (by decide)]
    exact iW
  · unfold SP at iS ⊢
    rw [e' 5 (by decide), e' 3 (by decide), e 32 (by decide) (by decide) (by decide), e 30 (by decide) (by decide) (by decide)]
    exact iS
theorem b_ray (x y w : Int32) : Both jX4_ray jX5_ray [.int x, .int y, .int w] := by
  intro h K hK hI
  have hI0 := hI
  obtain ⟨n, z, sm, lf, r, I⟩ := hI
  have iR := I.2.2.2.2.2.2.1
  obtain ⟨V, r9, rE, rR, rP, rJ⟩ := iR
  have hr := V.1
  have pe : allB (fun i => !parB (h 35) (h 36) (h 37) x y w i) r = allB (fun i => !parB (h 14) (h 15) (h 16) x y w i) r := allB_cong (fun i hi => by
    unfold parB
    obtain ⟨q1, q2, q3⟩ := rE i (by omega)
    rw [q1, q2, q3])
  by_cases ok : okR x y w
  · cases hp : allB (fun i => !parB (h 14) (h 15) (h 16) x y w i) r with
    | false => exact ⟨-2, x_ray V (fun q => absurd ok q) (fun _ _ => ⟨rfl, m_ray hr r9 (fun q => absurd ok q) (fun _ _ => ⟨rfl, hI0.up⟩) (fun _ q => absurd (pe.symm.trans q) (by rw [hp]; decide)) (fun _ q => absurd (pe.symm.trans q) (by rw [hp]; decide))⟩) (fun _ q => absurd (hp.symm.trans q) (by decide)) (fun _ q => absurd (hp.symm.trans q) (by decide))⟩
    | true =>
      by_cases h12 : r < 12
      · refine ⟨nI r, x_ray V (fun q => absurd ok q) (fun _ q => absurd (hp.symm.trans q) (by decide)) (fun _ _ q => absurd h12 q) (fun _ _ _ g e0 e14 e15 e16 V' g6 => ⟨rfl, ?_⟩)⟩
        have f9 : g 28 9 = nI r := by rw [e0 28 (by decide) (by decide) (by decide) (by decide) (by decide)]; exact r9
        have f35 : g 35 = h 35 := e0 35 (by decide) (by decide) (by decide) (by decide) (by decide)
        have f36 : g 36 = h 36 := e0 36 (by decide) (by decide) (by decide) (by decide) (by decide)
        have f37 : g 37 = h 37 := e0 37 (by decide) (by decide) (by decide) (by decide) (by decide)
        have pg : allB (fun i => !parB (g 35) (g 36) (g 37) x y w i) r = true := by rw [f35, f36, f37, pe]; exact hp
        refine m_ray hr f9 (fun q => absurd ok q) (fun _ q => absurd (pg.symm.trans q) (by decide)) (fun _ _ q => absurd h12 q) (fun _ _ _ => ⟨rfl, ?_⟩)
        generalize hfe : hset (hset (hset (hset g 35 r x) 36 r y) 37 r w) 28 9 (nI (r + 1)) = f
        have ef : ∀ k, k ≠ 28 → k ≠ 35 → k ≠ 36 → k ≠ 37 → f k = g k := fun k k1 k2 k3 k4 => by rw [← hfe, hset_off k k1, hset_off k k4, hset_off k k3, hset_off k k2]
        have v14 : f 14 = upd (h 14) r x := by rw [ef 14 (by decide) (by decide) (by decide) (by decide), e14]
        have v15 : f 15 = upd (h 15) r y := by rw [ef 15 (by decide) (by decide) (by decide) (by decide), e15]
        have v16 : f 16 = upd (h 16) r w := by rw [ef 16 (by decide) (by decide) (by decide) (by decide), e16]
        have v35 : f 35 = upd (h 35) r x := by rw [← hfe, hset_off 35 (by decide), hset_off 35 (by decide), hset_off 35 (by decide), hset_same, f35]
        have v36 : f 36 = upd (h 36) r y := by rw [← hfe, hset_off 36 (by decide), hset_off 36 (by decide), hset_same, hset_off 36 (by decide), f36]
        have v37 : f 37 = upd (h 37) r w := by rw [← hfe, hset_off 37 (by decide), hset_same, hset_off 37 (by decide), hset_off 37 (by decide), f37]
        refine ⟨n, z, sm, lf, r + 1, I0_ri I (fun k k1 k2 k3 => ?_) (fun i i9 _ => ?_) ⟨?_, ?_, fun i hi => ?_, fun i hi => ?_, fun i j hij hj => ?_, fun q => ?_⟩⟩
        · rw [ef k k2 (by omega) (by omega) (by omega)]
          exact e0 k (by omega) (by omega) (by omega) (by omega) (by omega)
        · rw [← hfe, hset_i i9, hset_k (by decide), hset_k (by decide), hset_k (by decide), e0 28 (by decide) (by decide) (by decide) (by decide) (by decide)]
        · refine ⟨V'.1, ?_, fun i hi => ?_⟩
          · rw [ef 13 (by decide) (by decide) (by decide) (by decide)]; exact V'.2.1
          · unfold ox
            rw [ef 17 (by decide) (by decide) (by decide) (by decide), ef 14 (by decide) (by decide) (by decide) (by decide), ef 15 (by decide) (by decide) (by decide) (by decide), ef 16 (by decide) (by decide) (by decide) (by decide)]
            exact V'.2.2 i hi
        · rw [← hfe, hset_at]
        · rw [v14, v15, v16, v35, v36, v37]
          by_cases q : i = r
          · rw [q, pk_us, pk_us, pk_us, pk_us, pk_us, pk_us]
            exact ⟨rfl, rfl, rfl⟩
          · rw [pk_un q, pk_un q, pk_un q, pk_un q, pk_un q, pk_un q]
            exact rE i hi
        · rw [v14, v15, v16]
          by_cases q : i = r
          · rw [q, pk_us, pk_us, pk_us]
            exact ok
          · rw [pk_un q, pk_un q, pk_un q]
            exact rR i (by omega)
        · rw [v14, v15, v16]
          unfold parB
          rw [pk_un (show i ≠ r by omega), pk_un (show i ≠ r by omega), pk_un (show i ≠ r by omega)]
          by_cases q : j = r
          · rw [q, pk_us, pk_us, pk_us]
            have := allB_t.mp hp i (by omega)
            rw [Bool.not_eq_true'] at this
            exact this
          · rw [pk_un q, pk_un q, pk_un q]
            exact rP i j hij (by omega)
        · rw [ef 13 (by decide) (by decide) (by decide) (by decide), g6] at q
          exact absurd rfl q
      · exact ⟨-3, x_ray V (fun q => absurd ok q) (fun _ q => absurd (hp.symm.trans q) (by decide)) (fun _ _ _ => ⟨rfl, m_ray hr r9 (fun q => absurd ok q) (fun _ q => absurd ((pe.trans hp).symm.trans q) (by decide)) (fun _ _ _ => ⟨rfl, hI0.up⟩) (fun _ _ q => absurd q h12)⟩) (fun _ _ q => absurd q h12)⟩
  · exact ⟨-1, x_ray V (fun _ => ⟨rfl, m_ray hr r9 (fun _ => ⟨rfl, hI0.up⟩) (fun q => absurd q ok) (fun q => absurd q ok) (fun q => absurd q ok)⟩) (fun q => absurd q ok) (fun q => absurd q ok) (fun q => absurd q ok)⟩
/-! cut -/
theorem r0_iff {r : Nat} (hr : r ≤ 12) : nI r = 0 ↔ r = 0 := by
  constructor
  · intro q
    exact (nI_eq (by omega) (by omega)).mp (q.trans (show (0 : Int32) = nI 0 from rfl))
  · intro q; rw [q]; rfl
theorem x_cut (V : RV h r) (k1 : r = 0 → Q (some (.int (-4))) h) (k2 : ∀ m, r = m + 1 → ∀ g : Hp, (∀ k, k ≠ 13 → k ≠ 17 → g k = h k) → RV g m → g 13 6 = nI 0 → Q (some (.int (nI m))) g) : Ctr jX4_cut [.ref 0] h Q := by
  have hr := V.1
  refine ctr_start (by decide) (Nat.le_of_ble_eq_true rfl) rfl rfl ?_
  show SW jX4_cut E0 _ 0 [some (.ref 0)] [] _
  refine sw_aload_n dX4_cut_0 rfl ?_
  refine sw_getR dX4_cut_1 flX4_26 ⟨by decide, _, rfl, rfl⟩ ?_
  refine sw_getNI dX4_cut_4 fnX4_163 ⟨by decide, _, rfl, rfl⟩ ?_
  rw [V.2.1]
  refine sw_if_ne (tgt := 15) dX4_cut_7 (by decide) (fun hc => ?_) (fun hc => ?_)
  · rw [r0_iff hr] at hc
    obtain ⟨m, rfl⟩ : ∃ m, r = m + 1 := ⟨r - 1, by omega⟩
    refine sw_aload_n dX4_cut_15 rfl ?_
    refine sw_getR dX4_cut_16 flX4_26 ⟨by decide, _, rfl, rfl⟩ ?_
    refine sw_callV (i := 0) (c_removeLatest1 V) dX4_cut_19 lkX4_167 (by decide) ⟨by decide, _, rfl, rfl⟩ rfl rfl rfl (Nat.le_of_ble_eq_true rfl) (fun v h1 hq => ?_)
    obtain ⟨rfl, q1, q2, q3⟩ := hq
    refine sw_iret dX4_cut_22 rfl rfl rfl ?_
    exact k2 m rfl h1 q1 q2 q3
  · rw [r0_iff hr] at hc
    refine sw_bipush (v := (-4)) dX4_cut_10 (by decide) ?_
    refine sw_goto (tgt := 22) dX4_cut_12 (by decide) ?_
    refine sw_iret dX4_cut_22 rfl rfl rfl ?_
    exact k1 hc
theorem m_cut (hr : r ≤ 12) (hz : h 28 9 = nI r) (k1 : r = 0 → Q (some (.int (-4))) h) (k2 : ∀ m, r = m + 1 → Q (some (.int (nI m))) (hset h 28 9 (nI m))) : Ctr jX5_cut [.ref 28] h Q := by
  refine ctr_start (by decide) (Nat.le_of_ble_eq_true rfl) rfl rfl ?_
  show SW jX5_cut E0 _ 0 [some (.ref 28)] [] _
  refine sw_aload_n dX5_cut_0 rfl ?_
  refine sw_getI dX5_cut_1 flX5_149 ⟨by decide, _, rfl, rfl⟩ ?_
  rw [hz]
  refine sw_if_ne (tgt := 10) dX5_cut_4 (by decide) (fun hc => ?_) (fun hc => ?_)
  · rw [r0_iff hr] at hc
    obtain ⟨m, rfl⟩ : ∃ m, r = m + 1 := ⟨r - 1, by omega⟩
    clear hc
    refine sw_aload_n dX5_cut_10 rfl ?_
    refine sw_dup dX5_cut_11 rfl ?_
    refine sw_getI dX5_cut_12 flX5_149 ⟨by decide, _, rfl, rfl⟩ ?_
    rw [hz]
    refine sw_iconst (v := nI 1) dX5_cut_15 (by decide) ?_
    first | refine sw_isubN dX5_cut_16 (by omega) ?_ | refine sw_isub dX5_cut_16 ?_
    rw [show m + 1 - 1 = m by omega]
    refine sw_put dX5_cut_17 fpX5_149 ⟨by decide, _, rfl, rfl⟩ rfl rfl ?_
    refine sw_aload_n dX5_cut_20 rfl ?_
    refine sw_getI dX5_cut_21 flX5_149 ⟨by decide, _, rfl, rfl⟩ ?_
    rw [hset_at]
    refine sw_iret dX5_cut_24 rfl rfl rfl ?_
    exact k2 m rfl
  · rw [r0_iff hr] at hc
    refine sw_bipush (v := (-4)) dX5_cut_7 (by decide) ?_
    refine sw_iret dX5_cut_9 rfl rfl rfl ?_
    exact k1 hc
theorem b_cut : Both jX4_cut jX5_cut [] := by
  intro h K hK hI
  have hI0 := hI
  obtain ⟨n, z, sm, lf, r, I⟩ := hI
  have iR := I.2.2.2.2.2.2.1
  obtain ⟨V, r9, rE, rR, rP, rJ⟩ := iR
  have hr := V.1
  rcases Nat.eq_zero_or_pos r with e | e
  · exact ⟨-4, x_cut V (fun _ => ⟨rfl, m_cut hr r9 (fun _ => ⟨rfl, hI0.up⟩) (fun m q => by omega)⟩) (fun m q => by omega)⟩
  · obtain ⟨m, rfl⟩ : ∃ m, r = m + 1 := ⟨r - 1, by omega⟩
    refine ⟨nI m, x_cut V (fun q => by omega) (fun m' hm' g e0 V' g6 => ?_)⟩
    obtain rfl : m' = m := by omega
    refine ⟨rfl, m_cut (r := m' + 1) hr (by rw [e0 28 (by decide) (by decide)]; exact r9) (fun q => by omega) (fun m hm => ?_)⟩
    obtain rfl : m = m' := by omega
    refine ⟨rfl, ?_⟩
    generalize hfe : hset g 28 9 (nI m) = f
    have ef : ∀ k, k ≠ 28 → f k = g k := fun k k1 => by rw [← hfe, hset_off k k1]
    have efh : ∀ k, k ≠ 28 → k ≠ 13 → k ≠ 17 → f k = h k := fun k k1 k2 k3 => by rw [ef k k1]; exact e0 k k2 k3
    refine ⟨n, z, sm, lf, m, I0_ri I (fun k k1 k2 k3 => efh k k2 (by omega) (by omega)) (fun i i9 _ => ?_) ⟨?_, ?_, fun i hi => ?_, fun i hi => ?_, fun i j hij hj => ?_, fun q => ?_⟩⟩
    · rw [← hfe, hset_i i9, e0 28 (by decide) (by decide)]
    · refine ⟨V'.1, ?_, fun i hi => ?_⟩
      · rw [ef 13 (by decide)]; exact V'.2.1
      · unfold ox
        rw [ef 17 (by decide), ef 14 (by decide), ef 15 (by decide), ef 16 (by decide)]
        exact V'.2.2 i hi
    · rw [← hfe, hset_at]
    · rw [efh 14 (by decide) (by decide) (by decide), efh 15 (by decide) (by decide) (by decide), efh 16 (by decide) (by decide) (by decide), efh 35 (by decide) (by decide) (by decide), efh 36 (by decide) (by decide) (by decide), efh 37 (by decide) (by decide) (by decide)]
      exact rE i hi
    · rw [efh 14 (by decide) (by decide) (by decide), efh 15 (by decide) (by decide) (by decide), efh 16 (by decide) (by decide) (by decide)]
      exact rR i (by omega)
    · rw [efh 14 (by decide) (by decide) (by decide), efh 15 (by decide) (by decide) (by decide), efh 16 (by decide) (by decide) (by decide)]
      exact rP i j hij (by omega)
    · rw [ef 13 (by decide), g6] at q
      exact absurd rfl q
/-! square -/
theorem x_square (V : RV h r) {a : Int32} (k1 : rg 0 ((r : Int) - 1) a = false → Q (some (.int (-1))) h) (k2 : ∀ i, i < r → a = nI i → Q (some (.int (nI (bm (ox h i) r)))) h) : Ctr jX4_square [.ref 0, .int a] h Q := by
  have hr := V.1
  refine ctr_start (by decide) (Nat.le_of_ble_eq_true rfl) rfl rfl ?_
  show SW jX4_square E0 _ 0 [some (.ref 0), some (.int a)] [] _
  refine sw_iload_n dX4_square_0 rfl ?_
  refine sw_if_lt (tgt := 15) dX4_square_1 (by decide) (fun hc => ?_) (fun hc => ?_)
  · rw [i_lt, t_0] at hc
    refine sw_iconst (v := (-1)) dX4_square_15 (by decide) ?_
    refine sw_goto (tgt := 28) dX4_square_16 (by decide) ?_
    refine sw_iret dX4_square_28 rfl rfl rfl ?_
    exact k1 (rg_f1 hc)
  · rw [i_lt, t_0] at hc
    have h0 := hc
    clear hc
    refine sw_iload_n dX4_square_4 rfl ?_
    refine sw_aload_n dX4_square_5 rfl ?_
    refine sw_getR dX4_square_6 flX4_26 ⟨by decide, _, rfl, rfl⟩ ?_
    refine sw_getNI dX4_square_9 fnX4_163 ⟨by decide, _, rfl, rfl⟩ ?_
    rw [V.2.1]
    refine sw_icmp_lt (tgt := 19) dX4_square_12 (by decide) (fun hc => ?_) (fun hc => ?_)
    · rw [i_lt, t_N (by omega)] at hc
      obtain ⟨i, hi, rfl⟩ := rg_nat2 (z := r - 1) (c := a) (by omega) (rg_t (by omega) (by omega))
      rw [t_N (by omega)] at hc
      have hir : i < r := by omega
      refine sw_aload_n dX4_square_19 rfl ?_
      refine sw_getR dX4_square_20 flX4_26 ⟨by decide, _, rfl, rfl⟩ ?_
      refine sw_getNR dX4_square_23 fnX4_168 ⟨by decide, _, rfl, rfl⟩ ?_
      refine sw_iload_n dX4_square_26 rfl ?_
      refine sw_iald dX4_square_27 rfl (by simp only [plA]; omega) ?_
      rw [V.2.2 i hir]
      refine sw_iret dX4_square_28 rfl rfl rfl ?_
      exact k2 i hir rfl
    · rw [i_lt, t_N (by omega)] at hc
      refine sw_iconst (v := (-1)) dX4_square_15 (by decide) ?_
      refine sw_goto (tgt := 28) dX4_square_16 (by decide) ?_
      refine sw_iret dX4_square_28 rfl rfl rfl ?_
      exact k1 (rg_f2 (by omega))
theorem m_square (hr : r ≤ 12) (hz : h 28 9 = nI r) {a : Int32} (k1 : rg 0 ((r : Int) - 1) a = false → Q (some (.int (-1))) h) (k2 : ∀ i, i < r → a = nI i → Q (some (.int (nI (bm (om h i) r)))) h) : Ctr jX5_square [.ref 28, .int a] h Q := by
  refine ctr_start (by decide) (Nat.le_of_ble_eq_true rfl) rfl rfl ?_
  show SW jX5_square E0 _ 0 [some (.ref 28), some (.int a)] [] _
  refine sw_iload_n dX5_square_0 rfl ?_
  refine sw_i2l dX5_square_1 ?_
  refine sw_lconst (v := lN 0) dX5_square_2 (by decide) ?_
  refine sw_aload_n dX5_square_3 rfl ?_
  refine sw_getI dX5_square_4 flX5_149 ⟨by decide, _, rfl, rfl⟩ ?_
  rw [hz]
  refine sw_iconst (v := nI 1) dX5_square_7 (by decide) ?_
  refine sw_isub dX5_square_8 ?_
  refine sw_i2l dX5_square_9 ?_
  refine sw_csi (c_inR (l := 0) (u := (r : Int) - 1) (by decide) (i64S (by omega))) dX5_square_10 lkX5_59 (by decide) rfl rfl (Nat.le_of_ble_eq_true rfl) ?_
  refine sw_if_eq (tgt := 24) dX5_square_13 (by decide) (fun hc => ?_) (fun hc => ?_)
  · refine sw_iconst (v := (-1)) dX5_square_24 (by decide) ?_
    refine sw_iret dX5_square_25 rfl rfl rfl ?_
    exact k1 (bI_0 hc)
  · have hy := bI_1 hc
    have hr2 := of_decide_eq_true hy
    obtain ⟨i, hi, rfl⟩ := rg_nat2 (z := r - 1) (c := a) (by omega) (rg_t (by omega) (by omega))
    have hir : i < r := by omega
    clear hc
    refine sw_aload_n dX5_square_16 rfl ?_
    refine sw_iload_n dX5_square_17 rfl ?_
    refine sw_cvi (i := 0) (c_squareOf hr hz (i := i) (by omega)) dX5_square_18 lkX5_155 (by decide) ⟨by decide, _, rfl, rfl⟩ rfl rfl rfl (Nat.le_of_ble_eq_true rfl) ?_
    refine sw_goto (tgt := 25) dX5_square_21 (by decide) ?_
    refine sw_iret dX5_square_25 rfl rfl rfl ?_
    exact k2 i hir rfl
theorem oxm {h : Hp} {r : Nat} (R : RI h r) {i j : Nat} (hi : i < 12) (hj : j < 12) : om h i j = ox h i j := by
  unfold om ox ort
  obtain ⟨a1, a2, a3⟩ := R.2.2.1 i hi
  obtain ⟨b1, b2, b3⟩ := R.2.2.1 j hj
  rw [a1, a2, a3, b1, b2, b3]
theorem b_square (a : Int32) : Both jX4_square jX5_square [.int a] := by
  intro h K hK hI
  have hI0 := hI
  obtain ⟨n, z, sm, lf, r, I⟩ := hI
  have iR := I.2.2.2.2.2.2.1
  have hr := iR.1.1
  cases ha : rg 0 ((r : Int) - 1) a with
  | false => exact ⟨-1, x_square iR.1 (fun _ => ⟨rfl, m_square hr iR.2.1 (fun _ => ⟨rfl, hI0.up⟩) (fun i hi e => by
      rw [e, rg_t (by rw [t_N (by omega)]; omega) (by rw [t_N (by omega)]; omega)] at ha
      exact absurd ha (by decide))⟩) (fun i hi e => by
      rw [e, rg_t (by rw [t_N (by omega)]; omega) (by rw [t_N (by omega)]; omega)] at ha
      exact absurd ha (by decide))⟩
  | true =>
    have hr2 := of_decide_eq_true ha
    obtain ⟨i, hi, rfl⟩ := rg_nat2 (z := r - 1) (c := a) (by omega) (rg_t (by omega) (by omega))
    rw [t_N (by omega)] at hr2
    refine ⟨nI (bm (ox h i) r), x_square iR.1 (fun q => absurd (ha.symm.trans q) (by decide)) (fun j hj e => ?_)⟩
    obtain rfl := (nI_eq (by omega) (by omega)).mp e
    refine ⟨rfl, m_square hr iR.2.1 (fun q => absurd (ha.symm.trans q) (by decide)) (fun j hj e => ?_)⟩
    obtain rfl := (nI_eq (by omega) (by omega)).mp e
    refine ⟨?_, hI0.up⟩
    rw [bm_cong (fun k hk => oxm iR (by omega) (by omega))]
end OPS
