/-! calls: draw, the reference -/
theorem lc_lt {a b : Int64} (hc : lg_cmp a b < 0) : ¬ b ≤ a := fun q => absurd hc (Int32.not_lt.mpr ((lg_cmp_ge a b).mpr q))
theorem lc_ge {a b : Int64} (hc : ¬ lg_cmp a b < 0) : b ≤ a := (lg_cmp_ge a b).mp (Int32.not_lt.mp hc)
section OPS
variable {h : Hp} {n z : Nat} {sm : Nat → Nat} {Q : Option Value → Hp → Prop}
theorem m_draw (T : TM h n z sm) {c kd k l s : Nat} {f : Int32} (hc : c < z) (hkd : kd < 2) (hk : k < 4) (hl : l < 3) (hs64 : s ≤ 64) (hs : ¬ h 40 k = -4 → h 41 k = nI s) (k1 : h 40 k = -4 → Q (some (.int (-11))) h) (k2 : ¬ h 40 k = -4 → ¬ h 40 k = nI l → Q (some (.int (-13))) h) (k3 : h 40 k = nI l → rg 0 ((s : Int) - 1) f = false → Q (some (.int (-12))) h) (k4 : ∀ f', h 40 k = nI l → f' < s → f = nI f' → ¬ fau (fun i => h 42 (64 * k + i)) s f' kd 0 (2 ^ pop (sm c)) = 0 → Q (some (.int (fau (fun i => h 42 (64 * k + i)) s f' kd 0 (2 ^ pop (sm c))))) h) (k5 : ∀ f', h 40 k = nI l → f' < s → f = nI f' → fau (fun i => h 42 (64 * k + i)) s f' kd 0 (2 ^ pop (sm c)) = 0 → ∀ g, D1 (31 + kd) (fun i => h 42 (64 * k + i)) h g c f' (2 ^ pop (sm c)) → Q (some (.int (nI 1))) g) : Ctr jX5_draw [.ref 28, .int (nI c), .int (nI kd), .int (nI k), .int (nI l), .int f] h Q := by
  have hz8 := T.1.2.1
  have h3 := (T.2 c hc).2.2.2
  have hp := pow3 h3
  have hp1 : 1 ≤ 2 ^ pop (sm c) := Nat.two_pow_pos _
  have h64 := T.s64 hc
  have hcz := hc
  have hl4 : ¬ nI l = -4 := l4_ne (by omega)
  clear hc
  refine ctr_start (by decide) (Nat.le_of_ble_eq_true rfl) rfl rfl ?_
  show SW jX5_draw E0 _ 0 [some (.ref 28), some (.int (nI c)), some (.int (nI kd)), some (.int (nI k)), some (.int (nI l)), some (.int f), none, none, none, none] [] _
  refine sw_aload_n dX5_draw_0 rfl ?_
  refine sw_iload_n dX5_draw_1 rfl ?_
  refine sw_cvi (i := 0) (c_isSet T.1.2.1 T.1.2.2.2 (nI c)) dX5_draw_2 lkX5_63 (by decide) ⟨by decide, _, rfl, rfl⟩ rfl rfl rfl (Nat.le_of_ble_eq_true rfl) ?_
  rw [rg_nI (by omega) hcz]
  refine sw_if_eq (tgt := 27) dX5_draw_5 (by decide) (fun hc => ?_) (fun hc => ?_)
  · exact absurd hc (by decide)
  clear hc
  refine sw_iload_n dX5_draw_8 rfl ?_
  refine sw_i2l dX5_draw_9 ?_
  refine sw_lconst (v := lN 0) dX5_draw_10 (by decide) ?_
  refine sw_lconst (v := lN 1) dX5_draw_11 (by decide) ?_
  refine sw_csi (c_inR (l := 0) (u := 1) (by decide) (by decide)) dX5_draw_12 lkX5_59 (by decide) rfl rfl (Nat.le_of_ble_eq_true rfl) ?_
  rw [rg_t (v := nI kd) (by rw [t_N (by omega)]; omega) (by rw [t_N (by omega)]; omega)]
  refine sw_if_eq (tgt := 27) dX5_draw_15 (by decide) (fun hc => ?_) (fun hc => ?_)
  · exact absurd hc (by decide)
  clear hc
  refine sw_iload_n dX5_draw_18 rfl ?_
  refine sw_iload dX5_draw_19 rfl ?_
  refine sw_csi (c_isSheetM (nI k) (nI l)) dX5_draw_21 lkX5_171 (by decide) rfl rfl (Nat.le_of_ble_eq_true rfl) ?_
  rw [rg_t (v := nI k) (by rw [t_N (by omega)]; omega) (by rw [t_N (by omega)]; omega), rg_t (v := nI l) (by rw [t_N (by omega)]; omega) (by rw [t_N (by omega)]; omega)]
  refine sw_if_ne (tgt := 29) dX5_draw_24 (by decide) (fun hc => ?_) (fun hc => ?_)
  · clear hc
    refine sw_aload_n dX5_draw_29 rfl ?_
    refine sw_getR dX5_draw_30 flX5_47 ⟨by decide, _, rfl, rfl⟩ ?_
    refine sw_iload_n dX5_draw_33 rfl ?_
    refine sw_iald dX5_draw_34 rfl (by simp only [plA]; omega) ?_
    refine sw_iload dX5_draw_35 rfl ?_
    refine sw_icmp_eq (tgt := 59) dX5_draw_37 (by decide) (fun hc => ?_) (fun hc => ?_)
    · have hl1 : h 40 k = nI l := hc
      clear hc
      have hse := hs (by rw [hl1]; exact hl4)
      refine sw_iconst (v := nI 1) dX5_draw_59 (by decide) ?_
      refine sw_aload_n dX5_draw_60 rfl ?_
      refine sw_getR dX5_draw_61 flX5_13 ⟨by decide, _, rfl, rfl⟩ ?_
      refine sw_iload_n dX5_draw_64 rfl ?_
      refine sw_iald dX5_draw_65 rfl (by simp only [plA]; omega) ?_
      rw [(T.2 c hcz).1]
      refine sw_csi (c_bits (by omega)) dX5_draw_66 lkX5_67 (by decide) rfl rfl (Nat.le_of_ble_eq_true rfl) ?_
      first | refine sw_ishlN dX5_draw_69 (by omega) (by rw [Nat.one_mul]; omega) ?_ | refine sw_ishl dX5_draw_69 ?_
      rw [Nat.one_mul]
      generalize hm : 2 ^ pop (sm c) = m at hp hp1 k4 k5 ⊢
      cases hb : rg 0 ((s : Int) - 1) f with
      | false =>
        have hQ := k3 hl1 hb
        have hne := of_decide_eq_false hb
        clear k1 k2 k3 k4 k5
        refine sw_istore dX5_draw_70 (by decide) rfl ?_
        refine sw_iconst (v := nI 0) dX5_draw_72 (by decide) ?_
        refine sw_istore dX5_draw_73 (by decide) rfl ?_
        refine sw_iload dX5_draw_75 rfl ?_
        refine sw_iload dX5_draw_77 rfl ?_
        refine sw_icmpN_ge (tgt := 170) dX5_draw_79 (by decide) (by omega) (by omega) (fun hc => ?_) (fun hc => ?_)
        · omega
        clear hc
        refine sw_iload dX5_draw_82 rfl ?_
        refine sw_i2l dX5_draw_84 ?_
        refine sw_iload dX5_draw_85 rfl ?_
        refine sw_i2l dX5_draw_87 ?_
        have e0 : f.toInt64 + (nI 0).toInt64 = f.toInt64 := by rw [nI_l (by omega)]; exact Int64.add_zero _
        refine sw_ladd dX5_draw_88 ?_
        rw [e0]
        have bad : SW jX5_draw E0 (Zm Q) 111 [some (.ref 28), some (.int (nI c)), some (.int (nI kd)), some (.int (nI k)), some (.int (nI l)), some (.int f), some (.int (nI m)), some (.int (nI 0)), some (.long f.toInt64), none] [] h := by
          refine sw_bipush (v := (-12)) dX5_draw_111 (by decide) ?_
          refine sw_iret dX5_draw_113 rfl rfl rfl ?_
          exact hQ
        refine sw_lstore dX5_draw_89 (by decide) rfl ?_
        refine sw_lload dX5_draw_91 rfl ?_
        refine sw_lconst (v := lN 0) dX5_draw_93 (by decide) ?_
        refine sw_lcmp dX5_draw_94 ?_
        refine sw_if_lt (tgt := 111) dX5_draw_95 (by decide) (fun hc => ?_) (fun hc => ?_)
        · exact bad
        · have g1 := lc_ge hc
          clear hc
          refine sw_lload dX5_draw_98 rfl ?_
          refine sw_aload_n dX5_draw_100 rfl ?_
          refine sw_getR dX5_draw_101 flX5_50 ⟨by decide, _, rfl, rfl⟩ ?_
          refine sw_iload_n dX5_draw_104 rfl ?_
          refine sw_iald dX5_draw_105 rfl (by simp only [plA]; omega) ?_
          rw [hse]
          refine sw_i2l dX5_draw_106 ?_
          refine sw_lcmp dX5_draw_107 ?_
          refine sw_if_lt (tgt := 114) dX5_draw_108 (by decide) (fun hc => ?_) (fun hc => ?_)
          · have g2 := lc_lt hc
            rw [Int64.le_iff_toInt_le, Int32.toInt_toInt64, lN_toInt (by omega)] at g1
            rw [Int64.le_iff_toInt_le, Int32.toInt_toInt64, Int32.toInt_toInt64, t_N (by omega)] at g2
            exact absurd ⟨by omega, by omega⟩ hne
          · exact bad
      | true =>
        obtain ⟨f', hf', rfl⟩ := rg_nat (by omega) hb
        generalize hfa : fau (fun i => h 42 (64 * k + i)) s f' kd 0 m = F
        have k4' := k4 f' hl1 hf' rfl
        have k5' := k5 f' hl1 hf' rfl
        rw [hfa] at k4' k5'
        clear k1 k2 k3 k4 k5
        refine sw_istore dX5_draw_70 (by decide) rfl ?_
        refine sw_iconst (v := nI 0) dX5_draw_72 (by decide) ?_
        refine sw_istore dX5_draw_73 (by decide) rfl ?_
        have fin : F = 0 → ∀ v8 v9, SW jX5_draw E0 (Zm Q) 170 [some (.ref 28), some (.int (nI c)), some (.int (nI kd)), some (.int (nI k)), some (.int (nI l)), some (.int (nI f')), some (.int (nI m)), some (.int (nI m)), v8, v9] [] h := fun hF0 v8 v9 => by
          have hQ := k5' hF0
          have hF := fau_0 m 0 (by omega) (hfa.trans hF0)
          clear k4' k5'
          refine sw_iconst (v := nI 0) dX5_draw_170 (by decide) ?_
          refine sw_istore dX5_draw_171 (by decide) rfl ?_
          rcases (show kd = 0 ∨ kd = 1 by omega) with rfl | rfl
          · have key := lp_up (n := m) (S := fun j => ∀ g v8 v9, D1 (31 + 0) (fun i => h 42 (64 * k + i)) h g c f' j → SW jX5_draw E0 (Zm Q) 173 [some (.ref 28), some (.int (nI c)), some (.int (nI 0)), some (.int (nI k)), some (.int (nI l)), some (.int (nI f')), some (.int (nI m)), some (.int (nI j)), v8, v9] [] g) ?_ ?_ 0 (Nat.zero_le _) h v8 v9 ⟨fun _ _ => rfl, fun _ => drw_0.symm⟩
            · exact key
            · intro g v8 v9 hD
              refine sw_iload dX5_draw_173 rfl ?_
              refine sw_iload dX5_draw_175 rfl ?_
              refine sw_icmpN_ge (tgt := 238) dX5_draw_177 (by decide) (by omega) (by omega) (fun hc => ?_) (fun hc => ?_)
              · refine sw_iconst (v := nI 1) dX5_draw_238 (by decide) ?_
                refine sw_iret dX5_draw_239 rfl rfl rfl ?_
                exact hQ g hD
              · omega
            · intro j hj ih g v8 v9 hD
              have hin := (hF j (Nat.zero_le _) (by omega)).1
              refine sw_iload dX5_draw_173 rfl ?_
              refine sw_iload dX5_draw_175 rfl ?_
              refine sw_icmpN_ge (tgt := 238) dX5_draw_177 (by decide) (by omega) (by omega) (fun hc => ?_) (fun hc => ?_)
              · omega
              · clear hc
                refine sw_aload_n dX5_draw_180 rfl ?_
                refine sw_getR dX5_draw_181 flX5_53 ⟨by decide, _, rfl, rfl⟩ ?_
                refine sw_bipush (v := nI 64) dX5_draw_184 (by decide) ?_
                refine sw_iload_n dX5_draw_186 rfl ?_
                first | refine sw_imulN dX5_draw_187 ?_ | refine sw_imul dX5_draw_187 ?_
                refine sw_iload dX5_draw_188 rfl ?_
                first | refine sw_iaddN dX5_draw_190 ?_ | refine sw_iadd dX5_draw_190 ?_
                refine sw_iload dX5_draw_191 rfl ?_
                first | refine sw_iaddN dX5_draw_193 ?_ | refine sw_iadd dX5_draw_193 ?_
                refine sw_iald dX5_draw_194 rfl (by simp only [plA]; omega) ?_
                rw [hD.1 42 (by decide), Nat.add_assoc (64 * k) f' j]
                refine sw_istore dX5_draw_195 (by decide) rfl ?_
                refine sw_iload_n dX5_draw_197 rfl ?_
                refine sw_if_ne (tgt := 218) dX5_draw_198 (by decide) (fun hc => ?_) (fun hc => ?_)
                · exact absurd rfl hc
                · clear hc
                  refine sw_aload_n dX5_draw_201 rfl ?_
                  refine sw_getR dX5_draw_202 flX5_20 ⟨by decide, _, rfl, rfl⟩ ?_
                  refine sw_bipush (v := nI 8) dX5_draw_205 (by decide) ?_
                  refine sw_iload_n dX5_draw_207 rfl ?_
                  first | refine sw_imulN dX5_draw_208 ?_ | refine sw_imul dX5_draw_208 ?_
                  refine sw_iload dX5_draw_209 rfl ?_
                  first | refine sw_iaddN dX5_draw_211 ?_ | refine sw_iadd dX5_draw_211 ?_
                  refine sw_iload dX5_draw_212 rfl ?_
                  refine sw_iast dX5_draw_214 rfl (by simp only [plA]; omega) ?_
                  refine sw_goto (tgt := 232) dX5_draw_215 (by decide) ?_
                  first | refine sw_iincN (b := 1) dX5_draw_232 rfl (by decide) rfl ?_ | refine sw_iinc dX5_draw_232 rfl rfl (by decide) rfl ?_
                  refine sw_goto (tgt := 173) dX5_draw_235 (by decide) ?_
                  exact ih _ _ _ (D1_s hD)
          · have key := lp_up (n := m) (S := fun j => ∀ g v8 v9, D1 (31 + 1) (fun i => h 42 (64 * k + i)) h g c f' j → SW jX5_draw E0 (Zm Q) 173 [some (.ref 28), some (.int (nI c)), some (.int (nI 1)), some (.int (nI k)), some (.int (nI l)), some (.int (nI f')), some (.int (nI m)), some (.int (nI j)), v8, v9] [] g) ?_ ?_ 0 (Nat.zero_le _) h v8 v9 ⟨fun _ _ => rfl, fun _ => drw_0.symm⟩
            · exact key
            · intro g v8 v9 hD
              refine sw_iload dX5_draw_173 rfl ?_
              refine sw_iload dX5_draw_175 rfl ?_
              refine sw_icmpN_ge (tgt := 238) dX5_draw_177 (by decide) (by omega) (by omega) (fun hc => ?_) (fun hc => ?_)
              · refine sw_iconst (v := nI 1) dX5_draw_238 (by decide) ?_
                refine sw_iret dX5_draw_239 rfl rfl rfl ?_
                exact hQ g hD
              · omega
            · intro j hj ih g v8 v9 hD
              have hin := (hF j (Nat.zero_le _) (by omega)).1
              refine sw_iload dX5_draw_173 rfl ?_
              refine sw_iload dX5_draw_175 rfl ?_
              refine sw_icmpN_ge (tgt := 238) dX5_draw_177 (by decide) (by omega) (by omega) (fun hc => ?_) (fun hc => ?_)
              · omega
              · clear hc
                refine sw_aload_n dX5_draw_180 rfl ?_
                refine sw_getR dX5_draw_181 flX5_53 ⟨by decide, _, rfl, rfl⟩ ?_
                refine sw_bipush (v := nI 64) dX5_draw_184 (by decide) ?_
                refine sw_iload_n dX5_draw_186 rfl ?_
                first | refine sw_imulN dX5_draw_187 ?_ | refine sw_imul dX5_draw_187 ?_
                refine sw_iload dX5_draw_188 rfl ?_
                first | refine sw_iaddN dX5_draw_190 ?_ | refine sw_iadd dX5_draw_190 ?_
                refine sw_iload dX5_draw_191 rfl ?_
                first | refine sw_iaddN dX5_draw_193 ?_ | refine sw_iadd dX5_draw_193 ?_
                refine sw_iald dX5_draw_194 rfl (by simp only [plA]; omega) ?_
                rw [hD.1 42 (by decide), Nat.add_assoc (64 * k) f' j]
                refine sw_istore dX5_draw_195 (by decide) rfl ?_
                refine sw_iload_n dX5_draw_197 rfl ?_
                refine sw_if_ne (tgt := 218) dX5_draw_198 (by decide) (fun hc => ?_) (fun hc => ?_)
                · clear hc
                  refine sw_aload_n dX5_draw_218 rfl ?_
                  refine sw_getR dX5_draw_219 flX5_23 ⟨by decide, _, rfl, rfl⟩ ?_
                  refine sw_bipush (v := nI 8) dX5_draw_222 (by decide) ?_
                  refine sw_iload_n dX5_draw_224 rfl ?_
                  first | refine sw_imulN dX5_draw_225 ?_ | refine sw_imul dX5_draw_225 ?_
                  refine sw_iload dX5_draw_226 rfl ?_
                  first | refine sw_iaddN dX5_draw_228 ?_ | refine sw_iadd dX5_draw_228 ?_
                  refine sw_iload dX5_draw_229 rfl ?_
                  refine sw_iast dX5_draw_231 rfl (by simp only [plA]; omega) ?_
                  first | refine sw_iincN (b := 1) dX5_draw_232 rfl (by decide) rfl ?_ | refine sw_iinc dX5_draw_232 rfl rfl (by decide) rfl ?_
                  refine sw_goto (tgt := 173) dX5_draw_235 (by decide) ?_
                  exact ih _ _ _ (D1_s hD)
                · exact absurd hc (by decide)
        have key := lp_up (n := m) (S := fun j => F = fau (fun i => h 42 (64 * k + i)) s f' kd j (m - j) → ∀ v8 v9, SW jX5_draw E0 (Zm Q) 75 [some (.ref 28), some (.int (nI c)), some (.int (nI kd)), some (.int (nI k)), some (.int (nI l)), some (.int (nI f')), some (.int (nI m)), some (.int (nI j)), v8, v9] [] h) ?_ ?_ 0 (Nat.zero_le _) hfa.symm none none
        · exact key
        · intro he v8 v9
          rw [Nat.sub_self] at he
          refine sw_iload dX5_draw_75 rfl ?_
          refine sw_iload dX5_draw_77 rfl ?_
          refine sw_icmpN_ge (tgt := 170) dX5_draw_79 (by decide) (by omega) (by omega) (fun hc => ?_) (fun hc => ?_)
          · exact fin he v8 v9
          · omega
        · intro j hj ih he v8 v9
          rw [show m - j = (m - (j + 1)) + 1 by omega] at he
          simp only [fau] at he
          refine sw_iload dX5_draw_75 rfl ?_
          refine sw_iload dX5_draw_77 rfl ?_
          refine sw_icmpN_ge (tgt := 170) dX5_draw_79 (by decide) (by omega) (by omega) (fun hc => ?_) (fun hc => ?_)
          · omega
          clear hc
          refine sw_iload dX5_draw_82 rfl ?_
          refine sw_i2l dX5_draw_84 ?_
          refine sw_iload dX5_draw_85 rfl ?_
          refine sw_i2l dX5_draw_87 ?_
          rw [nI_l (n := f') (by omega), nI_l (n := j) (by omega)]
          refine sw_ladd dX5_draw_88 ?_
          rw [lN_add]
          refine sw_lstore dX5_draw_89 (by decide) rfl ?_
          refine sw_lload dX5_draw_91 rfl ?_
          refine sw_lconst (v := lN 0) dX5_draw_93 (by decide) ?_
          refine sw_lcmp dX5_draw_94 ?_
          refine sw_if_lt (tgt := 111) dX5_draw_95 (by decide) (fun hc => ?_) (fun hc => ?_)
          · exact absurd ((lN_le (by omega) (by omega)).mpr (Nat.zero_le _)) (lc_lt hc)
          clear hc
          refine sw_lload dX5_draw_98 rfl ?_
          refine sw_aload_n dX5_draw_100 rfl ?_
          refine sw_getR dX5_draw_101 flX5_50 ⟨by decide, _, rfl, rfl⟩ ?_
          refine sw_iload_n dX5_draw_104 rfl ?_
          refine sw_iald dX5_draw_105 rfl (by simp only [plA]; omega) ?_
          rw [hse]
          refine sw_i2l dX5_draw_106 ?_
          rw [nI_l (n := s) (by omega)]
          refine sw_lcmp dX5_draw_107 ?_
          refine sw_if_lt (tgt := 114) dX5_draw_108 (by decide) (fun hc => ?_) (fun hc => ?_)
          · have hin : f' + j < s := Nat.lt_of_not_le (fun w => lc_lt hc ((lN_le (by omega) (by omega)).mpr w))
            clear hc
            rw [if_pos hin] at he
            have bad : ¬ okv kd (h 42 (64 * k + (f' + j))) = true → SW jX5_draw E0 (Zm Q) 158 [some (.ref 28), some (.int (nI c)), some (.int (nI kd)), some (.int (nI k)), some (.int (nI l)), some (.int (nI f')), some (.int (nI m)), some (.int (nI j)), some (.long (lN (f' + j))), none] [] h := fun q => by
              rw [if_neg q] at he
              refine sw_bipush (v := (-20)) dX5_draw_158 (by decide) ?_
              refine sw_iload dX5_draw_160 rfl ?_
              refine sw_isub dX5_draw_162 ?_
              refine sw_iret dX5_draw_163 rfl rfl rfl ?_
              rw [← he]
              exact k4' (by rw [he]; exact m20_ne (by omega))
            have good : okv kd (h 42 (64 * k + (f' + j))) = true → SW jX5_draw E0 (Zm Q) 164 [some (.ref 28), some (.int (nI c)), some (.int (nI kd)), some (.int (nI k)), some (.int (nI l)), some (.int (nI f')), some (.int (nI m)), some (.int (nI j)), some (.long (lN (f' + j))), none] [] h := fun q => by
              rw [if_pos q] at he
              first | refine sw_iincN (b := 1) dX5_draw_164 rfl (by decide) rfl ?_ | refine sw_iinc dX5_draw_164 rfl rfl (by decide) rfl ?_
              refine sw_goto (tgt := 75) dX5_draw_167 (by decide) ?_
              exact ih he _ _
            refine sw_aload_n dX5_draw_114 rfl ?_
            refine sw_getR dX5_draw_115 flX5_53 ⟨by decide, _, rfl, rfl⟩ ?_
            refine sw_bipush (v := nI 64) dX5_draw_118 (by decide) ?_
            refine sw_iload_n dX5_draw_120 rfl ?_
            first | refine sw_imulN dX5_draw_121 ?_ | refine sw_imul dX5_draw_121 ?_
            refine sw_lload dX5_draw_122 rfl ?_
            refine sw_l2i dX5_draw_124 ?_
            rw [lN_i]
            refine sw_iaddN dX5_draw_125 ?_
            refine sw_iald dX5_draw_126 rfl (by simp only [plA]; omega) ?_
            refine sw_i2l dX5_draw_127 ?_
            refine sw_iload_n dX5_draw_128 rfl ?_
            rcases (show kd = 0 ∨ kd = 1 by omega) with rfl | rfl
            · refine sw_if_ne (tgt := 136) dX5_draw_129 (by decide) (fun hc => ?_) (fun hc => ?_)
              · exact absurd rfl hc
              clear hc
              refine sw_lconst (v := lN 0) dX5_draw_132 (by decide) ?_
              refine sw_goto (tgt := 139) dX5_draw_133 (by decide) ?_
              refine sw_iload_n dX5_draw_139 rfl ?_
              refine sw_if_ne (tgt := 149) dX5_draw_140 (by decide) (fun hc => ?_) (fun hc => ?_)
              · exact absurd rfl hc
              clear hc
              refine sw_ldc2_w (v := lN 1000) dX5_draw_143 (by decide +kernel) ?_
              refine sw_goto (tgt := 152) dX5_draw_146 (by decide) ?_
              refine sw_csi (c_inR (l := 0) (u := 1000) (by decide) (by decide)) dX5_draw_152 lkX5_59 (by decide) rfl rfl (Nat.le_of_ble_eq_true rfl) ?_
              refine sw_if_ne (tgt := 164) dX5_draw_155 (by decide) (fun hc => ?_) (fun hc => ?_)
              · refine good ?_
                cases q : rg 0 1000 (h 42 (64 * k + (f' + j))) with
                | true => exact q
                | false => rw [q] at hc; exact absurd rfl hc
              · have q := bI_0 hc
                exact bad (fun w => absurd (q.symm.trans w) (by decide))
            · refine sw_if_ne (tgt := 136) dX5_draw_129 (by decide) (fun hc => ?_) (fun hc => ?_)
              · clear hc
                refine sw_ldc2_w (v := (-100)) dX5_draw_136 (by decide +kernel) ?_
                refine sw_iload_n dX5_draw_139 rfl ?_
                refine sw_if_ne (tgt := 149) dX5_draw_140 (by decide) (fun hc => ?_) (fun hc => ?_)
                · clear hc
                  refine sw_ldc2_w (v := lN 100) dX5_draw_149 (by decide +kernel) ?_
                  refine sw_csi (c_inR (l := -100) (u := 100) (by decide) (by decide)) dX5_draw_152 lkX5_59 (by decide) rfl rfl (Nat.le_of_ble_eq_true rfl) ?_
                  refine sw_if_ne (tgt := 164) dX5_draw_155 (by decide) (fun hc => ?_) (fun hc => ?_)
                  · refine good ?_
                    cases q : rg (-100) 100 (h 42 (64 * k + (f' + j))) with
                    | true => exact q
                    | false => rw [q] at hc; exact absurd rfl hc
                  · have q := bI_0 hc
                    exact bad (fun w => absurd (q.symm.trans w) (by decide))
                · exact absurd hc (by decide)
              · exact absurd hc (by decide)
          · have hout : ¬ f' + j < s := fun w => absurd ((lN_le (by omega) (by omega)).mp (lc_ge hc)) (by omega)
            rw [if_neg hout] at he
            refine sw_bipush (v := (-12)) dX5_draw_111 (by decide) ?_
            refine sw_iret dX5_draw_113 rfl rfl rfl ?_
            rw [← he]
            exact k4' (by rw [he]; decide)
    · have hn : ¬ h 40 k = nI l := hc
      clear hc
      refine sw_aload_n dX5_draw_40 rfl ?_
      refine sw_getR dX5_draw_41 flX5_47 ⟨by decide, _, rfl, rfl⟩ ?_
      refine sw_iload_n dX5_draw_44 rfl ?_
      refine sw_iald dX5_draw_45 rfl (by simp only [plA]; omega) ?_
      refine sw_bipush (v := (-4)) dX5_draw_46 (by decide) ?_
      refine sw_icmp_ne (tgt := 56) dX5_draw_48 (by decide) (fun hc => ?_) (fun hc => ?_)
      · refine sw_bipush (v := (-13)) dX5_draw_56 (by decide) ?_
        refine sw_iret dX5_draw_58 rfl rfl rfl ?_
        exact k2 hc hn
      · refine sw_bipush (v := (-11)) dX5_draw_51 (by decide) ?_
        refine sw_goto (tgt := 58) dX5_draw_53 (by decide) ?_
        refine sw_iret dX5_draw_58 rfl rfl rfl ?_
        exact k1 hc
  · exact absurd hc (by decide)
end OPS
