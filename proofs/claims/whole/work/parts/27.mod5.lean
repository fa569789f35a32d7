section MOD
variable {h : Hp} {r : Nat}
theorem c_isColour (hr : r ≤ 12) (e : Nat → Nat → Bool) (hz : h 28 9 = nI r) {N : Nat} (hN : h 28 15 = nI N) (hN2 : N ≤ 220) (h38 : ∀ i, i < r → h 38 i = nI (bm (e i) r)) (hT : TLs (h 39) N e r (fun _ _ _ => True)) {m : Nat} (hm : m < 4096) : Ctr jX5_isColour [.ref 28, .int (nI m)] h (Ret (bI (colB e r m)) h) := by
  have l12 : ∀ i, bm (e i) r < 4096 := fun i => Nat.lt_of_lt_of_le (bm_lt _ r) (pow12 hr)
  have hpop16 : ∀ x, pop x ≤ 16 := fun x => bs_le _ 16
  have zero2 : ∀ i : Nat, i ≤ 221 → colB e r m = false → SW jX5_isColour E0 (Zm (Ret (bI (colB e r m)) h)) 49 [some (.ref 28), some (.int (nI m)), some (.int (nI 0)), some (.int (nI i))] [] h := fun i hi q => by
    rw [q]
    refine sw_iload_n dX5_isColour_49 rfl ?_
    refine sw_aload_n dX5_isColour_50 rfl ?_
    refine sw_getI dX5_isColour_51 flX5_158 ⟨by decide, _, rfl, rfl⟩ ?_
    rw [hN]
    refine sw_icmpN_ge (tgt := 88) dX5_isColour_54 (by decide) (by omega) (by omega) (fun hc => ?_) (fun hc => ?_)
    · refine sw_iload_n dX5_isColour_88 rfl ?_
      refine sw_zret dX5_isColour_89 rfl rfl rfl rfl ?_
      exact ⟨rfl, rfl⟩
    · clear hc
      refine sw_iload_n dX5_isColour_57 rfl ?_
      refine sw_if_eq (tgt := 88) dX5_isColour_58 (by decide) (fun hc => ?_) (fun hc => ?_)
      · refine sw_iload_n dX5_isColour_88 rfl ?_
        refine sw_zret dX5_isColour_89 rfl rfl rfl rfl ?_
        exact ⟨rfl, rfl⟩
      · exact absurd rfl hc
  have zero1 : ∀ i : Nat, i ≤ 13 → colB e r m = false → SW jX5_isColour E0 (Zm (Ret (bI (colB e r m)) h)) 4 [some (.ref 28), some (.int (nI m)), some (.int (nI 0)), some (.int (nI i))] [] h := fun i hi q => by
    refine sw_iload_n dX5_isColour_4 rfl ?_
    refine sw_aload_n dX5_isColour_5 rfl ?_
    refine sw_getI dX5_isColour_6 flX5_149 ⟨by decide, _, rfl, rfl⟩ ?_
    rw [hz]
    refine sw_icmpN_ge (tgt := 47) dX5_isColour_9 (by decide) (by omega) (by omega) (fun hc => ?_) (fun hc => ?_)
    · refine sw_iconst (v := nI 0) dX5_isColour_47 (by decide) ?_
      refine sw_istore_n dX5_isColour_48 (by decide) rfl ?_
      exact zero2 0 (by omega) q
    · clear hc
      refine sw_iload_n dX5_isColour_12 rfl ?_
      refine sw_if_eq (tgt := 47) dX5_isColour_13 (by decide) (fun hc => ?_) (fun hc => ?_)
      · refine sw_iconst (v := nI 0) dX5_isColour_47 (by decide) ?_
        refine sw_istore_n dX5_isColour_48 (by decide) rfl ?_
        exact zero2 0 (by omega) q
      · exact absurd rfl hc
  refine ctr_start (by decide) (Nat.le_of_ble_eq_true rfl) rfl rfl ?_
  show SW jX5_isColour E0 _ 0 [some (.ref 28), some (.int (nI m)), none, none] [] _
  refine sw_iconst (v := nI 1) dX5_isColour_0 (by decide) ?_
  refine sw_istore_n dX5_isColour_1 (by decide) rfl ?_
  refine sw_iconst (v := nI 0) dX5_isColour_2 (by decide) ?_
  refine sw_istore_n dX5_isColour_3 (by decide) rfl ?_
  refine lp_up (n := r) (S := fun i => allB (fun i => decide (m / 2 ^ i % 2 = 1 → bm (e i) r &&& m = 0)) i = true → SW jX5_isColour E0 (Zm (Ret (bI (colB e r m)) h)) 4 [some (.ref 28), some (.int (nI m)), some (.int (nI 1)), some (.int (nI i))] [] h) ?_ ?_ 0 (Nat.zero_le _) rfl
  · intro ha
    refine sw_iload_n dX5_isColour_4 rfl ?_
    refine sw_aload_n dX5_isColour_5 rfl ?_
    refine sw_getI dX5_isColour_6 flX5_149 ⟨by decide, _, rfl, rfl⟩ ?_
    rw [hz]
    refine sw_icmpN_ge (tgt := 47) dX5_isColour_9 (by decide) (by omega) (by omega) (fun hc => ?_) (fun hc => ?_)
    · clear hc
      refine sw_iconst (v := nI 0) dX5_isColour_47 (by decide) ?_
      refine sw_istore_n dX5_isColour_48 (by decide) rfl ?_
      refine lp_up (n := N) (S := fun i => (∀ j a b c, j < i → h 39 j = nI (mk3 a b c) → a < 12 → b < 12 → c < 12 → pop (m &&& mk3 a b c) = 1) → SW jX5_isColour E0 (Zm (Ret (bI (colB e r m)) h)) 49 [some (.ref 28), some (.int (nI m)), some (.int (nI 1)), some (.int (nI i))] [] h) ?_ ?_ 0 (Nat.zero_le _) (fun j a b c hj => absurd hj (Nat.not_lt_zero _))
      · intro hall
        have htri : triB e r m = true := triB_t.mpr (fun a b c h1 h2 h3 ht => by
          obtain ⟨i, hi, hie⟩ := hT.2 a b c h1 h2 h3 trivial ht
          exact hall i a b c hi hie (by omega) (by omega) (by omega))
        refine sw_iload_n dX5_isColour_49 rfl ?_
        refine sw_aload_n dX5_isColour_50 rfl ?_
        refine sw_getI dX5_isColour_51 flX5_158 ⟨by decide, _, rfl, rfl⟩ ?_
        rw [hN]
        refine sw_icmpN_ge (tgt := 88) dX5_isColour_54 (by decide) (by omega) (by omega) (fun hc => ?_) (fun hc => ?_)
        · refine sw_iload_n dX5_isColour_88 rfl ?_
          refine sw_zret dX5_isColour_89 rfl rfl rfl rfl ?_
          exact ⟨by unfold colB sqB; rw [htri, ha]; rfl, rfl⟩
        · omega
      · intro i hi ih hall
        obtain ⟨a, b, c, h1, h2, h3, htr, hie⟩ := hT.1 i hi
        have hl := mk3_lt a (by omega) b (by omega) c (by omega)
        have hand : mk3 a b c &&& m < 4096 := Nat.lt_of_le_of_lt Nat.and_le_right hm
        have hpop := hpop16 (mk3 a b c &&& m)
        refine sw_iload_n dX5_isColour_49 rfl ?_
        refine sw_aload_n dX5_isColour_50 rfl ?_
        refine sw_getI dX5_isColour_51 flX5_158 ⟨by decide, _, rfl, rfl⟩ ?_
        rw [hN]
        refine sw_icmpN_ge (tgt := 88) dX5_isColour_54 (by decide) (by omega) (by omega) (fun hc => ?_) (fun hc => ?_)
        · omega
        · clear hc
          refine sw_iload_n dX5_isColour_57 rfl ?_
          refine sw_if_eq (tgt := 88) dX5_isColour_58 (by decide) (fun hc => ?_) (fun hc => ?_)
          · exact absurd hc (by decide)
          · clear hc
            refine sw_aload_n dX5_isColour_61 rfl ?_
            refine sw_getR dX5_isColour_62 flX5_44 ⟨by decide, _, rfl, rfl⟩ ?_
            refine sw_iload_n dX5_isColour_65 rfl ?_
            refine sw_iald dX5_isColour_66 rfl (by simp only [plA]; omega) ?_
            rw [hie]
            refine sw_iload_n dX5_isColour_67 rfl ?_
            refine sw_iandN dX5_isColour_68 ?_
            refine sw_csi (c_bits (by omega)) dX5_isColour_69 lkX5_67 (by decide) rfl rfl (Nat.le_of_ble_eq_true rfl) ?_
            refine sw_iconst (v := nI 1) dX5_isColour_72 (by decide) ?_
            refine sw_icmpN_ne (tgt := 80) dX5_isColour_73 (by decide) (by omega) (by omega) (fun hc => ?_) (fun hc => ?_)
            · have hf : triB e r m = false := by
                cases q : triB e r m with
                | false => rfl
                | true => exact absurd (by rw [Nat.and_comm]; exact triB_t.mp q a b c h1 h2 h3 htr) hc
              refine sw_iconst (v := nI 0) dX5_isColour_80 (by decide) ?_
              refine sw_istore_n dX5_isColour_81 (by decide) rfl ?_
              first | refine sw_iincN (b := 1) dX5_isColour_82 rfl (by decide) rfl ?_ | refine sw_iinc dX5_isColour_82 rfl rfl (by decide) rfl ?_
              refine sw_goto (tgt := 49) dX5_isColour_85 (by decide) ?_
              exact zero2 (i + 1) (by omega) (by unfold colB; rw [hf, Bool.false_and])
            · refine sw_iconst (v := nI 1) dX5_isColour_76 (by decide) ?_
              refine sw_goto (tgt := 81) dX5_isColour_77 (by decide) ?_
              refine sw_istore_n dX5_isColour_81 (by decide) rfl ?_
              first | refine sw_iincN (b := 1) dX5_isColour_82 rfl (by decide) rfl ?_ | refine sw_iinc dX5_isColour_82 rfl rfl (by decide) rfl ?_
              refine sw_goto (tgt := 49) dX5_isColour_85 (by decide) ?_
              refine ih (fun j a' b' c' hj hje ha' hb' hc' => ?_)
              rcases (show j < i ∨ j = i by omega) with q | q
              · exact hall j a' b' c' q hje ha' hb' hc'
              · subst q
                have e := hie.symm.trans hje
                have hl2 := mk3_lt a' ha' b' hb' c' hc'
                rw [← (nI_eq (by omega) (by omega)).mp e, Nat.and_comm]
                exact hc
    · omega
  · intro i hi ih ha
    have hand : bm (e i) r &&& m < 4096 := Nat.lt_of_le_of_lt Nat.and_le_right hm
    have hb2 : m / 2 ^ i % 2 < 2 := Nat.mod_lt _ (by omega)
    have nx : (m / 2 ^ i % 2 = 1 → bm (e i) r &&& m = 0) → SW jX5_isColour E0 (Zm (Ret (bI (colB e r m)) h)) 35 [some (.ref 28), some (.int (nI m)), some (.int (nI 1)), some (.int (nI i))] [] h := fun q => by
      refine sw_iconst (v := nI 1) dX5_isColour_35 (by decide) ?_
      refine sw_goto (tgt := 40) dX5_isColour_36 (by decide) ?_
      refine sw_istore_n dX5_isColour_40 (by decide) rfl ?_
      first | refine sw_iincN (b := 1) dX5_isColour_41 rfl (by decide) rfl ?_ | refine sw_iinc dX5_isColour_41 rfl rfl (by decide) rfl ?_
      refine sw_goto (tgt := 4) dX5_isColour_44 (by decide) ?_
      exact ih (by simp only [allB, ha, Bool.true_and]; exact decide_eq_true q)
    refine sw_iload_n dX5_isColour_4 rfl ?_
    refine sw_aload_n dX5_isColour_5 rfl ?_
    refine sw_getI dX5_isColour_6 flX5_149 ⟨by decide, _, rfl, rfl⟩ ?_
    rw [hz]
    refine sw_icmpN_ge (tgt := 47) dX5_isColour_9 (by decide) (by omega) (by omega) (fun hc => ?_) (fun hc => ?_)
    · omega
    · clear hc
      refine sw_iload_n dX5_isColour_12 rfl ?_
      refine sw_if_eq (tgt := 47) dX5_isColour_13 (by decide) (fun hc => ?_) (fun hc => ?_)
      · exact absurd hc (by decide)
      · clear hc
        refine sw_iload_n dX5_isColour_16 rfl ?_
        refine sw_iload_n dX5_isColour_17 rfl ?_
        first | refine sw_ishrN dX5_isColour_18 (by omega) (by omega) ?_ | refine sw_ishr dX5_isColour_18 ?_
        refine sw_iconst (v := nI 1) dX5_isColour_19 (by decide) ?_
        first | refine sw_iand1 dX5_isColour_20 ?_ | refine sw_iand dX5_isColour_20 ?_
        refine sw_if_eq (tgt := 35) dX5_isColour_21 (by decide) (fun hc => ?_) (fun hc => ?_)
        · have q : m / 2 ^ i % 2 = 0 := (nI_eq (b := 0) (by omega) (by omega)).mp hc
          exact nx (fun w => by omega)
        · have q : ¬ m / 2 ^ i % 2 = 0 := fun w => hc (by rw [w]; rfl)
          clear hc
          refine sw_aload_n dX5_isColour_24 rfl ?_
          refine sw_getR dX5_isColour_25 flX5_41 ⟨by decide, _, rfl, rfl⟩ ?_
          refine sw_iload_n dX5_isColour_28 rfl ?_
          refine sw_iald dX5_isColour_29 rfl (by simp only [plA]; omega) ?_
          rw [h38 i hi]
          refine sw_iload_n dX5_isColour_30 rfl ?_
          refine sw_iandN dX5_isColour_31 ?_
          refine sw_if_ne (tgt := 39) dX5_isColour_32 (by decide) (fun hc => ?_) (fun hc => ?_)
          · refine sw_iconst (v := nI 0) dX5_isColour_39 (by decide) ?_
            refine sw_istore_n dX5_isColour_40 (by decide) rfl ?_
            first | refine sw_iincN (b := 1) dX5_isColour_41 rfl (by decide) rfl ?_ | refine sw_iinc dX5_isColour_41 rfl rfl (by decide) rfl ?_
            refine sw_goto (tgt := 4) dX5_isColour_44 (by decide) ?_
            refine zero1 (i + 1) (by omega) ?_
            unfold colB sqB
            rw [allB_f hi (decide_eq_false (fun w => hc (by rw [w (by omega)]; rfl))), Bool.and_false]
          · exact nx (fun _ => (nI_eq (b := 0) (by omega) (by omega)).mp hc)
theorem c_isSheetM (k l : Int32) : Ctr jX5_isSheet [.int k, .int l] h (Ret (bI (rg 0 3 k && rg 0 2 l)) h) := by
  refine ctr_start (by decide) (Nat.le_of_ble_eq_true rfl) rfl rfl ?_
  show SW jX5_isSheet E0 _ 0 [some (.int k), some (.int l)] [] _
  refine sw_iload_n dX5_isSheet_0 rfl ?_
  refine sw_i2l dX5_isSheet_1 ?_
  refine sw_lconst (v := lN 0) dX5_isSheet_2 (by decide) ?_
  refine sw_ldc2_w (v := lN 3) dX5_isSheet_3 (by decide +kernel) ?_
  refine sw_csi (c_inR (l := 0) (u := 3) (by decide) (by decide)) dX5_isSheet_6 lkX5_59 (by decide) rfl rfl (Nat.le_of_ble_eq_true rfl) ?_
  refine sw_if_eq (tgt := 28) dX5_isSheet_9 (by decide) (fun hc => ?_) (fun hc => ?_)
  · refine sw_iconst (v := nI 0) dX5_isSheet_28 (by decide) ?_
    refine sw_zret dX5_isSheet_29 rfl rfl rfl rfl ?_
    exact ⟨by rw [bI_0 hc]; rfl, rfl⟩
  · have h1 := bI_1 hc
    clear hc
    refine sw_iload_n dX5_isSheet_12 rfl ?_
    refine sw_i2l dX5_isSheet_13 ?_
    refine sw_lconst (v := lN 0) dX5_isSheet_14 (by decide) ?_
    refine sw_ldc2_w (v := lN 2) dX5_isSheet_15 (by decide +kernel) ?_
    refine sw_csi (c_inR (l := 0) (u := 2) (by decide) (by decide)) dX5_isSheet_18 lkX5_59 (by decide) rfl rfl (Nat.le_of_ble_eq_true rfl) ?_
    refine sw_if_eq (tgt := 28) dX5_isSheet_21 (by decide) (fun hc => ?_) (fun hc => ?_)
    · refine sw_iconst (v := nI 0) dX5_isSheet_28 (by decide) ?_
      refine sw_zret dX5_isSheet_29 rfl rfl rfl rfl ?_
      exact ⟨by rw [bI_0 hc, Bool.and_false]; rfl, rfl⟩
    · refine sw_iconst (v := nI 1) dX5_isSheet_24 (by decide) ?_
      refine sw_goto (tgt := 29) dX5_isSheet_25 (by decide) ?_
      refine sw_zret dX5_isSheet_29 rfl rfl rfl rfl ?_
      exact ⟨by rw [bI_1 hc, h1]; rfl, rfl⟩
end MOD
