/-! calls: looks, put, drop -/
theorem CK_new {h g : Hp} {n z n' z' : Nat} {sm lf sm' lf' : Nat → Nat} {K d : Nat} (C : CK h n z sm lf K) (hK : K < 512) (h1 : 1 ≤ d) (h2 : d ≤ 8) (e : g 1 2 = h 1 2 + nI d) (e10 : g 10 5 = h 10 5) : CK g n' z' sm' lf' (K + 1) := by
  obtain ⟨chg, c1, c2, c3, c4⟩ := C
  have e2 : g 1 2 = nI (chg + d) := by rw [e, c1, nI_add]
  refine ⟨chg + d, e2, by omega, ?_, fun q => ?_⟩
  · rw [e10]
    rcases c3 with q | ⟨s, q1, q2⟩
    · exact Or.inl q
    · exact Or.inr ⟨s, by omega, q2⟩
  · rw [e10, e2] at q
    rcases c3 with w | ⟨s, q1, q2⟩
    · rw [w] at q
      have := congrArg Int32.toInt q
      rw [nI_toInt (by omega)] at this
      exact absurd this (by rw [show (-1 : Int32).toInt = -1 by decide]; omega)
    · rw [q2] at q
      have := (nI_eq (by omega) (by omega)).mp q
      omega
def clr (lf : Nat → Nat) (z : Nat) : Nat → Nat := fun k => if 8 * z ≤ k ∧ k < 8 * z + 8 then 0 else lf k
section OPS
variable {h : Hp} {n z : Nat} {sm : Nat → Nat} {Q : Option Value → Hp → Prop}
theorem x_looks_bad {a : Int32} (ha : rg 1 6 a = false) (hQ : Q (some (.int (-1))) h) : Ctr jX4_looks [.ref 0, .int a] h Q := by
  refine ctr_start (by decide) (Nat.le_of_ble_eq_true rfl) rfl rfl ?_
  show SW jX4_looks E0 _ 0 [some (.ref 0), some (.int a), none] [] _
  refine sw_iload_n dX4_looks_0 rfl ?_
  refine sw_iconst (v := nI 1) dX4_looks_1 (by decide) ?_
  refine sw_icmp_lt (tgt := 11) dX4_looks_2 (by decide) (fun hc => ?_) (fun hc => ?_)
  · refine sw_iconst (v := (-1)) dX4_looks_11 (by decide) ?_
    refine sw_iret dX4_looks_12 rfl rfl rfl ?_
    exact hQ
  · rw [i_lt, t_N (by omega)] at hc
    have h1 := hc
    clear hc
    refine sw_iload_n dX4_looks_5 rfl ?_
    refine sw_bipush (v := nI 6) dX4_looks_6 (by decide) ?_
    refine sw_icmp_le (tgt := 13) dX4_looks_8 (by decide) (fun hc => ?_) (fun hc => ?_)
    · rw [i_le, t_N (by omega)] at hc
      exact absurd (rg_t (lo := 1) (hi := 6) (v := a) (by omega) (by omega)) (by rw [ha]; decide)
    · refine sw_iconst (v := (-1)) dX4_looks_11 (by decide) ?_
      refine sw_iret dX4_looks_12 rfl rfl rfl ?_
      exact hQ
theorem x_looks_ok (hn : h 1 0 = nI n) {k : Nat} (h1 : 1 ≤ k) (h6 : k ≤ 6) (hQ : Q (some (.int (nI n))) (hset (hset (hset h 1 0 (nI k)) 1 1 (nI 0)) 1 2 (h 1 2 + nI 1))) : Ctr jX4_looks [.ref 0, .int (nI k)] h Q := by
  refine ctr_start (by decide) (Nat.le_of_ble_eq_true rfl) rfl rfl ?_
  show SW jX4_looks E0 _ 0 [some (.ref 0), some (.int (nI k)), none] [] _
  refine sw_iload_n dX4_looks_0 rfl ?_
  refine sw_iconst (v := nI 1) dX4_looks_1 (by decide) ?_
  refine sw_icmpN_lt (tgt := 11) dX4_looks_2 (by decide) (by omega) (by omega) (fun hc => ?_) (fun hc => ?_)
  · omega
  · clear hc
    refine sw_iload_n dX4_looks_5 rfl ?_
    refine sw_bipush (v := nI 6) dX4_looks_6 (by decide) ?_
    refine sw_icmpN_le (tgt := 13) dX4_looks_8 (by decide) (by omega) (by omega) (fun hc => ?_) (fun hc => ?_)
    · refine sw_aload_n dX4_looks_13 rfl ?_
      refine sw_getR dX4_looks_14 flX4_10 ⟨by decide, _, rfl, rfl⟩ ?_
      refine sw_getNI dX4_looks_17 fnX4_37 ⟨by decide, _, rfl, rfl⟩ ?_
      rw [hn]
      refine sw_istore_n dX4_looks_20 (by decide) rfl ?_
      refine sw_aload_n dX4_looks_21 rfl ?_
      refine sw_getR dX4_looks_22 flX4_10 ⟨by decide, _, rfl, rfl⟩ ?_
      refine sw_iload_n dX4_looks_25 rfl ?_
      refine sw_cvv (i := 0) (c_begin (nI k)) dX4_looks_26 lkX4_41 (by decide) ⟨by decide, _, rfl, rfl⟩ rfl rfl rfl (Nat.le_of_ble_eq_true rfl) ?_
      refine sw_iload_n dX4_looks_29 rfl ?_
      refine sw_iret dX4_looks_30 rfl rfl rfl ?_
      exact hQ
    · omega
theorem m_looks_bad {a : Int32} (ha : rg 1 6 a = false) (hQ : Q (some (.int (-1))) h) : Ctr jX5_looks [.ref 28, .int a] h Q := by
  refine ctr_start (by decide) (Nat.le_of_ble_eq_true rfl) rfl rfl ?_
  show SW jX5_looks E0 _ 0 [some (.ref 28), some (.int a), none] [] _
  refine sw_iload_n dX5_looks_0 rfl ?_
  refine sw_i2l dX5_looks_1 ?_
  refine sw_lconst (v := lN 1) dX5_looks_2 (by decide) ?_
  refine sw_ldc2_w (v := lN 6) dX5_looks_3 (by decide +kernel) ?_
  refine sw_csi (c_inR (l := 1) (u := 6) (by decide) (by decide)) dX5_looks_6 lkX5_59 (by decide) rfl rfl (Nat.le_of_ble_eq_true rfl) ?_
  rw [ha]
  refine sw_if_ne (tgt := 14) dX5_looks_9 (by decide) (fun hc => ?_) (fun hc => ?_)
  · exact absurd rfl hc
  · refine sw_iconst (v := (-1)) dX5_looks_12 (by decide) ?_
    refine sw_iret dX5_looks_13 rfl rfl rfl ?_
    exact hQ
theorem m_looks_ok (hn : h 28 0 = nI n) {k : Nat} (h1 : 1 ≤ k) (h6 : k ≤ 6) (hQ : Q (some (.int (nI n))) (hset (hset h 28 0 (nI k)) 28 1 (nI 0))) : Ctr jX5_looks [.ref 28, .int (nI k)] h Q := by
  refine ctr_start (by decide) (Nat.le_of_ble_eq_true rfl) rfl rfl ?_
  show SW jX5_looks E0 _ 0 [some (.ref 28), some (.int (nI k)), none] [] _
  refine sw_iload_n dX5_looks_0 rfl ?_
  refine sw_i2l dX5_looks_1 ?_
  refine sw_lconst (v := lN 1) dX5_looks_2 (by decide) ?_
  refine sw_ldc2_w (v := lN 6) dX5_looks_3 (by decide +kernel) ?_
  refine sw_csi (c_inR (l := 1) (u := 6) (by decide) (by decide)) dX5_looks_6 lkX5_59 (by decide) rfl rfl (Nat.le_of_ble_eq_true rfl) ?_
  rw [rg_t (v := nI k) (by rw [t_N (by omega)]; omega) (by rw [t_N (by omega)]; omega)]
  refine sw_if_ne (tgt := 14) dX5_looks_9 (by decide) (fun hc => ?_) (fun hc => ?_)
  · refine sw_aload_n dX5_looks_14 rfl ?_
    refine sw_getI dX5_looks_15 flX5_7 ⟨by decide, _, rfl, rfl⟩ ?_
    rw [hn]
    refine sw_istore_n dX5_looks_18 (by decide) rfl ?_
    refine sw_aload_n dX5_looks_19 rfl ?_
    refine sw_iload_n dX5_looks_20 rfl ?_
    refine sw_put dX5_looks_21 fpX5_7 ⟨by decide, _, rfl, rfl⟩ rfl rfl ?_
    refine sw_aload_n dX5_looks_24 rfl ?_
    refine sw_iconst (v := nI 0) dX5_looks_25 (by decide) ?_
    refine sw_put dX5_looks_26 fpX5_56 ⟨by decide, _, rfl, rfl⟩ rfl rfl ?_
    refine sw_iload_n dX5_looks_29 rfl ?_
    refine sw_iret dX5_looks_30 rfl rfl rfl ?_
    exact hQ
  · exact absurd hc (by decide)
theorem b_looks (a : Int32) : Both jX4_looks jX5_looks [.int a] := by
  intro h K hK hI
  cases ha : rg 1 6 a with
  | false => exact ⟨-1, x_looks_bad ha ⟨rfl, m_looks_bad ha ⟨rfl, hI.up⟩⟩⟩
  | true =>
    obtain ⟨n, z, sm, lf, r, I⟩ := hI
    obtain ⟨i1, iT, iM, iW, iS, iC, iR, iH⟩ := I
    have hr := of_decide_eq_true ha
    obtain ⟨k, hk, rfl⟩ := rg_nat2 (z := 6) (c := a) (by decide) (rg_t (by omega) hr.2)
    rw [t_N (by omega)] at hr
    have hn28 := iM.1.2.2.1
    refine ⟨nI n, x_looks_ok iT.1.2.2.1 (by omega) hk ⟨rfl, ?_⟩⟩
    generalize hge : hset (hset (hset h 1 0 (nI k)) 1 1 (nI 0)) 1 2 (h 1 2 + nI 1) = g
    have eg : ∀ q, q ≠ 1 → g q = h q := fun q hq => by rw [← hge, hset_off q hq, hset_off q hq, hset_off q hq]
    have g0 : g 1 0 = nI k := by rw [← hge, hset_i (by decide), hset_i (by decide), hset_at]
    have g1 : g 1 1 = nI 0 := by rw [← hge, hset_i (by decide), hset_at]
    have g2 : g 1 2 = h 1 2 + nI 1 := by rw [← hge, hset_at]
    refine m_looks_ok (by rw [eg 28 (by decide)]; exact hn28) (by omega) hk ⟨rfl, ?_⟩
    generalize hfe : hset (hset g 28 0 (nI k)) 28 1 (nI 0) = f
    have ef : ∀ q, q ≠ 28 → f q = g q := fun q hq => by rw [← hfe, hset_off q hq, hset_off q hq]
    have efg : ∀ q, q ≠ 1 → q ≠ 28 → f q = h q := fun q h1 h2 => by rw [ef q h2, eg q h1]
    have f9 : f 28 9 = h 28 9 := by rw [← hfe, hset_i (by decide), hset_i (by decide), eg 28 (by decide)]
    refine ⟨k, 0, sm, lf, r, by omega, ⟨⟨hk, by omega, by rw [ef 1 (by decide)]; exact g0, by rw [ef 1 (by decide)]; exact g1⟩, fun c hc => absurd hc (Nat.not_lt_zero _), fun c x hc => absurd hc (Nat.not_lt_zero _), fun c j hc => absurd hc (Nat.not_lt_zero _)⟩, ⟨⟨hk, by omega, by rw [← hfe, hset_i (by decide), hset_at], by rw [← hfe, hset_at]⟩, fun c hc => absurd hc (Nat.not_lt_zero _)⟩, ⟨?_, fun c j hc => absurd hc (Nat.not_lt_zero _)⟩, ?_, CK_new (d := 1) iC hK (by omega) (by omega) (by rw [ef 1 (by decide)]; exact g2) (by rw [efg 10 (by decide) (by decide)]), RI_eq (fun q q1 q2 => efg q (by omega) (by omega)) (fun q q1 q2 => efg q (by omega) (by omega)) f9 iR, SH_eq (fun q q1 q2 => efg q (by omega) (by omega)) (fun q q1 q2 => efg q (by omega) (by omega)) iH⟩
    · rw [efg 4 (by decide) (by decide), efg 31 (by decide) (by decide)]
      exact iW.1
    · unfold SP at iS ⊢
      rw [efg 5 (by decide) (by decide), efg 32 (by decide) (by decide), efg 3 (by decide) (by decide), efg 30 (by decide) (by decide)]
      exact iS
/-! put -/
theorem x_put_bad1 (T : TX h n z sm) {a : Int32} (ha : rg 1 (((2 ^ n : Nat) : Int) - 1) a = false) (hQ : Q (some (.int (-1))) h) : Ctr jX4_put [.ref 0, .int a] h Q := by
  have h64 := pow6 T.1.1
  refine ctr_start (by decide) (Nat.le_of_ble_eq_true rfl) rfl rfl ?_
  show SW jX4_put E0 _ 0 [some (.ref 0), some (.int a)] [] _
  refine sw_iload_n dX4_put_0 rfl ?_
  refine sw_iconst (v := nI 1) dX4_put_1 (by decide) ?_
  refine sw_icmp_lt (tgt := 24) dX4_put_2 (by decide) (fun hc => ?_) (fun hc => ?_)
  · refine sw_iconst (v := (-1)) dX4_put_24 (by decide) ?_
    refine sw_iret dX4_put_25 rfl rfl rfl ?_
    exact hQ
  · rw [i_lt, t_N (by omega)] at hc
    have h1 := hc
    clear hc
    refine sw_iload_n dX4_put_5 rfl ?_
    refine sw_aload_n dX4_put_6 rfl ?_
    refine sw_getR dX4_put_7 flX4_10 ⟨by decide, _, rfl, rfl⟩ ?_
    refine sw_cvi (i := 0) (c_hiddenCount T.1.2.2.1 T.1.1) dX4_put_10 lkX4_45 (by decide) ⟨by decide, _, rfl, rfl⟩ rfl rfl rfl (Nat.le_of_ble_eq_true rfl) ?_
    refine sw_icmp_ge (tgt := 24) dX4_put_13 (by decide) (fun hc => ?_) (fun hc => ?_)
    · refine sw_iconst (v := (-1)) dX4_put_24 (by decide) ?_
      refine sw_iret dX4_put_25 rfl rfl rfl ?_
      exact hQ
    · rw [i_le, t_N (by omega)] at hc
      exact absurd (rg_t (lo := 1) (hi := ((2 ^ n : Nat) : Int) - 1) (v := a) (by omega) (by omega)) (by rw [ha]; decide)
theorem x_put_in (T : TX h n z sm) {s : Nat} (h1 : 1 ≤ s) (h2 : s < 2 ^ n) (hb : 3 < pop s → Q (some (.int (-1))) h) (hst : pop s ≤ 3 → (∃ c, c < z ∧ sm c = s) → Q (some (.int (-2))) h) (hfu : pop s ≤ 3 → (∀ c, c < z → ¬ sm c = s) → 8 ≤ z → Q (some (.int (-3))) h) (hok : pop s ≤ 3 → (∀ c, c < z → ¬ sm c = s) → z < 8 → ∀ g, addP h n z s g → g 1 1 = nI (z + 1) → g 1 2 = h 1 2 + nI 1 → Q (some (.int (nI z))) g) : Ctr jX4_put [.ref 0, .int (nI s)] h Q := by
  have h64 := pow6 T.1.1
  have hz8 := T.1.2.1
  have hp16 : pop s ≤ 16 := bs_le _ _
  refine ctr_start (by decide) (Nat.le_of_ble_eq_true rfl) rfl rfl ?_
  show SW jX4_put E0 _ 0 [some (.ref 0), some (.int (nI s))] [] _
  refine sw_iload_n dX4_put_0 rfl ?_
  refine sw_iconst (v := nI 1) dX4_put_1 (by decide) ?_
  refine sw_icmpN_lt (tgt := 24) dX4_put_2 (by decide) (by omega) (by omega) (fun hc => ?_) (fun hc => ?_)
  · omega
  · clear hc
    refine sw_iload_n dX4_put_5 rfl ?_
    refine sw_aload_n dX4_put_6 rfl ?_
    refine sw_getR dX4_put_7 flX4_10 ⟨by decide, _, rfl, rfl⟩ ?_
    refine sw_cvi (i := 0) (c_hiddenCount T.1.2.2.1 T.1.1) dX4_put_10 lkX4_45 (by decide) ⟨by decide, _, rfl, rfl⟩ rfl rfl rfl (Nat.le_of_ble_eq_true rfl) ?_
    refine sw_icmpN_ge (tgt := 24) dX4_put_13 (by decide) (by omega) (by omega) (fun hc => ?_) (fun hc => ?_)
    · omega
    · clear hc
      refine sw_iload_n dX4_put_16 rfl ?_
      refine sw_csi (c_bitCount (by omega)) dX4_put_17 lkX4_49 (by decide) rfl rfl (Nat.le_of_ble_eq_true rfl) ?_
      refine sw_iconst (v := nI 3) dX4_put_20 (by decide) ?_
      refine sw_icmpN_le (tgt := 26) dX4_put_21 (by decide) (by omega) (by omega) (fun hc => ?_) (fun hc => ?_)
      · have hp3 := hc
        clear hc
        refine sw_aload_n dX4_put_26 rfl ?_
        refine sw_getR dX4_put_27 flX4_10 ⟨by decide, _, rfl, rfl⟩ ?_
        refine sw_iload_n dX4_put_30 rfl ?_
        refine sw_cvi (i := 0) (c_hasSetOf T (nI s)) dX4_put_31 lkX4_55 (by decide) ⟨by decide, _, rfl, rfl⟩ rfl rfl rfl (Nat.le_of_ble_eq_true rfl) ?_
        refine sw_if_eq (tgt := 40) dX4_put_34 (by decide) (fun hc => ?_) (fun hc => ?_)
        · have hno := bI_0 hc
          have hall : ∀ c, c < z → ¬ sm c = s := fun c hc e => by
            rw [Bool.not_eq_false'] at hno
            have := of_decide_eq_true (allB_t.mp hno c hc)
            exact this (by rw [(T.2.1 c hc).1, e])
          clear hc
          refine sw_aload_n dX4_put_40 rfl ?_
          refine sw_getR dX4_put_41 flX4_10 ⟨by decide, _, rfl, rfl⟩ ?_
          refine sw_getNI dX4_put_44 fnX4_59 ⟨by decide, _, rfl, rfl⟩ ?_
          rw [T.1.2.2.2]
          refine sw_bipush (v := nI 8) dX4_put_47 (by decide) ?_
          refine sw_icmpN_lt (tgt := 57) dX4_put_49 (by decide) (by omega) (by omega) (fun hc => ?_) (fun hc => ?_)
          · refine sw_aload_n dX4_put_57 rfl ?_
            refine sw_getR dX4_put_58 flX4_10 ⟨by decide, _, rfl, rfl⟩ ?_
            refine sw_iload_n dX4_put_61 rfl ?_
            refine sw_callV (i := 0) (c_add3 T hc h2 hp3) dX4_put_62 lkX4_62 (by decide) ⟨by decide, _, rfl, rfl⟩ rfl rfl rfl (Nat.le_of_ble_eq_true rfl) (fun v h1 hq => ?_)
            obtain ⟨rfl, q1, q2, q3⟩ := hq
            refine sw_iret dX4_put_65 rfl rfl rfl ?_
            exact hok hp3 hall hc h1 q1 q2 q3
          · refine sw_bipush (v := (-3)) dX4_put_52 (by decide) ?_
            refine sw_goto (tgt := 65) dX4_put_54 (by decide) ?_
            refine sw_iret dX4_put_65 rfl rfl rfl ?_
            exact hfu hp3 hall hc
        · have hyes := bI_1 hc
          refine sw_bipush (v := (-2)) dX4_put_37 (by decide) ?_
          refine sw_iret dX4_put_39 rfl rfl rfl ?_
          refine hst hp3 ?_
          rw [Bool.not_eq_true'] at hyes
          refine Classical.byContradiction (fun q => ?_)
          have hall : allB (fun c => decide (¬ h 2 c = nI s)) z = true := allB_t.mpr (fun c hc => decide_eq_true (fun e => q ⟨c, hc, by
            have hs := T.s64 hc
            rw [(T.2.1 c hc).1] at e
            exact (nI_eq (by omega) (by omega)).mp e⟩))
          rw [hall] at hyes
          exact absurd hyes (by decide)
      · refine sw_iconst (v := (-1)) dX4_put_24 (by decide) ?_
        refine sw_iret dX4_put_25 rfl rfl rfl ?_
        exact hb hc
theorem m_put_bad1 (T : TM h n z sm) {a : Int32} (ha : rg 1 (((2 ^ n : Nat) : Int) - 1) a = false) (hQ : Q (some (.int (-1))) h) : Ctr jX5_put [.ref 28, .int a] h Q := by
  have h64 := pow6 T.1.1
  have hn6 := T.1.1
  refine ctr_start (by decide) (Nat.le_of_ble_eq_true rfl) rfl rfl ?_
  show SW jX5_put E0 _ 0 [some (.ref 28), some (.int a), none] [] _
  refine sw_iload_n dX5_put_0 rfl ?_
  refine sw_i2l dX5_put_1 ?_
  refine sw_lconst (v := lN 1) dX5_put_2 (by decide) ?_
  refine sw_iconst (v := nI 1) dX5_put_3 (by decide) ?_
  refine sw_aload_n dX5_put_4 rfl ?_
  refine sw_getI dX5_put_5 flX5_7 ⟨by decide, _, rfl, rfl⟩ ?_
  rw [T.1.2.2.1]
  first | refine sw_ishlN dX5_put_8 (by omega) (by omega) ?_ | refine sw_ishl dX5_put_8 ?_
  rw [Nat.one_mul]
  refine sw_iconst (v := nI 1) dX5_put_9 (by decide) ?_
  refine sw_isub dX5_put_10 ?_
  refine sw_i2l dX5_put_11 ?_
  refine sw_csi (c_inR (l := 1) (u := ((2 ^ n : Nat) : Int) - 1) (by decide) (i64S (by omega))) dX5_put_12 lkX5_59 (by decide) rfl rfl (Nat.le_of_ble_eq_true rfl) ?_
  rw [ha]
  refine sw_if_eq (tgt := 26) dX5_put_15 (by decide) (fun hc => ?_) (fun hc => ?_)
  · refine sw_iconst (v := (-1)) dX5_put_26 (by decide) ?_
    refine sw_iret dX5_put_27 rfl rfl rfl ?_
    exact hQ
  · exact absurd rfl hc
def putP (h : Hp) (z s : Nat) (g : Hp) : Prop := (∀ k, k ≠ 28 → k ≠ 29 → k ≠ 30 → k ≠ 31 → k ≠ 32 → g k = h k) ∧ (∀ i, i ≠ 1 → g 28 i = h 28 i) ∧ g 28 1 = nI (z + 1) ∧ g 29 = upd (h 29) z (nI s) ∧ g 30 = upd (h 30) z (-4) ∧ (∀ i, g 31 i = if 8 * z ≤ i ∧ i < 8 * z + 8 then nI 0 else h 31 i) ∧ ∀ i, g 32 i = if 8 * z ≤ i ∧ i < 8 * z + 8 then nI 0 else h 32 i
theorem m_put_in (T : TM h n z sm) {s : Nat} (h1 : 1 ≤ s) (h2 : s < 2 ^ n) (hb : 3 < pop s → Q (some (.int (-1))) h) (hst : pop s ≤ 3 → (∃ c, c < z ∧ sm c = s) → Q (some (.int (-2))) h) (hfu : pop s ≤ 3 → (∀ c, c < z → ¬ sm c = s) → 8 ≤ z → Q (some (.int (-3))) h) (hok : pop s ≤ 3 → (∀ c, c < z → ¬ sm c = s) → z < 8 → ∀ g, putP h z s g → Q (some (.int (nI z))) g) : Ctr jX5_put [.ref 28, .int (nI s)] h Q := by
  have h64 := pow6 T.1.1
  have hn6 := T.1.1
  have hz8 := T.1.2.1
  have hz := T.1.2.2.2
  have hp16 : pop s ≤ 16 := bs_le _ _
  refine ctr_start (by decide) (Nat.le_of_ble_eq_true rfl) rfl rfl ?_
  show SW jX5_put E0 _ 0 [some (.ref 28), some (.int (nI s)), none] [] _
  refine sw_iload_n dX5_put_0 rfl ?_
  refine sw_i2l dX5_put_1 ?_
  refine sw_lconst (v := lN 1) dX5_put_2 (by decide) ?_
  refine sw_iconst (v := nI 1) dX5_put_3 (by decide) ?_
  refine sw_aload_n dX5_put_4 rfl ?_
  refine sw_getI dX5_put_5 flX5_7 ⟨by decide, _, rfl, rfl⟩ ?_
  rw [T.1.2.2.1]
  first | refine sw_ishlN dX5_put_8 (by omega) (by omega) ?_ | refine sw_ishl dX5_put_8 ?_
  rw [Nat.one_mul]
  refine sw_iconst (v := nI 1) dX5_put_9 (by decide) ?_
  refine sw_isub dX5_put_10 ?_
  refine sw_i2l dX5_put_11 ?_
  refine sw_csi (c_inR (l := 1) (u := ((2 ^ n : Nat) : Int) - 1) (by decide) (i64S (by omega))) dX5_put_12 lkX5_59 (by decide) rfl rfl (Nat.le_of_ble_eq_true rfl) ?_
  rw [rg_t (v := nI s) (by rw [t_N (by omega)]; omega) (by rw [t_N (by omega)]; omega)]
  refine sw_if_eq (tgt := 26) dX5_put_15 (by decide) (fun hc => ?_) (fun hc => ?_)
  · exact absurd hc (by decide)
  · clear hc
    refine sw_iload_n dX5_put_18 rfl ?_
    refine sw_csi (c_bits (by omega)) dX5_put_19 lkX5_67 (by decide) rfl rfl (Nat.le_of_ble_eq_true rfl) ?_
    refine sw_iconst (v := nI 3) dX5_put_22 (by decide) ?_
    refine sw_icmpN_le (tgt := 28) dX5_put_23 (by decide) (by omega) (by omega) (fun hc => ?_) (fun hc => ?_)
    · have hp3 := hc
      clear hc
      refine sw_iconst (v := nI 0) dX5_put_28 (by decide) ?_
      refine sw_istore_n dX5_put_29 (by decide) rfl ?_
      refine lp_up (n := z) (S := fun i => (∀ c, c < i → ¬ sm c = s) → SW jX5_put E0 (Zm Q) 30 [some (.ref 28), some (.int (nI s)), some (.int (nI i))] [] h) ?_ ?_ 0 (Nat.zero_le _) (fun c hc => absurd hc (Nat.not_lt_zero _))
      · intro hall
        refine sw_iload_n dX5_put_30 rfl ?_
        refine sw_aload_n dX5_put_31 rfl ?_
        refine sw_getI dX5_put_32 flX5_56 ⟨by decide, _, rfl, rfl⟩ ?_
        rw [hz]
        refine sw_icmpN_ge (tgt := 57) dX5_put_35 (by decide) (by omega) (by omega) (fun hc => ?_) (fun hc => ?_)
        · clear hc
          refine sw_aload_n dX5_put_57 rfl ?_
          refine sw_getI dX5_put_58 flX5_56 ⟨by decide, _, rfl, rfl⟩ ?_
          rw [hz]
          refine sw_bipush (v := nI 8) dX5_put_61 (by decide) ?_
          refine sw_icmpN_ne (tgt := 69) dX5_put_63 (by decide) (by omega) (by omega) (fun hc => ?_) (fun hc => ?_)
          · have hz7 : z < 8 := by omega
            clear hc
            refine sw_aload_n dX5_put_69 rfl ?_
            refine sw_getR dX5_put_70 flX5_13 ⟨by decide, _, rfl, rfl⟩ ?_
            refine sw_aload_n dX5_put_73 rfl ?_
            refine sw_getI dX5_put_74 flX5_56 ⟨by decide, _, rfl, rfl⟩ ?_
            rw [hz]
            refine sw_iload_n dX5_put_77 rfl ?_
            refine sw_iast dX5_put_78 rfl (by simp only [plA]; omega) ?_
            refine sw_aload_n dX5_put_79 rfl ?_
            refine sw_getR dX5_put_80 flX5_17 ⟨by decide, _, rfl, rfl⟩ ?_
            refine sw_aload_n dX5_put_83 rfl ?_
            refine sw_getI dX5_put_84 flX5_56 ⟨by decide, _, rfl, rfl⟩ ?_
            rw [show hset h 29 z (nI s) 28 1 = nI z by rw [hset_k (by decide)]; exact hz]
            refine sw_bipush (v := (-4)) dX5_put_87 (by decide) ?_
            refine sw_iast dX5_put_89 rfl (by simp only [plA]; omega) ?_
            refine sw_iconst (v := nI 0) dX5_put_90 (by decide) ?_
            refine sw_istore_n dX5_put_91 (by decide) rfl ?_
            have key := lp_up (n := 8) (S := fun i => ∀ g : Hp, (∀ k, k ≠ 31 → k ≠ 32 → g k = hset (hset h 29 z (nI s)) 30 z (-4) k) → (∀ a, g 31 a = if 8 * z ≤ a ∧ a < 8 * z + i then nI 0 else h 31 a) → (∀ a, g 32 a = if 8 * z ≤ a ∧ a < 8 * z + i then nI 0 else h 32 a) → SW jX5_put E0 (Zm Q) 92 [some (.ref 28), some (.int (nI s)), some (.int (nI i))] [] g) ?_ ?_ 0 (Nat.zero_le _) _ (fun k h4 h5 => rfl) (fun a => by rw [if_neg (fun q => by omega), hset_k (by decide), hset_k (by decide)]) (fun a => by rw [if_neg (fun q => by omega), hset_k (by decide), hset_k (by decide)])
            · exact key
            · intro g hg g4 g5
              have e28 : g 28 = h 28 := by rw [hg 28 (by decide) (by decide), hset_off 28 (by decide), hset_off 28 (by decide)]
              refine sw_iload_n dX5_put_92 rfl ?_
              refine sw_bipush (v := nI 8) dX5_put_93 (by decide) ?_
              refine sw_icmpN_ge (tgt := 134) dX5_put_95 (by decide) (by omega) (by omega) (fun hc => ?_) (fun hc => ?_)
              · refine sw_aload_n dX5_put_134 rfl ?_
                refine sw_dup dX5_put_135 rfl ?_
                refine sw_getI dX5_put_136 flX5_56 ⟨by decide, _, rfl, rfl⟩ ?_
                refine sw_iconst (v := nI 1) dX5_put_139 (by decide) ?_
                rw [show g 28 1 = nI z by rw [e28]; exact hz]
                first | refine sw_iaddN dX5_put_140 ?_ | refine sw_iadd dX5_put_140 ?_
                refine sw_put dX5_put_141 fpX5_56 ⟨by decide, _, rfl, rfl⟩ rfl rfl ?_
                refine sw_aload_n dX5_put_144 rfl ?_
                refine sw_getI dX5_put_145 flX5_56 ⟨by decide, _, rfl, rfl⟩ ?_
                rw [hset_at]
                refine sw_iconst (v := nI 1) dX5_put_148 (by decide) ?_
                first | refine sw_isubN dX5_put_149 (by omega) ?_ | refine sw_isub dX5_put_149 ?_
                rw [show z + 1 - 1 = z by omega]
                refine sw_iret dX5_put_150 rfl rfl rfl ?_
                refine hok hp3 hall hz7 _ ⟨fun k k1 k2 k3 k4 k5 => ?_, fun i hi => ?_, hset_at, ?_, ?_, fun i => ?_, fun i => ?_⟩
                · rw [hset_off k k1, hg k k4 k5, hset_off k k3, hset_off k k2]
                · rw [hset_i hi, e28]
                · rw [hset_off 29 (by decide), hg 29 (by decide) (by decide), hset_off 29 (by decide), hset_same]
                · rw [hset_off 30 (by decide), hg 30 (by decide) (by decide), hset_same, hset_off 30 (by decide)]
                · rw [hset_k (by decide), g4]
                · rw [hset_k (by decide), g5]
              · omega
            · intro i hi ih g hg g4 g5
              have e28 : g 28 1 = nI z := by rw [hg 28 (by decide) (by decide), hset_off 28 (by decide), hset_off 28 (by decide)]; exact hz
              refine sw_iload_n dX5_put_92 rfl ?_
              refine sw_bipush (v := nI 8) dX5_put_93 (by decide) ?_
              refine sw_icmpN_ge (tgt := 134) dX5_put_95 (by decide) (by omega) (by omega) (fun hc => ?_) (fun hc => ?_)
              · omega
              · clear hc
                refine sw_aload_n dX5_put_98 rfl ?_
                refine sw_getR dX5_put_99 flX5_20 ⟨by decide, _, rfl, rfl⟩ ?_
                refine sw_bipush (v := nI 8) dX5_put_102 (by decide) ?_
                refine sw_aload_n dX5_put_104 rfl ?_
                refine sw_getI dX5_put_105 flX5_56 ⟨by decide, _, rfl, rfl⟩ ?_
                rw [e28]
                first | refine sw_imulN dX5_put_108 ?_ | refine sw_imul dX5_put_108 ?_
                refine sw_iload_n dX5_put_109 rfl ?_
                first | refine sw_iaddN dX5_put_110 ?_ | refine sw_iadd dX5_put_110 ?_
                refine sw_iconst (v := nI 0) dX5_put_111 (by decide) ?_
                refine sw_iast dX5_put_112 rfl (by simp only [plA]; omega) ?_
                refine sw_aload_n dX5_put_113 rfl ?_
                refine sw_getR dX5_put_114 flX5_23 ⟨by decide, _, rfl, rfl⟩ ?_
                refine sw_bipush (v := nI 8) dX5_put_117 (by decide) ?_
                refine sw_aload_n dX5_put_119 rfl ?_
                refine sw_getI dX5_put_120 flX5_56 ⟨by decide, _, rfl, rfl⟩ ?_
                rw [show hset g 31 (8 * z + i) (nI 0) 28 1 = nI z by rw [hset_k (by decide)]; exact e28]
                first | refine sw_imulN dX5_put_123 ?_ | refine sw_imul dX5_put_123 ?_
                refine sw_iload_n dX5_put_124 rfl ?_
                first | refine sw_iaddN dX5_put_125 ?_ | refine sw_iadd dX5_put_125 ?_
                refine sw_iconst (v := nI 0) dX5_put_126 (by decide) ?_
                refine sw_iast dX5_put_127 rfl (by simp only [plA]; omega) ?_
                first | refine sw_iincN (b := 1) dX5_put_128 rfl (by decide) rfl ?_ | refine sw_iinc dX5_put_128 rfl rfl (by decide) rfl ?_
                refine sw_goto (tgt := 92) dX5_put_131 (by decide) ?_
                refine ih _ (fun k k4 k5 => ?_) (fun a => ?_) (fun a => ?_)
                · rw [hset_off k k5, hset_off k k4]; exact hg k k4 k5
                · rw [hset_k (by decide), hset_eq, g4]
                  by_cases q : a = 8 * z + i
                  · rw [if_pos ⟨rfl, q⟩, if_pos (by omega)]
                  · rw [if_neg (fun r => q r.2)]
                    by_cases r : 8 * z ≤ a ∧ a < 8 * z + i
                    · rw [if_pos r, if_pos (by omega)]
                    · rw [if_neg r, if_neg (by omega)]
                · rw [hset_eq, hset_k (by decide), g5]
                  by_cases q : a = 8 * z + i
                  · rw [if_pos ⟨rfl, q⟩, if_pos (by omega)]
                  · rw [if_neg (fun r => q r.2)]
                    by_cases r : 8 * z ≤ a ∧ a < 8 * z + i
                    · rw [if_pos r, if_pos (by omega)]
                    · rw [if_neg r, if_neg (by omega)]
          · refine sw_bipush (v := (-3)) dX5_put_66 (by decide) ?_
            refine sw_iret dX5_put_68 rfl rfl rfl ?_
            exact hfu hp3 hall (by omega)
        · omega
      · intro i hi ih hall
        have hs := T.s64 hi
        refine sw_iload_n dX5_put_30 rfl ?_
        refine sw_aload_n dX5_put_31 rfl ?_
        refine sw_getI dX5_put_32 flX5_56 ⟨by decide, _, rfl, rfl⟩ ?_
        rw [hz]
        refine sw_icmpN_ge (tgt := 57) dX5_put_35 (by decide) (by omega) (by omega) (fun hc => ?_) (fun hc => ?_)
        · omega
        · clear hc
          refine sw_aload_n dX5_put_38 rfl ?_
          refine sw_getR dX5_put_39 flX5_13 ⟨by decide, _, rfl, rfl⟩ ?_
          refine sw_iload_n dX5_put_42 rfl ?_
          refine sw_iald dX5_put_43 rfl (by simp only [plA]; omega) ?_
          rw [(T.2 i hi).1]
          refine sw_iload_n dX5_put_44 rfl ?_
          refine sw_icmpN_ne (tgt := 51) dX5_put_45 (by decide) (by omega) (by omega) (fun hc => ?_) (fun hc => ?_)
          · first | refine sw_iincN (b := 1) dX5_put_51 rfl (by decide) rfl ?_ | refine sw_iinc dX5_put_51 rfl rfl (by decide) rfl ?_
            refine sw_goto (tgt := 30) dX5_put_54 (by decide) ?_
            refine ih (fun c hc => ?_)
            rcases (show c < i ∨ c = i by omega) with q | q
            · exact hall c q
            · rw [q]; assumption
          · refine sw_bipush (v := (-2)) dX5_put_48 (by decide) ?_
            refine sw_iret dX5_put_50 rfl rfl rfl ?_
            exact hst hp3 ⟨i, hi, hc⟩
    · refine sw_iconst (v := (-1)) dX5_put_26 (by decide) ?_
      refine sw_iret dX5_put_27 rfl rfl rfl ?_
      exact hb hc
theorem b_put (a : Int32) : Both jX4_put jX5_put [.int a] := by
  intro h K hK hI
  have hI0 := hI
  obtain ⟨n, z, sm, lf, r, i1, iT, iM, iW, iS, iC, iR, iH⟩ := hI
  have h64 := pow6 iT.1.1
  cases ha : rg 1 (((2 ^ n : Nat) : Int) - 1) a with
  | false => exact ⟨-1, x_put_bad1 iT ha ⟨rfl, m_put_bad1 iM ha ⟨rfl, hI0.up⟩⟩⟩
  | true =>
    have hr := of_decide_eq_true ha
    obtain ⟨s, hs, rfl⟩ := rg_nat (z := 2 ^ n) (c := a) (by omega) (rg_t (by omega) hr.2)
    rw [t_N (by omega)] at hr
    by_cases hp : 3 < pop s
    · exact ⟨-1, x_put_in iT (by omega) hs (fun _ => ⟨rfl, m_put_in iM (by omega) hs (fun _ => ⟨rfl, hI0.up⟩) (fun q => by omega) (fun q => by omega) (fun q => by omega)⟩) (fun q => by omega) (fun q => by omega) (fun q => by omega)⟩
    · by_cases he : ∃ c, c < z ∧ sm c = s
      · obtain ⟨c, hc, hcs⟩ := he
        exact ⟨-2, x_put_in iT (by omega) hs (fun q => absurd q hp) (fun _ _ => ⟨rfl, m_put_in iM (by omega) hs (fun q => absurd q hp) (fun _ _ => ⟨rfl, hI0.up⟩) (fun _ q => absurd hcs (q c hc)) (fun _ q => absurd hcs (q c hc))⟩) (fun _ q => absurd hcs (q c hc)) (fun _ q => absurd hcs (q c hc))⟩
      · by_cases hz8 : 8 ≤ z
        · exact ⟨-3, x_put_in iT (by omega) hs (fun q => absurd q hp) (fun _ q => absurd q he) (fun _ _ _ => ⟨rfl, m_put_in iM (by omega) hs (fun q => absurd q hp) (fun _ q => absurd q he) (fun _ _ _ => ⟨rfl, hI0.up⟩) (fun _ _ q => by omega)⟩) (fun _ _ q => by omega)⟩
        · refine ⟨nI z, x_put_in iT (by omega) hs (fun q => absurd q hp) (fun _ q => absurd q he) (fun _ _ q => absurd q hz8) (fun hp3 _ hz7 g gA g1 g2 => ⟨rfl, ?_⟩)⟩
          obtain ⟨a0, a1, a2, a3, a4, a5, a6, a7, a8, a9⟩ := gA
          have iM' : TM g n z sm := TM_keep iM (by rw [a0 28 (by decide) (by decide) (by decide) (by decide) (by decide) (by decide) (by decide)]) (by rw [a0 28 (by decide) (by decide) (by decide) (by decide) (by decide) (by decide) (by decide)]) (a0 29 (by decide) (by decide) (by decide) (by decide) (by decide) (by decide) (by decide))
          refine m_put_in iM' (by omega) hs (fun q => absurd q hp) (fun _ q => absurd q he) (fun _ _ q => absurd q hz8) (fun _ _ _ f fP => ⟨rfl, ?_⟩)
          obtain ⟨b0, b1, b2, b3, b4, b5, b6⟩ := fP
          have e0 : ∀ k, 8 ≤ k → k ≤ 27 ∨ 33 ≤ k → f k = h k := fun k k1 k2 => by rw [b0 k (by omega) (by omega) (by omega) (by omega) (by omega), a0 k (by omega) (by omega) (by omega) (by omega) (by omega) (by omega) (by omega)]
          have ec : ∀ k, 1 ≤ k → k ≤ 7 → f k = g k := fun k k1 k2 => b0 k (by omega) (by omega) (by omega) (by omega) (by omega)
          have e28 : g 28 = h 28 := a0 28 (by decide) (by decide) (by decide) (by decide) (by decide) (by decide) (by decide)
          have o31 : g 31 = h 31 := a0 31 (by decide) (by decide) (by decide) (by decide) (by decide) (by decide) (by decide)
          have o32 : g 32 = h 32 := a0 32 (by decide) (by decide) (by decide) (by decide) (by decide) (by decide) (by decide)
          have o30 : g 30 = h 30 := a0 30 (by decide) (by decide) (by decide) (by decide) (by decide) (by decide) (by decide)
          have o29 : g 29 = h 29 := a0 29 (by decide) (by decide) (by decide) (by decide) (by decide) (by decide) (by decide)
          have hsz : ∀ c, c < z → upN sm z s c = sm c := fun c hc => by unfold upN; rw [if_neg (by omega)]
          have hzz : upN sm z s z = s := by unfold upN; rw [if_pos rfl]
          refine ⟨n, z + 1, upN sm z s, (clr lf z), r, i1, ⟨⟨iT.1.1, by omega, ?_, ?_⟩, fun c hc => ?_, fun c x hc hx => ?_, fun c j hc hj => ?_⟩, ⟨⟨iT.1.1, by omega, ?_, ?_⟩, fun c hc => ?_⟩, ⟨fun k hk => ⟨?_, ?_, ?_⟩, fun c j hc h1 h2 => ?_⟩, ⟨fun k hk => ?_, fun c hc => ?_⟩, CK_new (d := 1) iC hK (by omega) (by omega) (by rw [ec 1 (by decide) (by decide)]; exact g2) (by rw [e0 10 (by decide) (by decide)]), RI_eq (fun q q1 q2 => e0 q (by omega) (by omega)) (fun q q1 q2 => e0 q (by omega) (by omega)) (by rw [b1 9 (by decide), e28]) iR, SH_eq (fun q q1 q2 => e0 q (by omega) (by omega)) (fun q q1 q2 => e0 q (by omega) (by omega)) iH⟩
          · rw [ec 1 (by decide) (by decide), a1]; exact iT.1.2.2.1
          · rw [ec 1 (by decide) (by decide)]; exact g1
          · rw [ec 2 (by decide) (by decide), a2]
            rcases (show c < z ∨ c = z by omega) with q | q
            · rw [hsz c q, pk_un (by omega)]; exact iT.2.1 c q
            · subst q; rw [hzz, pk_us]; exact ⟨rfl, by omega, hs, hp3⟩
          · rw [ec 7 (by decide) (by decide)]
            rcases (show c < z ∨ c = z by omega) with q | q
            · rw [hsz c q, a7 _ (by omega)]; exact iT.2.2.1 c x q hx
            · subst q; rw [hzz]; exact a6 x hx
          · rw [ec 6 (by decide) (by decide)]
            rcases (show c < z ∨ c = z by omega) with q | q
            · rw [hsz c q] at hj ⊢
              have := pow3 (iT.2.1 c q).2.2.2
              rw [a9 _ (by omega)]; exact iT.2.2.2 c j q hj
            · subst q
              rw [hzz] at hj ⊢
              have hj8 := pow3 hp3
              obtain ⟨w1, w2⟩ := jnt_dp s (by omega) j (by omega) hj
              have := a8 (dp s j 6) (by omega)
              rw [w1] at this
              exact this
          · rw [b1 0 (by decide), e28]; exact iM.1.2.2.1
          · exact b2
          · rw [b3, o29]
            rcases (show c < z ∨ c = z by omega) with q | q
            · rw [hsz c q, pk_un (by omega)]; exact iM.2 c q
            · subst q; rw [hzz, pk_us]; exact ⟨rfl, by omega, hs, hp3⟩
          · rw [ec 4 (by decide) (by decide), a4]
            unfold clr
            by_cases q : 8 * z ≤ k ∧ k < 8 * z + 8
            · rw [if_pos q, if_pos q]
            · rw [if_neg q, if_neg q]; exact (iW.1 k hk).1
          · rw [b5, o31]
            unfold clr
            by_cases q : 8 * z ≤ k ∧ k < 8 * z + 8
            · rw [if_pos q, if_pos q]
            · rw [if_neg q, if_neg q]; exact (iW.1 k hk).2.1
          · have := (iW.1 k hk).2.2
            unfold clr
            split <;> omega
          · unfold clr
            rcases (show c < z ∨ c = z by omega) with q | q
            · rw [if_neg (by omega)]
              rw [hsz c q] at h1
              exact iW.2 c j q h1 h2
            · rw [if_pos (by omega)]
          · rw [ec 5 (by decide) (by decide), a5, b6, o32, iS.1 k hk]
          · rw [ec 3 (by decide) (by decide), a3, b4, o30]
            by_cases q : c = z
            · rw [q, pk_us, pk_us]; exact ⟨rfl, Or.inr (Or.inr rfl)⟩
            · rw [pk_un q, pk_un q]; exact iS.2 c hc
end OPS
