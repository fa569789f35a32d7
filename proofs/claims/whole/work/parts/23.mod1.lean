/-! the reference: its own methods -/
theorem c_inR {h : Hp} {a : Int32} {lo hi : Int64} {l u : Int} (hl : lo.toInt = l) (hu : hi.toInt = u) : Ctr jX5_in [.long a.toInt64, .long lo, .long hi] h (Ret (bI (rg l u a)) h) := by
  have h1 := c_in (h := h) (a := a.toInt64) (b := lo) (c := hi)
  have e : (if lo ≤ a.toInt64 ∧ a.toInt64 ≤ hi then nI 1 else nI 0) = bI (rg l u a) := by
    have hiff : (lo ≤ a.toInt64 ∧ a.toInt64 ≤ hi) ↔ (l ≤ a.toInt ∧ a.toInt ≤ u) := by
      rw [Int64.le_iff_toInt_le, Int64.le_iff_toInt_le, Int32.toInt_toInt64, hl, hu]
    unfold rg bI
    by_cases q : l ≤ a.toInt ∧ a.toInt ≤ u
    · rw [if_pos (hiff.mpr q), decide_eq_true q]; rfl
    · rw [if_neg (fun w => q (hiff.mp w)), decide_eq_false q]; rfl
  rw [e] at h1
  exact h1
theorem i64N {k : Nat} (hk : k < 2 ^ 31) : (nI k).toInt64.toInt = (k : Int) := by rw [Int32.toInt_toInt64, nI_toInt hk]
theorem i64S {k : Nat} (hk : k < 2 ^ 30) : (nI k - nI 1).toInt64.toInt = (k : Int) - 1 := by
  rw [Int32.toInt_toInt64, pk_sub_toInt hk (by omega)]
  rfl
theorem lN_k {k : Nat} (hk : k < 2 ^ 31) : (lN k).toInt = (k : Int) := lN_toInt hk
def TM (h : Hp) (n z : Nat) (sm : Nat → Nat) : Prop := (n ≤ 6 ∧ z ≤ 8 ∧ h 28 0 = nI n ∧ h 28 1 = nI z) ∧ ∀ c, c < z → h 29 c = nI (sm c) ∧ 1 ≤ sm c ∧ sm c < 2 ^ n ∧ pop (sm c) ≤ 3
theorem TM.s64 {h : Hp} {n z : Nat} {sm : Nat → Nat} (T : TM h n z sm) {c : Nat} (hc : c < z) : sm c < 64 := Nat.lt_of_lt_of_le (T.2 c hc).2.2.1 (pow6 T.1.1)
theorem TM.j8 {h : Hp} {n z : Nat} {sm : Nat → Nat} (T : TM h n z sm) {c : Nat} (hc : c < z) (x : Nat) : jnt (sm c) x < 8 := Nat.lt_of_lt_of_le (jnt_lt (T.s64 hc) x) (pow3 (T.2 c hc).2.2.2)
theorem bit_hi {s n k : Nat} (hs : s < 2 ^ n) (hk : n ≤ k) : s / 2 ^ k % 2 = 0 := by
  rw [Nat.div_eq_of_lt (Nat.lt_of_lt_of_le hs (Nat.pow_le_pow_right (by omega) hk))]
theorem jn_stop {s x n : Nat} (hs : s < 2 ^ n) : ∀ d, jn s x (n + d) = jn s x n
  | 0 => rfl
  | d + 1 => by
    rw [← Nat.add_assoc]
    simp only [jn]
    rw [bit_hi hs (by omega), if_neg (by decide), Nat.add_zero, jn_stop hs d]
theorem jn_n {s x n : Nat} (hs : s < 2 ^ n) (hn : n ≤ 6) : jn s x n = jnt s x := by
  have := jn_stop (x := x) hs (6 - n)
  rw [show n + (6 - n) = 6 by omega] at this
  exact this.symm
section MOD
variable {h : Hp} {n z : Nat} {sm : Nat → Nat}
theorem c_hiddenMany (hn : h 28 0 = nI n) (hn6 : n ≤ 6) : Ctr jX5_hiddenMany [.ref 28] h (Ret (nI (2 ^ n)) h) := by
  have h1 := pow6 hn6
  refine ctr_start (by decide) (Nat.le_of_ble_eq_true rfl) rfl rfl ?_
  show SW jX5_hiddenMany E0 _ 0 [some (.ref 28)] [] _
  refine sw_iconst (v := nI 1) dX5_hiddenMany_0 (by decide) ?_
  refine sw_aload_n dX5_hiddenMany_1 rfl ?_
  refine sw_getI dX5_hiddenMany_2 flX5_7 ⟨by decide, _, rfl, rfl⟩ ?_
  rw [hn]
  first | refine sw_ishlN dX5_hiddenMany_5 (by omega) (by omega) ?_ | refine sw_ishl dX5_hiddenMany_5 ?_
  refine sw_iret dX5_hiddenMany_6 rfl rfl rfl ?_
  rw [Nat.one_mul]
  exact ⟨rfl, rfl⟩
theorem c_isSet (hz8 : z ≤ 8) (hz : h 28 1 = nI z) (c : Int32) : Ctr jX5_isSet [.ref 28, .int c] h (Ret (bI (rg 0 ((z : Int) - 1) c)) h) := by
  refine ctr_start (by decide) (Nat.le_of_ble_eq_true rfl) rfl rfl ?_
  show SW jX5_isSet E0 _ 0 [some (.ref 28), some (.int c)] [] _
  refine sw_iload_n dX5_isSet_0 rfl ?_
  refine sw_i2l dX5_isSet_1 ?_
  refine sw_lconst (v := lN 0) dX5_isSet_2 (by decide) ?_
  refine sw_aload_n dX5_isSet_3 rfl ?_
  refine sw_getI dX5_isSet_4 flX5_56 ⟨by decide, _, rfl, rfl⟩ ?_
  rw [hz]
  refine sw_iconst (v := nI 1) dX5_isSet_7 (by decide) ?_
  refine sw_isub dX5_isSet_8 ?_
  refine sw_i2l dX5_isSet_9 ?_
  refine sw_csi (c_inR (l := 0) (u := (z : Int) - 1) (by decide) (i64S (by omega))) dX5_isSet_10 lkX5_59 (by decide) rfl rfl (Nat.le_of_ble_eq_true rfl) ?_
  refine sw_zret dX5_isSet_13 rfl rfl rfl (bI_nar _) ?_
  exact ⟨rfl, rfl⟩
theorem c_isJoint (T : TM h n z sm) (c j : Int32) : Ctr jX5_isJoint [.ref 28, .int c, .int j] h (Ret (bI (rg 0 ((z : Int) - 1) c && rg 0 (((2 ^ pop (sm c.toNatClampNeg) : Nat) : Int) - 1) j)) h) := by
  have hz8 := T.1.2.1
  refine ctr_start (by decide) (Nat.le_of_ble_eq_true rfl) rfl rfl ?_
  show SW jX5_isJoint E0 _ 0 [some (.ref 28), some (.int c), some (.int j)] [] _
  refine sw_aload_n dX5_isJoint_0 rfl ?_
  refine sw_iload_n dX5_isJoint_1 rfl ?_
  refine sw_cvi (i := 0) (c_isSet hz8 T.1.2.2.2 c) dX5_isJoint_2 lkX5_63 (by decide) ⟨by decide, _, rfl, rfl⟩ rfl rfl rfl (Nat.le_of_ble_eq_true rfl) ?_
  refine sw_if_eq (tgt := 35) dX5_isJoint_5 (by decide) (fun hc => ?_) (fun hc => ?_)
  · have hx := bI_0 hc
    refine sw_iconst (v := nI 0) dX5_isJoint_35 (by decide) ?_
    refine sw_zret dX5_isJoint_36 rfl rfl rfl rfl ?_
    exact ⟨by rw [hx]; rfl, rfl⟩
  · have hx := bI_1 hc
    obtain ⟨k, hk, rfl⟩ := rg_nat (by omega) hx
    rw [nI_clamp (by omega), hx]
    have hp3 := (T.2 k hk).2.2.2
    have hp := pow3 hp3
    have h64 := T.s64 hk
    clear hc
    refine sw_iload_n dX5_isJoint_8 rfl ?_
    refine sw_i2l dX5_isJoint_9 ?_
    refine sw_lconst (v := lN 0) dX5_isJoint_10 (by decide) ?_
    refine sw_iconst (v := nI 1) dX5_isJoint_11 (by decide) ?_
    refine sw_aload_n dX5_isJoint_12 rfl ?_
    refine sw_getR dX5_isJoint_13 flX5_13 ⟨by decide, _, rfl, rfl⟩ ?_
    refine sw_iload_n dX5_isJoint_16 rfl ?_
    refine sw_iald dX5_isJoint_17 rfl (by simp only [plA]; omega) ?_
    rw [(T.2 k hk).1]
    refine sw_csi (c_bits (by omega)) dX5_isJoint_18 lkX5_67 (by decide) rfl rfl (Nat.le_of_ble_eq_true rfl) ?_
    first | refine sw_ishlN dX5_isJoint_21 (by omega) (by omega) ?_ | refine sw_ishl dX5_isJoint_21 ?_
    rw [Nat.one_mul]
    refine sw_iconst (v := nI 1) dX5_isJoint_22 (by decide) ?_
    refine sw_isub dX5_isJoint_23 ?_
    refine sw_i2l dX5_isJoint_24 ?_
    refine sw_csi (c_inR (l := 0) (u := ((2 ^ pop (sm k) : Nat) : Int) - 1) (by decide) (i64S (by omega))) dX5_isJoint_25 lkX5_59 (by decide) rfl rfl (Nat.le_of_ble_eq_true rfl) ?_
    refine sw_if_eq (tgt := 35) dX5_isJoint_28 (by decide) (fun hc => ?_) (fun hc => ?_)
    · refine sw_iconst (v := nI 0) dX5_isJoint_35 (by decide) ?_
      refine sw_zret dX5_isJoint_36 rfl rfl rfl rfl ?_
      exact ⟨by rw [bI_0 hc]; rfl, rfl⟩
    · refine sw_iconst (v := nI 1) dX5_isJoint_31 (by decide) ?_
      refine sw_goto (tgt := 36) dX5_isJoint_32 (by decide) ?_
      refine sw_zret dX5_isJoint_36 rfl rfl rfl rfl ?_
      exact ⟨by rw [bI_1 hc]; rfl, rfl⟩
theorem c_jointOf (T : TM h n z sm) {c x : Nat} (hc : c < z) (hx : x < 64) : Ctr jX5_jointOf [.ref 28, .int (nI c), .int (nI x)] h (Ret (nI (jnt (sm c) x)) h) := by
  obtain ⟨⟨hn6, hz8, hn, hz⟩, hs⟩ := T
  obtain ⟨s1, s2, s3, s4⟩ := hs c hc
  have h64 := pow6 hn6
  rw [← jn_n (x := x) s3 hn6]
  have hcc := hc
  clear hc
  refine ctr_start (by decide) (Nat.le_of_ble_eq_true rfl) rfl rfl ?_
  show SW jX5_jointOf E0 _ 0 [some (.ref 28), some (.int (nI c)), some (.int (nI x)), none, none, none] [] _
  refine sw_iconst (v := nI 0) dX5_jointOf_0 (by decide) ?_
  refine sw_istore_n dX5_jointOf_1 (by decide) rfl ?_
  refine sw_iconst (v := nI 0) dX5_jointOf_2 (by decide) ?_
  refine sw_istore dX5_jointOf_3 (by decide) rfl ?_
  refine sw_iconst (v := nI 0) dX5_jointOf_5 (by decide) ?_
  refine sw_istore dX5_jointOf_6 (by decide) rfl ?_
  refine lp_up (n := n) (S := fun i => SW jX5_jointOf E0 (Zm (Ret (nI (jn (sm c) x n)) h)) 8 [some (.ref 28), some (.int (nI c)), some (.int (nI x)), some (.int (nI (jn (sm c) x i))), some (.int (nI (bs (sm c) i))), some (.int (nI i))] [] h) ?_ ?_ 0 (Nat.zero_le _)
  · refine sw_iload dX5_jointOf_8 rfl ?_
    refine sw_aload_n dX5_jointOf_10 rfl ?_
    refine sw_getI dX5_jointOf_11 flX5_7 ⟨by decide, _, rfl, rfl⟩ ?_
    rw [hn]
    refine sw_icmpN_ge (tgt := 53) dX5_jointOf_14 (by decide) (by omega) (by omega) (fun hc => ?_) (fun hc => ?_)
    · refine sw_iload_n dX5_jointOf_53 rfl ?_
      refine sw_iret dX5_jointOf_54 rfl rfl rfl ?_
      exact ⟨rfl, rfl⟩
    · omega
  · intro i hi ih
    refine sw_iload dX5_jointOf_8 rfl ?_
    refine sw_aload_n dX5_jointOf_10 rfl ?_
    refine sw_getI dX5_jointOf_11 flX5_7 ⟨by decide, _, rfl, rfl⟩ ?_
    rw [hn]
    refine sw_icmpN_ge (tgt := 53) dX5_jointOf_14 (by decide) (by omega) (by omega) (fun hc => ?_) (fun hc => ?_)
    · omega
    · have hb := bs_le (sm c) i
      have hm : x / 2 ^ i % 2 < 2 := Nat.mod_lt _ (by omega)
      have hq : x / 2 ^ i % 2 * 2 ^ bs (sm c) i < 2 ^ 32 := by
        have q1 : (2 : Nat) ^ bs (sm c) i ≤ 2 ^ 6 := Nat.pow_le_pow_right (by omega) (by omega)
        have q2 : x / 2 ^ i % 2 * 2 ^ bs (sm c) i ≤ 1 * 2 ^ 6 := Nat.mul_le_mul (by omega) q1
        omega
      clear hc
      refine sw_aload_n dX5_jointOf_17 rfl ?_
      refine sw_getR dX5_jointOf_18 flX5_13 ⟨by decide, _, rfl, rfl⟩ ?_
      refine sw_iload_n dX5_jointOf_21 rfl ?_
      refine sw_iald dX5_jointOf_22 rfl (by simp only [plA]; omega) ?_
      rw [s1]
      refine sw_iload dX5_jointOf_23 rfl ?_
      first | refine sw_ishrN dX5_jointOf_25 (by omega) (by omega) ?_ | refine sw_ishr dX5_jointOf_25 ?_
      refine sw_iconst (v := nI 1) dX5_jointOf_26 (by decide) ?_
      first | refine sw_iand1 dX5_jointOf_27 ?_ | refine sw_iand dX5_jointOf_27 ?_
      refine sw_iconst (v := nI 1) dX5_jointOf_28 (by decide) ?_
      refine sw_icmpN_ne (tgt := 47) dX5_jointOf_29 (by decide) (by omega) (by omega) (fun hc => ?_) (fun hc => ?_)
      · rw [jn_no (sm c) x i hc, bs_no (sm c) i hc] at *
        first | refine sw_iincN (b := 1) dX5_jointOf_47 rfl (by decide) rfl ?_ | refine sw_iinc dX5_jointOf_47 rfl rfl (by decide) rfl ?_
        refine sw_goto (tgt := 8) dX5_jointOf_50 (by decide) ?_
        exact ih
      · refine sw_iload_n dX5_jointOf_32 rfl ?_
        refine sw_iload_n dX5_jointOf_33 rfl ?_
        refine sw_iload dX5_jointOf_34 rfl ?_
        first | refine sw_ishrN dX5_jointOf_36 (by omega) (by omega) ?_ | refine sw_ishr dX5_jointOf_36 ?_
        refine sw_iconst (v := nI 1) dX5_jointOf_37 (by decide) ?_
        first | refine sw_iand1 dX5_jointOf_38 ?_ | refine sw_iand dX5_jointOf_38 ?_
        refine sw_iload dX5_jointOf_39 rfl ?_
        first | refine sw_ishlN dX5_jointOf_41 (by omega) hq ?_ | refine sw_ishl dX5_jointOf_41 ?_
        refine sw_iorN dX5_jointOf_42 ?_
        rw [jn_or (sm c) x i hc]
        refine sw_istore_n dX5_jointOf_43 (by decide) rfl ?_
        first | refine sw_iincN (b := 1) dX5_jointOf_44 rfl (by decide) rfl ?_ | refine sw_iinc dX5_jointOf_44 rfl rfl (by decide) rfl ?_
        rw [bs_yes (sm c) i hc]
        first | refine sw_iincN (b := 1) dX5_jointOf_47 rfl (by decide) rfl ?_ | refine sw_iinc dX5_jointOf_47 rfl rfl (by decide) rfl ?_
        refine sw_goto (tgt := 8) dX5_jointOf_50 (by decide) ?_
        exact ih
theorem c_sumOf {c : Nat} (hc : c < 8) : Ctr jX5_sumOf [.ref 28, .int (nI c)] h (Ret (sI (fun j => h 31 (8 * c + j)) 8) h) := by
  have hcc := hc
  clear hc
  refine ctr_start (by decide) (Nat.le_of_ble_eq_true rfl) rfl rfl ?_
  show SW jX5_sumOf E0 _ 0 [some (.ref 28), some (.int (nI c)), none, none] [] _
  refine sw_iconst (v := nI 0) dX5_sumOf_0 (by decide) ?_
  refine sw_istore_n dX5_sumOf_1 (by decide) rfl ?_
  refine sw_iconst (v := nI 0) dX5_sumOf_2 (by decide) ?_
  refine sw_istore_n dX5_sumOf_3 (by decide) rfl ?_
  refine lp_up (n := 8) (S := fun i => SW jX5_sumOf E0 (Zm (Ret (sI (fun j => h 31 (8 * c + j)) 8) h)) 4 [some (.ref 28), some (.int (nI c)), some (.int (sI (fun j => h 31 (8 * c + j)) i)), some (.int (nI i))] [] h) ?_ ?_ 0 (Nat.zero_le _)
  · refine sw_iload_n dX5_sumOf_4 rfl ?_
    refine sw_bipush (v := nI 8) dX5_sumOf_5 (by decide) ?_
    refine sw_icmpN_ge (tgt := 30) dX5_sumOf_7 (by decide) (by omega) (by omega) (fun hc => ?_) (fun hc => ?_)
    · refine sw_iload_n dX5_sumOf_30 rfl ?_
      refine sw_iret dX5_sumOf_31 rfl rfl rfl ?_
      exact ⟨rfl, rfl⟩
    · omega
  · intro i hi ih
    refine sw_iload_n dX5_sumOf_4 rfl ?_
    refine sw_bipush (v := nI 8) dX5_sumOf_5 (by decide) ?_
    refine sw_icmpN_ge (tgt := 30) dX5_sumOf_7 (by decide) (by omega) (by omega) (fun hc => ?_) (fun hc => ?_)
    · omega
    · refine sw_iload_n dX5_sumOf_10 rfl ?_
      refine sw_aload_n dX5_sumOf_11 rfl ?_
      refine sw_getR dX5_sumOf_12 flX5_20 ⟨by decide, _, rfl, rfl⟩ ?_
      refine sw_bipush (v := nI 8) dX5_sumOf_15 (by decide) ?_
      refine sw_iload_n dX5_sumOf_17 rfl ?_
      first | refine sw_imulN dX5_sumOf_18 ?_ | refine sw_imul dX5_sumOf_18 ?_
      refine sw_iload_n dX5_sumOf_19 rfl ?_
      first | refine sw_iaddN dX5_sumOf_20 ?_ | refine sw_iadd dX5_sumOf_20 ?_
      refine sw_iald dX5_sumOf_21 rfl (by simp only [plA]; omega) ?_
      refine sw_iadd dX5_sumOf_22 ?_
      refine sw_istore_n dX5_sumOf_23 (by decide) rfl ?_
      first | refine sw_iincN (b := 1) dX5_sumOf_24 rfl (by decide) rfl ?_ | refine sw_iinc dX5_sumOf_24 rfl rfl (by decide) rfl ?_
      refine sw_goto (tgt := 4) dX5_sumOf_27 (by decide) ?_
      exact ih
theorem c_stakeOf (T : TM h n z sm) {x : Nat} (hx : x < 64) : Ctr jX5_stakeOf [.ref 28, .int (nI x)] h (Ret (sI (fun c => h 32 (8 * c + jnt (sm c) x)) z) h) := by
  have hz8 := T.1.2.1
  have hz := T.1.2.2.2
  refine ctr_start (by decide) (Nat.le_of_ble_eq_true rfl) rfl rfl ?_
  show SW jX5_stakeOf E0 _ 0 [some (.ref 28), some (.int (nI x)), none, none] [] _
  refine sw_iconst (v := nI 0) dX5_stakeOf_0 (by decide) ?_
  refine sw_istore_n dX5_stakeOf_1 (by decide) rfl ?_
  refine sw_iconst (v := nI 0) dX5_stakeOf_2 (by decide) ?_
  refine sw_istore_n dX5_stakeOf_3 (by decide) rfl ?_
  refine lp_up (n := z) (S := fun i => SW jX5_stakeOf E0 (Zm (Ret (sI (fun c => h 32 (8 * c + jnt (sm c) x)) z) h)) 4 [some (.ref 28), some (.int (nI x)), some (.int (sI (fun c => h 32 (8 * c + jnt (sm c) x)) i)), some (.int (nI i))] [] h) ?_ ?_ 0 (Nat.zero_le _)
  · refine sw_iload_n dX5_stakeOf_4 rfl ?_
    refine sw_aload_n dX5_stakeOf_5 rfl ?_
    refine sw_getI dX5_stakeOf_6 flX5_56 ⟨by decide, _, rfl, rfl⟩ ?_
    rw [hz]
    refine sw_icmpN_ge (tgt := 37) dX5_stakeOf_9 (by decide) (by omega) (by omega) (fun hc => ?_) (fun hc => ?_)
    · refine sw_iload_n dX5_stakeOf_37 rfl ?_
      refine sw_iret dX5_stakeOf_38 rfl rfl rfl ?_
      exact ⟨rfl, rfl⟩
    · omega
  · intro i hi ih
    have hj := T.j8 hi x
    refine sw_iload_n dX5_stakeOf_4 rfl ?_
    refine sw_aload_n dX5_stakeOf_5 rfl ?_
    refine sw_getI dX5_stakeOf_6 flX5_56 ⟨by decide, _, rfl, rfl⟩ ?_
    rw [hz]
    refine sw_icmpN_ge (tgt := 37) dX5_stakeOf_9 (by decide) (by omega) (by omega) (fun hc => ?_) (fun hc => ?_)
    · omega
    · clear hc
      refine sw_iload_n dX5_stakeOf_12 rfl ?_
      refine sw_aload_n dX5_stakeOf_13 rfl ?_
      refine sw_getR dX5_stakeOf_14 flX5_23 ⟨by decide, _, rfl, rfl⟩ ?_
      refine sw_bipush (v := nI 8) dX5_stakeOf_17 (by decide) ?_
      refine sw_iload_n dX5_stakeOf_19 rfl ?_
      first | refine sw_imulN dX5_stakeOf_20 ?_ | refine sw_imul dX5_stakeOf_20 ?_
      refine sw_aload_n dX5_stakeOf_21 rfl ?_
      refine sw_iload_n dX5_stakeOf_22 rfl ?_
      refine sw_iload_n dX5_stakeOf_23 rfl ?_
      refine sw_cvi (i := 0) (c_jointOf T hi hx) dX5_stakeOf_24 lkX5_92 (by decide) ⟨by decide, _, rfl, rfl⟩ rfl rfl rfl (Nat.le_of_ble_eq_true rfl) ?_
      first | refine sw_iaddN dX5_stakeOf_27 ?_ | refine sw_iadd dX5_stakeOf_27 ?_
      refine sw_iald dX5_stakeOf_28 rfl (by simp only [plA]; omega) ?_
      refine sw_iadd dX5_stakeOf_29 ?_
      refine sw_istore_n dX5_stakeOf_30 (by decide) rfl ?_
      first | refine sw_iincN (b := 1) dX5_stakeOf_31 rfl (by decide) rfl ?_ | refine sw_iinc dX5_stakeOf_31 rfl rfl (by decide) rfl ?_
      refine sw_goto (tgt := 4) dX5_stakeOf_34 (by decide) ?_
      exact ih
abbrev stM (h : Hp) (z : Nat) (sm : Nat → Nat) (x : Nat) : Int32 := sI (fun c => h 32 (8 * c + jnt (sm c) x)) z
theorem c_bestOf (T : TM h n z sm) : Ctr jX5_bestOf [.ref 28] h (Ret (nI (bst (stM h z sm) (2 ^ n - 1))) h) := by
  have h64 := pow6 T.1.1
  have hpos : 0 < 2 ^ n := Nat.two_pow_pos n
  refine ctr_start (by decide) (Nat.le_of_ble_eq_true rfl) rfl rfl ?_
  show SW jX5_bestOf E0 _ 0 [some (.ref 28), none, none] [] _
  refine sw_iconst (v := nI 0) dX5_bestOf_0 (by decide) ?_
  refine sw_istore_n dX5_bestOf_1 (by decide) rfl ?_
  refine sw_iconst (v := nI 1) dX5_bestOf_2 (by decide) ?_
  refine sw_istore_n dX5_bestOf_3 (by decide) rfl ?_
  refine lp_up (n := 2 ^ n - 1) (S := fun i => SW jX5_bestOf E0 (Zm (Ret (nI (bst (stM h z sm) (2 ^ n - 1))) h)) 4 [some (.ref 28), some (.int (nI (bst (stM h z sm) i))), some (.int (nI (i + 1)))] [] h) ?_ ?_ 0 (Nat.zero_le _)
  · refine sw_iload_n dX5_bestOf_4 rfl ?_
    refine sw_aload_n dX5_bestOf_5 rfl ?_
    refine sw_cvi (i := 0) (c_hiddenMany T.1.2.2.1 T.1.1) dX5_bestOf_6 lkX5_88 (by decide) ⟨by decide, _, rfl, rfl⟩ rfl rfl rfl (Nat.le_of_ble_eq_true rfl) ?_
    refine sw_icmpN_ge (tgt := 37) dX5_bestOf_9 (by decide) (by omega) (by omega) (fun hc => ?_) (fun hc => ?_)
    · refine sw_iload_n dX5_bestOf_37 rfl ?_
      refine sw_iret dX5_bestOf_38 rfl rfl rfl ?_
      exact ⟨rfl, rfl⟩
    · omega
  · intro i hi ih
    have hbl := bst_le (stM h z sm) i
    refine sw_iload_n dX5_bestOf_4 rfl ?_
    refine sw_aload_n dX5_bestOf_5 rfl ?_
    refine sw_cvi (i := 0) (c_hiddenMany T.1.2.2.1 T.1.1) dX5_bestOf_6 lkX5_88 (by decide) ⟨by decide, _, rfl, rfl⟩ rfl rfl rfl (Nat.le_of_ble_eq_true rfl) ?_
    refine sw_icmpN_ge (tgt := 37) dX5_bestOf_9 (by decide) (by omega) (by omega) (fun hc => ?_) (fun hc => ?_)
    · omega
    · clear hc
      refine sw_aload_n dX5_bestOf_12 rfl ?_
      refine sw_iload_n dX5_bestOf_13 rfl ?_
      refine sw_cvi (i := 0) (c_stakeOf T (x := i + 1) (by omega)) dX5_bestOf_14 lkX5_112 (by decide) ⟨by decide, _, rfl, rfl⟩ rfl rfl rfl (Nat.le_of_ble_eq_true rfl) ?_
      refine sw_aload_n dX5_bestOf_17 rfl ?_
      refine sw_iload_n dX5_bestOf_18 rfl ?_
      refine sw_cvi (i := 0) (c_stakeOf T (x := bst (stM h z sm) i) (by omega)) dX5_bestOf_19 lkX5_112 (by decide) ⟨by decide, _, rfl, rfl⟩ rfl rfl rfl (Nat.le_of_ble_eq_true rfl) ?_
      refine sw_icmp_le (tgt := 29) dX5_bestOf_22 (by decide) (fun hc => ?_) (fun hc => ?_)
      · have e : bst (stM h z sm) (i + 1) = bst (stM h z sm) i := by
          simp only [bst]
          rw [if_neg (Int32.not_lt.mpr hc)]
        rw [e] at ih
        refine sw_iload_n dX5_bestOf_29 rfl ?_
        refine sw_istore_n dX5_bestOf_30 (by decide) rfl ?_
        first | refine sw_iincN (b := 1) dX5_bestOf_31 rfl (by decide) rfl ?_ | refine sw_iinc dX5_bestOf_31 rfl rfl (by decide) rfl ?_
        refine sw_goto (tgt := 4) dX5_bestOf_34 (by decide) ?_
        exact ih
      · have e : bst (stM h z sm) (i + 1) = i + 1 := by
          simp only [bst]
          rw [if_pos (Int32.not_le.mp hc)]
        rw [e] at ih
        refine sw_iload_n dX5_bestOf_25 rfl ?_
        refine sw_goto (tgt := 30) dX5_bestOf_26 (by decide) ?_
        refine sw_istore_n dX5_bestOf_30 (by decide) rfl ?_
        first | refine sw_iincN (b := 1) dX5_bestOf_31 rfl (by decide) rfl ?_ | refine sw_iinc dX5_bestOf_31 rfl rfl (by decide) rfl ?_
        refine sw_goto (tgt := 4) dX5_bestOf_34 (by decide) ?_
        exact ih
theorem c_worthOf (T : TM h n z sm) : Ctr jX5_worthOf [.ref 28] h (Ret (sI (fun k => h 32 k * h 31 k) (8 * z)) h) := by
  have hz8 := T.1.2.1
  have hz := T.1.2.2.2
  refine ctr_start (by decide) (Nat.le_of_ble_eq_true rfl) rfl rfl ?_
  show SW jX5_worthOf E0 _ 0 [some (.ref 28), none, none] [] _
  refine sw_iconst (v := nI 0) dX5_worthOf_0 (by decide) ?_
  refine sw_istore_n dX5_worthOf_1 (by decide) rfl ?_
  refine sw_iconst (v := nI 0) dX5_worthOf_2 (by decide) ?_
  refine sw_istore_n dX5_worthOf_3 (by decide) rfl ?_
  refine lp_up (n := 8 * z) (S := fun i => SW jX5_worthOf E0 (Zm (Ret (sI (fun k => h 32 k * h 31 k) (8 * z)) h)) 4 [some (.ref 28), some (.int (sI (fun k => h 32 k * h 31 k) i)), some (.int (nI i))] [] h) ?_ ?_ 0 (Nat.zero_le _)
  · refine sw_iload_n dX5_worthOf_4 rfl ?_
    refine sw_bipush (v := nI 8) dX5_worthOf_5 (by decide) ?_
    refine sw_aload_n dX5_worthOf_7 rfl ?_
    refine sw_getI dX5_worthOf_8 flX5_56 ⟨by decide, _, rfl, rfl⟩ ?_
    rw [hz]
    refine sw_imulN dX5_worthOf_11 ?_
    refine sw_icmpN_ge (tgt := 37) dX5_worthOf_12 (by decide) (by omega) (by omega) (fun hc => ?_) (fun hc => ?_)
    · refine sw_iload_n dX5_worthOf_37 rfl ?_
      refine sw_iret dX5_worthOf_38 rfl rfl rfl ?_
      exact ⟨rfl, rfl⟩
    · omega
  · intro i hi ih
    refine sw_iload_n dX5_worthOf_4 rfl ?_
    refine sw_bipush (v := nI 8) dX5_worthOf_5 (by decide) ?_
    refine sw_aload_n dX5_worthOf_7 rfl ?_
    refine sw_getI dX5_worthOf_8 flX5_56 ⟨by decide, _, rfl, rfl⟩ ?_
    rw [hz]
    refine sw_imulN dX5_worthOf_11 ?_
    refine sw_icmpN_ge (tgt := 37) dX5_worthOf_12 (by decide) (by omega) (by omega) (fun hc => ?_) (fun hc => ?_)
    · omega
    · refine sw_iload_n dX5_worthOf_15 rfl ?_
      refine sw_aload_n dX5_worthOf_16 rfl ?_
      refine sw_getR dX5_worthOf_17 flX5_23 ⟨by decide, _, rfl, rfl⟩ ?_
      refine sw_iload_n dX5_worthOf_20 rfl ?_
      refine sw_iald dX5_worthOf_21 rfl (by simp only [plA]; omega) ?_
      refine sw_aload_n dX5_worthOf_22 rfl ?_
      refine sw_getR dX5_worthOf_23 flX5_20 ⟨by decide, _, rfl, rfl⟩ ?_
      refine sw_iload_n dX5_worthOf_26 rfl ?_
      refine sw_iald dX5_worthOf_27 rfl (by simp only [plA]; omega) ?_
      refine sw_imul dX5_worthOf_28 ?_
      refine sw_iadd dX5_worthOf_29 ?_
      refine sw_istore_n dX5_worthOf_30 (by decide) rfl ?_
      first | refine sw_iincN (b := 1) dX5_worthOf_31 rfl (by decide) rfl ?_ | refine sw_iinc dX5_worthOf_31 rfl rfl (by decide) rfl ?_
      refine sw_goto (tgt := 4) dX5_worthOf_34 (by decide) ?_
      exact ih
abbrev posM (h : Hp) (z : Nat) (sm : Nat → Nat) (x : Nat) : Bool := allB (fun c => decide (0 < h 31 (8 * c + jnt (sm c) x))) z
theorem c_isPossibleM (T : TM h n z sm) {x : Nat} (hx : x < 64) : Ctr jX5_isPossible [.ref 28, .int (nI x)] h (Ret (bI (posM h z sm x)) h) := by
  have hz8 := T.1.2.1
  have hz := T.1.2.2.2
  refine ctr_start (by decide) (Nat.le_of_ble_eq_true rfl) rfl rfl ?_
  show SW jX5_isPossible E0 _ 0 [some (.ref 28), some (.int (nI x)), none, none] [] _
  refine sw_iconst (v := nI 1) dX5_isPossible_0 (by decide) ?_
  refine sw_istore_n dX5_isPossible_1 (by decide) rfl ?_
  refine sw_iconst (v := nI 0) dX5_isPossible_2 (by decide) ?_
  refine sw_istore_n dX5_isPossible_3 (by decide) rfl ?_
  refine lp_up (n := z) (S := fun i => SW jX5_isPossible E0 (Zm (Ret (bI (posM h z sm x)) h)) 4 [some (.ref 28), some (.int (nI x)), some (.int (bI (posM h i sm x))), some (.int (nI i))] [] h) ?_ ?_ 0 (Nat.zero_le _)
  · refine sw_iload_n dX5_isPossible_4 rfl ?_
    refine sw_aload_n dX5_isPossible_5 rfl ?_
    refine sw_getI dX5_isPossible_6 flX5_56 ⟨by decide, _, rfl, rfl⟩ ?_
    rw [hz]
    refine sw_icmpN_ge (tgt := 47) dX5_isPossible_9 (by decide) (by omega) (by omega) (fun hc => ?_) (fun hc => ?_)
    · refine sw_iload_n dX5_isPossible_47 rfl ?_
      refine sw_zret dX5_isPossible_48 rfl rfl rfl (bI_nar _) ?_
      exact ⟨rfl, rfl⟩
    · omega
  · intro i hi ih
    have hj := T.j8 hi x
    refine sw_iload_n dX5_isPossible_4 rfl ?_
    refine sw_aload_n dX5_isPossible_5 rfl ?_
    refine sw_getI dX5_isPossible_6 flX5_56 ⟨by decide, _, rfl, rfl⟩ ?_
    rw [hz]
    refine sw_icmpN_ge (tgt := 47) dX5_isPossible_9 (by decide) (by omega) (by omega) (fun hc => ?_) (fun hc => ?_)
    · omega
    · clear hc
      refine sw_iload_n dX5_isPossible_12 rfl ?_
      refine sw_if_eq (tgt := 39) dX5_isPossible_13 (by decide) (fun hc => ?_) (fun hc => ?_)
      · have e0 := bI_0 hc
        have e : posM h (i + 1) sm x = false := by unfold posM at e0 ⊢; simp only [allB]; rw [e0, Bool.false_and]
        rw [e] at ih
        refine sw_iconst (v := nI 0) dX5_isPossible_39 (by decide) ?_
        refine sw_istore_n dX5_isPossible_40 (by decide) rfl ?_
        first | refine sw_iincN (b := 1) dX5_isPossible_41 rfl (by decide) rfl ?_ | refine sw_iinc dX5_isPossible_41 rfl rfl (by decide) rfl ?_
        refine sw_goto (tgt := 4) dX5_isPossible_44 (by decide) ?_
        exact ih
      · have hp := bI_1 hc
        clear hc
        refine sw_aload_n dX5_isPossible_16 rfl ?_
        refine sw_getR dX5_isPossible_17 flX5_20 ⟨by decide, _, rfl, rfl⟩ ?_
        refine sw_bipush (v := nI 8) dX5_isPossible_20 (by decide) ?_
        refine sw_iload_n dX5_isPossible_22 rfl ?_
        first | refine sw_imulN dX5_isPossible_23 ?_ | refine sw_imul dX5_isPossible_23 ?_
        refine sw_aload_n dX5_isPossible_24 rfl ?_
        refine sw_iload_n dX5_isPossible_25 rfl ?_
        refine sw_iload_n dX5_isPossible_26 rfl ?_
        refine sw_cvi (i := 0) (c_jointOf T hi hx) dX5_isPossible_27 lkX5_92 (by decide) ⟨by decide, _, rfl, rfl⟩ rfl rfl rfl (Nat.le_of_ble_eq_true rfl) ?_
        first | refine sw_iaddN dX5_isPossible_30 ?_ | refine sw_iadd dX5_isPossible_30 ?_
        refine sw_iald dX5_isPossible_31 rfl (by simp only [plA]; omega) ?_
        refine sw_if_le (tgt := 39) dX5_isPossible_32 (by decide) (fun hc => ?_) (fun hc => ?_)
        · have e : posM h (i + 1) sm x = false := by unfold posM; simp only [allB]; rw [decide_eq_false (Int32.not_lt.mpr hc), Bool.and_false]
          rw [e] at ih
          refine sw_iconst (v := nI 0) dX5_isPossible_39 (by decide) ?_
          refine sw_istore_n dX5_isPossible_40 (by decide) rfl ?_
          first | refine sw_iincN (b := 1) dX5_isPossible_41 rfl (by decide) rfl ?_ | refine sw_iinc dX5_isPossible_41 rfl rfl (by decide) rfl ?_
          refine sw_goto (tgt := 4) dX5_isPossible_44 (by decide) ?_
          exact ih
        · have e : posM h (i + 1) sm x = true := by unfold posM at hp ⊢; simp only [allB]; rw [hp, decide_eq_true (Int32.not_le.mp hc)]; rfl
          rw [e] at ih
          refine sw_iconst (v := nI 1) dX5_isPossible_35 (by decide) ?_
          refine sw_goto (tgt := 40) dX5_isPossible_36 (by decide) ?_
          refine sw_istore_n dX5_isPossible_40 (by decide) rfl ?_
          first | refine sw_iincN (b := 1) dX5_isPossible_41 rfl (by decide) rfl ?_ | refine sw_iinc dX5_isPossible_41 rfl rfl (by decide) rfl ?_
          refine sw_goto (tgt := 4) dX5_isPossible_44 (by decide) ?_
          exact ih
end MOD
