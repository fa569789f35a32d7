theorem ush_k : ∀ k, k < 32 → (((nI k).toUInt32 &&& Int32.toUInt32 31).toBitVec % 32).toNat = k := by decide +kernel
theorem sw_iushrN {J : Mt} {E : ExT} {Z : ZT} {pc : Nat} {L : List (Option Value)} {st : List Value} {h : Hp} {a b : Nat} (hd : decode J.c pc = .ok (.iushr, 1)) (ha : a < 2 ^ 32) (hb : b < 32) (k : SW J E Z (pc + 1) L (.int (nI (a / 2 ^ b)) :: st) h) : SW J E Z pc L (.int (nI b) :: .int (nI a) :: st) h := sw_iushr (v := nI (a / 2 ^ b)) hd (pk_ushrN ha _ b (ush_k b hb)) k
/-- Integer.bitCount of a number of sixteen bits -/
theorem c_bitCount {h : Hp} {n : Nat} (hn : n < 65536) : Ctr jJ6_bitCount_0f7a4 [.int (nI n)] h (Ret (nI (pop n)) h) := by
  have h1 : bc1 n ≤ n := Nat.sub_le _ _
  have a2 : bc2 n ≤ 2 * n := by
    have q1 : bc1 n &&& 858993459 ≤ bc1 n := Nat.and_le_left
    have q2 : bc1 n / 2 ^ 2 &&& 858993459 ≤ bc1 n / 2 ^ 2 := Nat.and_le_left
    unfold bc2
    omega
  have a3 : bc3 n ≤ 3 * n := by
    have q1 : bc2 n + bc2 n / 2 ^ 4 &&& 252645135 ≤ bc2 n + bc2 n / 2 ^ 4 := Nat.and_le_left
    unfold bc3
    omega
  have a4 : bc4 n ≤ 6 * n := by
    unfold bc4
    omega
  have hz : n / 2 ^ 1 &&& 1431655765 ≤ n := Nat.le_trans Nat.and_le_left (Nat.div_le_self _ _)
  have hp : bc5 n &&& 63 = pop n := bc_pop hn
  refine ctr_start (by decide) (Nat.le_of_ble_eq_true rfl) rfl rfl ?_
  show SW jJ6_bitCount_0f7a4 E0 _ 0 [some (.int (nI n))] [] _
  refine sw_iload_n dJ6_bitCount_0f7a4_0 rfl ?_
  refine sw_iload_n dJ6_bitCount_0f7a4_1 rfl ?_
  refine sw_iconst (v := nI 1) dJ6_bitCount_0f7a4_2 (by decide) ?_
  refine sw_iushrN dJ6_bitCount_0f7a4_3 (by omega) (by decide) ?_
  refine sw_ldc_w (v := nI 1431655765) dJ6_bitCount_0f7a4_4 (by decide +kernel) ?_
  first | refine sw_iandN dJ6_bitCount_0f7a4_7 ?_ | refine sw_iand dJ6_bitCount_0f7a4_7 ?_
  refine sw_isubN dJ6_bitCount_0f7a4_8 hz ?_
  refine sw_istore_n dJ6_bitCount_0f7a4_9 (by decide) rfl ?_
  show SW jJ6_bitCount_0f7a4 E0 _ 10 [some (.int (nI (bc1 n)))] [] _
  refine sw_iload_n dJ6_bitCount_0f7a4_10 rfl ?_
  refine sw_ldc_w (v := nI 858993459) dJ6_bitCount_0f7a4_11 (by decide +kernel) ?_
  first | refine sw_iandN dJ6_bitCount_0f7a4_14 ?_ | refine sw_iand dJ6_bitCount_0f7a4_14 ?_
  refine sw_iload_n dJ6_bitCount_0f7a4_15 rfl ?_
  refine sw_iconst (v := nI 2) dJ6_bitCount_0f7a4_16 (by decide) ?_
  refine sw_iushrN dJ6_bitCount_0f7a4_17 (by omega) (by decide) ?_
  refine sw_ldc_w (v := nI 858993459) dJ6_bitCount_0f7a4_18 (by decide +kernel) ?_
  first | refine sw_iandN dJ6_bitCount_0f7a4_21 ?_ | refine sw_iand dJ6_bitCount_0f7a4_21 ?_
  first | refine sw_iaddN dJ6_bitCount_0f7a4_22 ?_ | refine sw_iadd dJ6_bitCount_0f7a4_22 ?_
  refine sw_istore_n dJ6_bitCount_0f7a4_23 (by decide) rfl ?_
  show SW jJ6_bitCount_0f7a4 E0 _ 24 [some (.int (nI (bc2 n)))] [] _
  refine sw_iload_n dJ6_bitCount_0f7a4_24 rfl ?_
  refine sw_iload_n dJ6_bitCount_0f7a4_25 rfl ?_
  refine sw_iconst (v := nI 4) dJ6_bitCount_0f7a4_26 (by decide) ?_
  refine sw_iushrN dJ6_bitCount_0f7a4_27 (by omega) (by decide) ?_
  first | refine sw_iaddN dJ6_bitCount_0f7a4_28 ?_ | refine sw_iadd dJ6_bitCount_0f7a4_28 ?_
  refine sw_ldc_w (v := nI 252645135) dJ6_bitCount_0f7a4_29 (by decide +kernel) ?_
  first | refine sw_iandN dJ6_bitCount_0f7a4_32 ?_ | refine sw_iand dJ6_bitCount_0f7a4_32 ?_
  refine sw_istore_n dJ6_bitCount_0f7a4_33 (by decide) rfl ?_
  show SW jJ6_bitCount_0f7a4 E0 _ 34 [some (.int (nI (bc3 n)))] [] _
  refine sw_iload_n dJ6_bitCount_0f7a4_34 rfl ?_
  refine sw_iload_n dJ6_bitCount_0f7a4_35 rfl ?_
  refine sw_bipush (v := nI 8) dJ6_bitCount_0f7a4_36 (by decide) ?_
  refine sw_iushrN dJ6_bitCount_0f7a4_38 (by omega) (by decide) ?_
  first | refine sw_iaddN dJ6_bitCount_0f7a4_39 ?_ | refine sw_iadd dJ6_bitCount_0f7a4_39 ?_
  refine sw_istore_n dJ6_bitCount_0f7a4_40 (by decide) rfl ?_
  show SW jJ6_bitCount_0f7a4 E0 _ 41 [some (.int (nI (bc4 n)))] [] _
  refine sw_iload_n dJ6_bitCount_0f7a4_41 rfl ?_
  refine sw_iload_n dJ6_bitCount_0f7a4_42 rfl ?_
  refine sw_bipush (v := nI 16) dJ6_bitCount_0f7a4_43 (by decide) ?_
  refine sw_iushrN dJ6_bitCount_0f7a4_45 (by omega) (by decide) ?_
  first | refine sw_iaddN dJ6_bitCount_0f7a4_46 ?_ | refine sw_iadd dJ6_bitCount_0f7a4_46 ?_
  refine sw_istore_n dJ6_bitCount_0f7a4_47 (by decide) rfl ?_
  show SW jJ6_bitCount_0f7a4 E0 _ 48 [some (.int (nI (bc5 n)))] [] _
  refine sw_iload_n dJ6_bitCount_0f7a4_48 rfl ?_
  refine sw_bipush (v := nI 63) dJ6_bitCount_0f7a4_49 (by decide) ?_
  first | refine sw_iandN dJ6_bitCount_0f7a4_51 ?_ | refine sw_iand dJ6_bitCount_0f7a4_51 ?_
  refine sw_iret dJ6_bitCount_0f7a4_52 rfl rfl rfl ?_
  exact ⟨by rw [hp], rfl⟩
/-- the reference's bits -/
theorem c_bits {h : Hp} {n : Nat} (hn : n < 65536) : Ctr jX5_bits [.int (nI n)] h (Ret (nI (pop n)) h) := by
  refine ctr_start (by decide) (Nat.le_of_ble_eq_true rfl) rfl rfl ?_
  show SW jX5_bits E0 _ 0 [some (.int (nI n)), none, none] [] _
  refine sw_iconst (v := nI 0) dX5_bits_0 (by decide) ?_
  refine sw_istore_n dX5_bits_1 (by decide) rfl ?_
  refine sw_iconst (v := nI 0) dX5_bits_2 (by decide) ?_
  refine sw_istore_n dX5_bits_3 (by decide) rfl ?_
  refine lp_up (n := 16) (S := fun i => SW jX5_bits E0 (Zm (Ret (nI (pop n)) h)) 4 [some (.int (nI n)), some (.int (nI (bs n i))), some (.int (nI i))] [] h) ?_ ?_ 0 (by omega)
  · refine sw_iload_n dX5_bits_4 rfl ?_
    refine sw_bipush (v := nI 16) dX5_bits_5 (by decide) ?_
    refine sw_icmpN_ge (tgt := 24) dX5_bits_7 (by decide) (by omega) (by omega) (fun hc => ?_) (fun hc => ?_)
    · refine sw_iload_n dX5_bits_24 rfl ?_
      refine sw_iret dX5_bits_25 rfl rfl rfl ?_
      exact ⟨rfl, rfl⟩
    · omega
  · intro i hi ih
    refine sw_iload_n dX5_bits_4 rfl ?_
    refine sw_bipush (v := nI 16) dX5_bits_5 (by decide) ?_
    refine sw_icmpN_ge (tgt := 24) dX5_bits_7 (by decide) (by omega) (by omega) (fun hc => ?_) (fun hc => ?_)
    · omega
    · refine sw_iload_n dX5_bits_10 rfl ?_
      refine sw_iload_n dX5_bits_11 rfl ?_
      refine sw_iload_n dX5_bits_12 rfl ?_
      first | refine sw_ishrN dX5_bits_13 (by omega) (by omega) ?_ | refine sw_ishr dX5_bits_13 ?_
      refine sw_iconst (v := nI 1) dX5_bits_14 (by decide) ?_
      first | refine sw_iand1 dX5_bits_15 ?_ | refine sw_iand dX5_bits_15 ?_
      first | refine sw_iaddN dX5_bits_16 ?_ | refine sw_iadd dX5_bits_16 ?_
      refine sw_istore_n dX5_bits_17 (by decide) rfl ?_
      first | refine sw_iincN (b := 1) dX5_bits_18 rfl (by decide) rfl ?_ | refine sw_iinc dX5_bits_18 rfl rfl (by decide) rfl ?_
      refine sw_goto (tgt := 4) dX5_bits_21 (by decide) ?_
      exact ih
theorem c_in {h : Hp} {a b c : Int64} : Ctr jX5_in [.long a, .long b, .long c] h (Ret (if b ≤ a ∧ a ≤ c then nI 1 else nI 0) h) := by
  refine ctr_start (by decide) (Nat.le_of_ble_eq_true rfl) rfl rfl ?_
  show SW jX5_in E0 _ 0 [some (.long a), none, some (.long b), none, some (.long c), none] [] _
  refine sw_lload_n dX5_in_0 rfl ?_
  refine sw_lload_n dX5_in_1 rfl ?_
  refine sw_lcmp dX5_in_2 ?_
  refine sw_if_lt (tgt := 17) dX5_in_3 (by decide) (fun hc => ?_) (fun hc => ?_)
  · have hx : ¬ b ≤ a := fun q => by
      have := (lg_cmp_ge a b).mpr q
      exact absurd hc (Int32.not_lt.mpr this)
    rw [if_neg (fun q => hx q.1)]
    refine sw_iconst (v := nI 0) dX5_in_17 (by decide) ?_
    refine sw_zret dX5_in_18 rfl rfl rfl rfl ?_
    exact ⟨rfl, rfl⟩
  · have hx : b ≤ a := (lg_cmp_ge a b).mp (Int32.not_lt.mp hc)
    clear hc
    refine sw_lload_n dX5_in_6 rfl ?_
    refine sw_lload dX5_in_7 rfl ?_
    refine sw_lcmp dX5_in_9 ?_
    refine sw_if_gt (tgt := 17) dX5_in_10 (by decide) (fun hc => ?_) (fun hc => ?_)
    · have hy : ¬ a ≤ c := fun q => by
        unfold lg_cmp at hc
        have q1 : ¬ a > c := Int64.not_lt.mpr q
        rw [if_neg q1] at hc
        split at hc <;> exact absurd hc (by decide)
      rw [if_neg (fun q => hy q.2)]
      refine sw_iconst (v := nI 0) dX5_in_17 (by decide) ?_
      refine sw_zret dX5_in_18 rfl rfl rfl rfl ?_
      exact ⟨rfl, rfl⟩
    · have hy : a ≤ c := by
        unfold lg_cmp at hc
        rcases Int64.lt_or_le c a with q | q
        · rw [if_pos q] at hc
          exact absurd (by decide : (0 : Int32) < 1) hc
        · exact q
      rw [if_pos ⟨hx, hy⟩]
      refine sw_iconst (v := nI 1) dX5_in_13 (by decide) ?_
      refine sw_goto (tgt := 18) dX5_in_14 (by decide) ?_
      refine sw_zret dX5_in_18 rfl rfl rfl rfl ?_
      exact ⟨rfl, rfl⟩
