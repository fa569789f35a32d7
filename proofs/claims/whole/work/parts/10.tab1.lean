/-! the table's small methods -/
/-- the number of the JOINT by x, of the looks s, of those below k -/
def jn (s x : Nat) : Nat → Nat
  | 0 => 0
  | k + 1 => jn s x k + (if s / 2 ^ k % 2 = 1 then x / 2 ^ k % 2 * 2 ^ bs s k else 0)
theorem jn_lt (s x : Nat) : ∀ k, jn s x k < 2 ^ bs s k
  | 0 => by simp [jn, bs]
  | k + 1 => by
    have ih := jn_lt s x k
    have h2 : x / 2 ^ k % 2 < 2 := Nat.mod_lt _ (by omega)
    have h3 : s / 2 ^ k % 2 < 2 := Nat.mod_lt _ (by omega)
    simp only [jn, bs]
    by_cases hs : s / 2 ^ k % 2 = 1
    · rw [if_pos hs, hs, Nat.pow_succ]
      have : x / 2 ^ k % 2 * 2 ^ bs s k ≤ 1 * 2 ^ bs s k := Nat.mul_le_mul_right _ (by omega)
      omega
    · rw [if_neg hs, show s / 2 ^ k % 2 = 0 by omega]
      simpa using ih
theorem jn_or (s x k : Nat) (hs : s / 2 ^ k % 2 = 1) : jn s x k ||| (x / 2 ^ k % 2) * 2 ^ bs s k = jn s x (k + 1) := by
  have h := jn_lt s x k
  simp only [jn, if_pos hs]
  rw [Nat.or_comm, Nat.mul_comm, ← Nat.two_pow_add_eq_or_of_lt h, Nat.add_comm]
theorem jn_no (s x k : Nat) (hs : ¬ s / 2 ^ k % 2 = 1) : jn s x k = jn s x (k + 1) := by
  simp only [jn, if_neg hs, Nat.add_zero]
theorem bs_yes (s k : Nat) (hs : s / 2 ^ k % 2 = 1) : bs s k + 1 = bs s (k + 1) := by
  simp only [bs, hs]
theorem bs_no (s k : Nat) (hs : ¬ s / 2 ^ k % 2 = 1) : bs s k = bs s (k + 1) := by
  have h3 : s / 2 ^ k % 2 < 2 := Nat.mod_lt _ (by omega)
  simp only [bs]
  omega
abbrev jnt (s x : Nat) : Nat := jn s x 6
theorem pow6 {n : Nat} (h : n ≤ 6) : 2 ^ n ≤ 64 := Nat.pow_le_pow_right (by omega) h
theorem c_hiddenCount {h : Hp} {n : Nat} (hn : h 1 0 = nI n) (hn6 : n ≤ 6) : Ctr jX3_hiddenCount [.ref 1] h (Ret (nI (2 ^ n)) h) := by
  have h1 := pow6 hn6
  refine ctr_start (by decide) (Nat.le_of_ble_eq_true rfl) rfl rfl ?_
  show SW jX3_hiddenCount E0 _ 0 [some (.ref 1)] [] _
  refine sw_iconst (v := nI 1) dX3_hiddenCount_0 (by decide) ?_
  refine sw_aload_n dX3_hiddenCount_1 rfl ?_
  refine sw_getI dX3_hiddenCount_2 flX3_9 ⟨by decide, _, rfl, rfl⟩ ?_
  rw [hn]
  first | refine sw_ishlN dX3_hiddenCount_5 (by omega) (by omega) ?_ | refine sw_ishl dX3_hiddenCount_5 ?_
  refine sw_iret dX3_hiddenCount_6 rfl rfl rfl ?_
  rw [Nat.one_mul]
  exact ⟨rfl, rfl⟩
theorem c_numberOf {h : Hp} {s x : Nat} (hs : s < 64) (hx : x < 64) : Ctr jX3_numberOf [.int (nI s), .int (nI x)] h (Ret (nI (jnt s x)) h) := by
  refine ctr_start (by decide) (Nat.le_of_ble_eq_true rfl) rfl rfl ?_
  show SW jX3_numberOf E0 _ 0 [some (.int (nI s)), some (.int (nI x)), none, none, none] [] _
  refine sw_iconst (v := nI 0) dX3_numberOf_0 (by decide) ?_
  refine sw_istore_n dX3_numberOf_1 (by decide) rfl ?_
  refine sw_iconst (v := nI 0) dX3_numberOf_2 (by decide) ?_
  refine sw_istore_n dX3_numberOf_3 (by decide) rfl ?_
  refine sw_iconst (v := nI 0) dX3_numberOf_4 (by decide) ?_
  refine sw_istore dX3_numberOf_5 (by decide) rfl ?_
  refine lp_up (n := 6) (S := fun i => SW jX3_numberOf E0 (Zm (Ret (nI (jnt s x)) h)) 7 [some (.int (nI s)), some (.int (nI x)), some (.int (nI (jn s x i))), some (.int (nI (bs s i))), some (.int (nI i))] [] h) ?_ ?_ 0 (by omega)
  · refine sw_iload dX3_numberOf_7 rfl ?_
    refine sw_bipush (v := nI 6) dX3_numberOf_9 (by decide) ?_
    refine sw_icmpN_ge (tgt := 44) dX3_numberOf_11 (by decide) (by omega) (by omega) (fun hc => ?_) (fun hc => ?_)
    · refine sw_iload_n dX3_numberOf_44 rfl ?_
      refine sw_iret dX3_numberOf_45 rfl rfl rfl ?_
      exact ⟨rfl, rfl⟩
    · omega
  · intro i hi ih
    refine sw_iload dX3_numberOf_7 rfl ?_
    refine sw_bipush (v := nI 6) dX3_numberOf_9 (by decide) ?_
    refine sw_icmpN_ge (tgt := 44) dX3_numberOf_11 (by decide) (by omega) (by omega) (fun hc => ?_) (fun hc => ?_)
    · omega
    · have hb := bs_le s i
      have hm : x / 2 ^ i % 2 < 2 := Nat.mod_lt _ (by omega)
      have hq : x / 2 ^ i % 2 * 2 ^ bs s i < 2 ^ 32 := by
        have q1 : (2 : Nat) ^ bs s i ≤ 2 ^ 6 := Nat.pow_le_pow_right (by omega) (by omega)
        have q2 : x / 2 ^ i % 2 * 2 ^ bs s i ≤ 1 * 2 ^ 6 := Nat.mul_le_mul (by omega) q1
        omega
      refine sw_iload_n dX3_numberOf_14 rfl ?_
      refine sw_iload dX3_numberOf_15 rfl ?_
      first | refine sw_ishrN dX3_numberOf_17 (by omega) (by omega) ?_ | refine sw_ishr dX3_numberOf_17 ?_
      refine sw_iconst (v := nI 1) dX3_numberOf_18 (by decide) ?_
      first | refine sw_iand1 dX3_numberOf_19 ?_ | refine sw_iand dX3_numberOf_19 ?_
      refine sw_iconst (v := nI 1) dX3_numberOf_20 (by decide) ?_
      refine sw_icmpN_ne (tgt := 38) dX3_numberOf_21 (by decide) (by omega) (by omega) (fun hc => ?_) (fun hc => ?_)
      · rw [jn_no s x i hc, bs_no s i hc] at *
        first | refine sw_iincN (b := 1) dX3_numberOf_38 rfl (by decide) rfl ?_ | refine sw_iinc dX3_numberOf_38 rfl rfl (by decide) rfl ?_
        refine sw_goto (tgt := 7) dX3_numberOf_41 (by decide) ?_
        exact ih
      · refine sw_iload_n dX3_numberOf_24 rfl ?_
        refine sw_iload_n dX3_numberOf_25 rfl ?_
        refine sw_iload dX3_numberOf_26 rfl ?_
        first | refine sw_ishrN dX3_numberOf_28 (by omega) (by omega) ?_ | refine sw_ishr dX3_numberOf_28 ?_
        refine sw_iconst (v := nI 1) dX3_numberOf_29 (by decide) ?_
        first | refine sw_iand1 dX3_numberOf_30 ?_ | refine sw_iand dX3_numberOf_30 ?_
        refine sw_iload_n dX3_numberOf_31 rfl ?_
        first | refine sw_ishlN dX3_numberOf_32 (by omega) hq ?_ | refine sw_ishl dX3_numberOf_32 ?_
        first | refine sw_iorN dX3_numberOf_33 ?_ | refine sw_ior dX3_numberOf_33 ?_
        rw [jn_or s x i hc]
        refine sw_istore_n dX3_numberOf_34 (by decide) rfl ?_
        first | refine sw_iincN (b := 1) dX3_numberOf_35 rfl (by decide) rfl ?_ | refine sw_iinc dX3_numberOf_35 rfl rfl (by decide) rfl ?_
        rw [bs_yes s i hc]
        first | refine sw_iincN (b := 1) dX3_numberOf_38 rfl (by decide) rfl ?_ | refine sw_iinc dX3_numberOf_38 rfl rfl (by decide) rfl ?_
        refine sw_goto (tgt := 7) dX3_numberOf_41 (by decide) ?_
        exact ih
