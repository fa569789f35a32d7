theorem c_X3_weightSum_try {h : Hp} {n c : Nat} (hn : h 1 0 = nI n) (hn6 : n ≤ 6) : Ctr jX3_hiddenCount [.ref 1] h (Ret (nI (2 ^ n)) h) := by
  refine ctr_start (by decide) (by decide) rfl rfl ?_
  show SW jX3_hiddenCount E0 _ 0 [some (.ref 1)] [] _
  refine sw_iconst (v := nI 1) dX3_hiddenCount_0 (by decide) ?_
  refine sw_aload_n dX3_hiddenCount_1 rfl ?_
  refine sw_getI dX3_hiddenCount_2 flX3_9 ⟨by decide, _, rfl, rfl⟩ ?_
  rw [hn]
  have h1 : (1 : Nat) * 2 ^ n < 2 ^ 32 := by
    have : (2 : Nat) ^ n ≤ 2 ^ 6 := Nat.pow_le_pow_right (by omega) hn6
    omega
  first | refine sw_ishlN dX3_hiddenCount_5 (by omega) h1 ?_ | refine sw_ishl dX3_hiddenCount_5 ?_
  refine sw_iret dX3_hiddenCount_6 rfl rfl rfl ?_
  rw [Nat.one_mul]
  exact ⟨rfl, rfl⟩
