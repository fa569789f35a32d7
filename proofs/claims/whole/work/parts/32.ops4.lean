/-! calls: agrees, quarrel, bound, best, worth, beyond -/
theorem z0_iff {z : Nat} (hz : z ≤ 8) : nI z = 0 ↔ z = 0 := nI_eq (b := 0) (by omega) (by omega)
theorem stXM {h g : Hp} {n z : Nat} {sm : Nat → Nat} (T : TX h n z sm) (S : SP h) (e : g 32 = h 32) (x : Nat) : stX h z sm x = stM g z sm x := by
  have hz8 := T.1.2.1
  unfold stX stM
  refine sI_cong (fun c hc => ?_)
  have := T.j8 hc x
  rw [e, S.1 _ (by omega)]
theorem worXM {h g : Hp} {z : Nat} {sm lf : Nat → Nat} (hz8 : z ≤ 8) (S : SP h) (W : WI h z sm lf) (e : g 32 = h 32) (e2 : g 31 = h 31) : sI (fun k => h 5 k * h 4 k) (8 * z) = sI (fun k => g 32 k * g 31 k) (8 * z) := by
  refine sI_cong (fun k hk => ?_)
  rw [e, e2, S.1 k (by omega), (W.1 k (by omega)).1, (W.1 k (by omega)).2.1]
theorem fqXM {h g : Hp} {n z : Nat} {sm lf : Nat → Nat} (T : TX h n z sm) (W : WI h z sm lf) (e : g 31 = h 31) : fq (uX h sm) z = fq (uM g n sm) z := fq_cong (fun c d hc hd _ => u_same' T (fun k hk => by rw [e, (W.1 k hk).1, (W.1 k hk).2.1]) hc hd)
theorem TM_agr {h g : Hp} {n z : Nat} {sm : Nat → Nat} (a : Agr h g) (T : TM h n z sm) : TM g n z sm := TM_keep T (a.2 0 (by decide) (by decide)) (a.2 1 (by decide) (by decide)) (a.1 29 (by decide) (by decide) (by decide) (by decide) (by decide) (by decide) (by decide) (by decide))
theorem Agr.c {h g : Hp} (a : Agr h g) {k : Nat} (hk : k ≠ 8 ∧ k ≠ 9 ∧ k ≠ 12 ∧ k ≠ 28 ∧ k ≠ 33 ∧ k ≠ 34 ∧ k ≠ 38 ∧ k ≠ 39) : g k = h k := a.1 k hk.1 hk.2.1 hk.2.2.1 hk.2.2.2.1 hk.2.2.2.2.1 hk.2.2.2.2.2.1 hk.2.2.2.2.2.2.1 hk.2.2.2.2.2.2.2
section OPS
variable {h : Hp} {n z : Nat} {sm : Nat → Nat} {Q : Option Value → Hp → Prop}
theorem x_quarrel (T : TX h n z sm) (h0 : z = 0 → Q (some (.int (-2))) h) (k1 : ¬ z = 0 → ∀ g, Sam 8 h g → Q (some (.int (fq (uX h sm) z))) g) : Ctr jX4_quarrel [.ref 0] h Q := by
  have hz8 := T.1.2.1
  refine ctr_start (by decide) (Nat.le_of_ble_eq_true rfl) rfl rfl ?_
  show SW jX4_quarrel E0 _ 0 [some (.ref 0)] [] _
  refine sw_aload_n dX4_quarrel_0 rfl ?_
  refine sw_getR dX4_quarrel_1 flX4_10 ⟨by decide, _, rfl, rfl⟩ ?_
  refine sw_getNI dX4_quarrel_4 fnX4_59 ⟨by decide, _, rfl, rfl⟩ ?_
  rw [T.1.2.2.2]
  refine sw_if_ne (tgt := 15) dX4_quarrel_7 (by decide) (fun hc => ?_) (fun hc => ?_)
  · rw [z0_iff hz8] at hc
    refine sw_aload_n dX4_quarrel_15 rfl ?_
    refine sw_getR dX4_quarrel_16 flX4_10 ⟨by decide, _, rfl, rfl⟩ ?_
    refine sw_callV (i := 0) (c_firstQuarrel T) dX4_quarrel_19 lkX4_105 (by decide) ⟨by decide, _, rfl, rfl⟩ rfl rfl rfl (Nat.le_of_ble_eq_true rfl) (fun v h1 hq => ?_)
    obtain ⟨rfl, hS⟩ := hq
    refine sw_iret dX4_quarrel_22 rfl rfl rfl ?_
    exact k1 hc _ hS
  · rw [z0_iff hz8] at hc
    refine sw_bipush (v := (-2)) dX4_quarrel_10 (by decide) ?_
    refine sw_goto (tgt := 22) dX4_quarrel_12 (by decide) ?_
    refine sw_iret dX4_quarrel_22 rfl rfl rfl ?_
    exact h0 hc
theorem m_quarrel (T : TM h n z sm) (h0 : z = 0 → Q (some (.int (-2))) h) (h1 : ¬ z = 0 → Q (some (.int (fq (uM h n sm) z))) h) : Ctr jX5_quarrel [.ref 28] h Q := by
  have hz8 := T.1.2.1
  refine ctr_start (by decide) (Nat.le_of_ble_eq_true rfl) rfl rfl ?_
  show SW jX5_quarrel E0 _ 0 [some (.ref 28)] [] _
  refine sw_aload_n dX5_quarrel_0 rfl ?_
  refine sw_getI dX5_quarrel_1 flX5_56 ⟨by decide, _, rfl, rfl⟩ ?_
  rw [T.1.2.2.2]
  refine sw_if_ne (tgt := 12) dX5_quarrel_4 (by decide) (fun hc => ?_) (fun hc => ?_)
  · rw [z0_iff hz8] at hc
    refine sw_aload_n dX5_quarrel_12 rfl ?_
    refine sw_cvi (i := 0) (c_findQuarrel T) dX5_quarrel_13 lkX5_103 (by decide) ⟨by decide, _, rfl, rfl⟩ rfl rfl rfl (Nat.le_of_ble_eq_true rfl) ?_
    refine sw_iret dX5_quarrel_16 rfl rfl rfl ?_
    exact h1 hc
  · rw [z0_iff hz8] at hc
    refine sw_bipush (v := (-2)) dX5_quarrel_7 (by decide) ?_
    refine sw_goto (tgt := 16) dX5_quarrel_9 (by decide) ?_
    refine sw_iret dX5_quarrel_16 rfl rfl rfl ?_
    exact h0 hc
theorem b_quarrel : Both jX4_quarrel jX5_quarrel [] := by
  intro h K hK hI
  have hI0 := hI
  obtain ⟨n, z, sm, lf, r, I⟩ := hI
  have I' := I
  obtain ⟨i1, iT, iM, iW, iS, iC, iR, iH⟩ := I'
  by_cases hz : z = 0
  · exact ⟨-2, x_quarrel iT (fun _ => ⟨rfl, m_quarrel iM (fun _ => ⟨rfl, hI0.up⟩) (fun q => absurd hz q)⟩) (fun q => absurd hz q)⟩
  · refine ⟨fq (uX h sm) z, x_quarrel iT (fun q => absurd q hz) (fun _ g hS => ⟨rfl, ?_⟩)⟩
    have a := Agr.s8 hS
    refine m_quarrel (TM_agr a iM) (fun q => absurd q hz) (fun _ => ⟨by rw [fqXM iT iW (a.c (k := 31) (by decide))], n, z, sm, lf, r, I0_agr I a⟩)
theorem x_agrees (T : TX h n z sm) (h0 : z = 0 → Q (some (.int (-2))) h) (k1 : ¬ z = 0 → ∀ g, Sam 8 h g → Q (some (.int (if fq (uX h sm) z = -4 then nI 1 else nI 0))) g) : Ctr jX4_agrees [.ref 0] h Q := by
  have hz8 := T.1.2.1
  refine ctr_start (by decide) (Nat.le_of_ble_eq_true rfl) rfl rfl ?_
  show SW jX4_agrees E0 _ 0 [some (.ref 0)] [] _
  refine sw_aload_n dX4_agrees_0 rfl ?_
  refine sw_getR dX4_agrees_1 flX4_10 ⟨by decide, _, rfl, rfl⟩ ?_
  refine sw_getNI dX4_agrees_4 fnX4_59 ⟨by decide, _, rfl, rfl⟩ ?_
  rw [T.1.2.2.2]
  refine sw_if_ne (tgt := 13) dX4_agrees_7 (by decide) (fun hc => ?_) (fun hc => ?_)
  · rw [z0_iff hz8] at hc
    have hz := hc
    clear hc
    refine sw_aload_n dX4_agrees_13 rfl ?_
    refine sw_getR dX4_agrees_14 flX4_10 ⟨by decide, _, rfl, rfl⟩ ?_
    refine sw_callV (i := 0) (c_firstQuarrel T) dX4_agrees_17 lkX4_105 (by decide) ⟨by decide, _, rfl, rfl⟩ rfl rfl rfl (Nat.le_of_ble_eq_true rfl) (fun v h1 hq => ?_)
    obtain ⟨rfl, hS⟩ := hq
    have h2 := k1 hz _ hS
    show SW jX4_agrees E0 _ 20 _ [.int (fq (uX h sm) z)] _
    refine sw_bipush (v := (-4)) dX4_agrees_20 (by decide) ?_
    refine sw_icmp_ne (tgt := 29) dX4_agrees_22 (by decide) (fun hc => ?_) (fun hc => ?_)
    · rw [if_neg hc] at h2
      refine sw_iconst (v := nI 0) dX4_agrees_29 (by decide) ?_
      refine sw_iret dX4_agrees_30 rfl rfl rfl ?_
      exact h2
    · rw [if_pos hc] at h2
      refine sw_iconst (v := nI 1) dX4_agrees_25 (by decide) ?_
      refine sw_goto (tgt := 30) dX4_agrees_26 (by decide) ?_
      refine sw_iret dX4_agrees_30 rfl rfl rfl ?_
      exact h2
  · rw [z0_iff hz8] at hc
    refine sw_bipush (v := (-2)) dX4_agrees_10 (by decide) ?_
    refine sw_iret dX4_agrees_12 rfl rfl rfl ?_
    exact h0 hc
theorem m_agrees (T : TM h n z sm) (h0 : z = 0 → Q (some (.int (-2))) h) (h1 : ¬ z = 0 → Q (some (.int (if fq (uM h n sm) z = -4 then nI 1 else nI 0))) h) : Ctr jX5_agrees [.ref 28] h Q := by
  have hz8 := T.1.2.1
  refine ctr_start (by decide) (Nat.le_of_ble_eq_true rfl) rfl rfl ?_
  show SW jX5_agrees E0 _ 0 [some (.ref 28)] [] _
  refine sw_aload_n dX5_agrees_0 rfl ?_
  refine sw_getI dX5_agrees_1 flX5_56 ⟨by decide, _, rfl, rfl⟩ ?_
  rw [T.1.2.2.2]
  refine sw_if_ne (tgt := 12) dX5_agrees_4 (by decide) (fun hc => ?_) (fun hc => ?_)
  · rw [z0_iff hz8] at hc
    have h2 := h1 hc
    clear hc
    refine sw_aload_n dX5_agrees_12 rfl ?_
    refine sw_cvi (i := 0) (c_findQuarrel T) dX5_agrees_13 lkX5_103 (by decide) ⟨by decide, _, rfl, rfl⟩ rfl rfl rfl (Nat.le_of_ble_eq_true rfl) ?_
    refine sw_bipush (v := (-4)) dX5_agrees_16 (by decide) ?_
    refine sw_icmp_ne (tgt := 25) dX5_agrees_18 (by decide) (fun hc => ?_) (fun hc => ?_)
    · rw [if_neg hc] at h2
      refine sw_iconst (v := nI 0) dX5_agrees_25 (by decide) ?_
      refine sw_iret dX5_agrees_26 rfl rfl rfl ?_
      exact h2
    · rw [if_pos hc] at h2
      refine sw_iconst (v := nI 1) dX5_agrees_21 (by decide) ?_
      refine sw_goto (tgt := 26) dX5_agrees_22 (by decide) ?_
      refine sw_iret dX5_agrees_26 rfl rfl rfl ?_
      exact h2
  · rw [z0_iff hz8] at hc
    refine sw_bipush (v := (-2)) dX5_agrees_7 (by decide) ?_
    refine sw_goto (tgt := 26) dX5_agrees_9 (by decide) ?_
    refine sw_iret dX5_agrees_26 rfl rfl rfl ?_
    exact h0 hc
theorem b_agrees : Both jX4_agrees jX5_agrees [] := by
  intro h K hK hI
  have hI0 := hI
  obtain ⟨n, z, sm, lf, r, I⟩ := hI
  have I' := I
  obtain ⟨i1, iT, iM, iW, iS, iC, iR, iH⟩ := I'
  by_cases hz : z = 0
  · exact ⟨-2, x_agrees iT (fun _ => ⟨rfl, m_agrees iM (fun _ => ⟨rfl, hI0.up⟩) (fun q => absurd hz q)⟩) (fun q => absurd hz q)⟩
  · refine ⟨_, x_agrees iT (fun q => absurd q hz) (fun _ g hS => ⟨rfl, ?_⟩)⟩
    have a := Agr.s8 hS
    refine m_agrees (TM_agr a iM) (fun q => absurd q hz) (fun _ => ⟨by rw [fqXM iT iW (a.c (k := 31) (by decide))], n, z, sm, lf, r, I0_agr I a⟩)
theorem x_best (T : TX h n z sm) (h0 : z = 0 → Q (some (.int (-2))) h) (h1 : ¬ z = 0 → Q (some (.int (nI (bst (stX h z sm) (2 ^ n - 1))))) h) : Ctr jX4_best [.ref 0] h Q := by
  have hz8 := T.1.2.1
  refine ctr_start (by decide) (Nat.le_of_ble_eq_true rfl) rfl rfl ?_
  show SW jX4_best E0 _ 0 [some (.ref 0)] [] _
  refine sw_aload_n dX4_best_0 rfl ?_
  refine sw_getR dX4_best_1 flX4_10 ⟨by decide, _, rfl, rfl⟩ ?_
  refine sw_getNI dX4_best_4 fnX4_59 ⟨by decide, _, rfl, rfl⟩ ?_
  rw [T.1.2.2.2]
  refine sw_if_ne (tgt := 15) dX4_best_7 (by decide) (fun hc => ?_) (fun hc => ?_)
  · rw [z0_iff hz8] at hc
    refine sw_aload_n dX4_best_15 rfl ?_
    refine sw_getR dX4_best_16 flX4_10 ⟨by decide, _, rfl, rfl⟩ ?_
    refine sw_cvi (i := 0) (c_bestHidden T) dX4_best_19 lkX4_118 (by decide) ⟨by decide, _, rfl, rfl⟩ rfl rfl rfl (Nat.le_of_ble_eq_true rfl) ?_
    refine sw_iret dX4_best_22 rfl rfl rfl ?_
    exact h1 hc
  · rw [z0_iff hz8] at hc
    refine sw_bipush (v := (-2)) dX4_best_10 (by decide) ?_
    refine sw_goto (tgt := 22) dX4_best_12 (by decide) ?_
    refine sw_iret dX4_best_22 rfl rfl rfl ?_
    exact h0 hc
theorem m_best (T : TM h n z sm) (h0 : z = 0 → Q (some (.int (-2))) h) (h1 : ¬ z = 0 → Q (some (.int (nI (bst (stM h z sm) (2 ^ n - 1))))) h) : Ctr jX5_best [.ref 28] h Q := by
  have hz8 := T.1.2.1
  refine ctr_start (by decide) (Nat.le_of_ble_eq_true rfl) rfl rfl ?_
  show SW jX5_best E0 _ 0 [some (.ref 28)] [] _
  refine sw_aload_n dX5_best_0 rfl ?_
  refine sw_getI dX5_best_1 flX5_56 ⟨by decide, _, rfl, rfl⟩ ?_
  rw [T.1.2.2.2]
  refine sw_if_ne (tgt := 12) dX5_best_4 (by decide) (fun hc => ?_) (fun hc => ?_)
  · rw [z0_iff hz8] at hc
    refine sw_aload_n dX5_best_12 rfl ?_
    refine sw_cvi (i := 0) (c_bestOf T) dX5_best_13 lkX5_115 (by decide) ⟨by decide, _, rfl, rfl⟩ rfl rfl rfl (Nat.le_of_ble_eq_true rfl) ?_
    refine sw_iret dX5_best_16 rfl rfl rfl ?_
    exact h1 hc
  · rw [z0_iff hz8] at hc
    refine sw_bipush (v := (-2)) dX5_best_7 (by decide) ?_
    refine sw_goto (tgt := 16) dX5_best_9 (by decide) ?_
    refine sw_iret dX5_best_16 rfl rfl rfl ?_
    exact h0 hc
theorem bstXM {h g : Hp} {n z : Nat} {sm : Nat → Nat} (T : TX h n z sm) (S : SP h) (e : g 32 = h 32) (k : Nat) : bst (stX h z sm) k = bst (stM g z sm) k := bst_cong (fun i _ => stXM T S e i)
theorem b_best : Both jX4_best jX5_best [] := by
  intro h K hK hI
  have hI0 := hI
  obtain ⟨n, z, sm, lf, r, i1, iT, iM, iW, iS, iC, iR, iH⟩ := hI
  by_cases hz : z = 0
  · exact ⟨-2, x_best iT (fun _ => ⟨rfl, m_best iM (fun _ => ⟨rfl, hI0.up⟩) (fun q => absurd hz q)⟩) (fun q => absurd hz q)⟩
  · exact ⟨_, x_best iT (fun q => absurd q hz) (fun _ => ⟨rfl, m_best iM (fun q => absurd q hz) (fun _ => ⟨by rw [bstXM iT iS rfl], hI0.up⟩)⟩)⟩
theorem x_bound (T : TX h n z sm) (h0 : z = 0 → Q (some (.int (-2))) h) (h1 : ¬ z = 0 → Q (some (.int (stX h z sm (bst (stX h z sm) (2 ^ n - 1))))) h) : Ctr jX4_bound [.ref 0] h Q := by
  have hz8 := T.1.2.1
  have hp : 0 < 2 ^ n := Nat.two_pow_pos n
  have hb := bst_le (stX h z sm) (2 ^ n - 1)
  refine ctr_start (by decide) (Nat.le_of_ble_eq_true rfl) rfl rfl ?_
  show SW jX4_bound E0 _ 0 [some (.ref 0)] [] _
  refine sw_aload_n dX4_bound_0 rfl ?_
  refine sw_getR dX4_bound_1 flX4_10 ⟨by decide, _, rfl, rfl⟩ ?_
  refine sw_getNI dX4_bound_4 fnX4_59 ⟨by decide, _, rfl, rfl⟩ ?_
  rw [T.1.2.2.2]
  refine sw_if_ne (tgt := 15) dX4_bound_7 (by decide) (fun hc => ?_) (fun hc => ?_)
  · rw [z0_iff hz8] at hc
    refine sw_aload_n dX4_bound_15 rfl ?_
    refine sw_getR dX4_bound_16 flX4_10 ⟨by decide, _, rfl, rfl⟩ ?_
    refine sw_aload_n dX4_bound_19 rfl ?_
    refine sw_getR dX4_bound_20 flX4_10 ⟨by decide, _, rfl, rfl⟩ ?_
    refine sw_cvi (i := 0) (c_bestHidden T) dX4_bound_23 lkX4_118 (by decide) ⟨by decide, _, rfl, rfl⟩ rfl rfl rfl (Nat.le_of_ble_eq_true rfl) ?_
    refine sw_cvi (i := 0) (c_stakeSum T (x := bst (stX h z sm) (2 ^ n - 1)) (by omega)) dX4_bound_26 lkX4_121 (by decide) ⟨by decide, _, rfl, rfl⟩ rfl rfl rfl (Nat.le_of_ble_eq_true rfl) ?_
    refine sw_iret dX4_bound_29 rfl rfl rfl ?_
    exact h1 hc
  · rw [z0_iff hz8] at hc
    refine sw_bipush (v := (-2)) dX4_bound_10 (by decide) ?_
    refine sw_goto (tgt := 29) dX4_bound_12 (by decide) ?_
    refine sw_iret dX4_bound_29 rfl rfl rfl ?_
    exact h0 hc
theorem m_bound (T : TM h n z sm) (h0 : z = 0 → Q (some (.int (-2))) h) (h1 : ¬ z = 0 → Q (some (.int (stM h z sm (bst (stM h z sm) (2 ^ n - 1))))) h) : Ctr jX5_bound [.ref 28] h Q := by
  have hz8 := T.1.2.1
  have hp : 0 < 2 ^ n := Nat.two_pow_pos n
  have h64 := pow6 T.1.1
  have hb := bst_le (stM h z sm) (2 ^ n - 1)
  refine ctr_start (by decide) (Nat.le_of_ble_eq_true rfl) rfl rfl ?_
  show SW jX5_bound E0 _ 0 [some (.ref 28)] [] _
  refine sw_aload_n dX5_bound_0 rfl ?_
  refine sw_getI dX5_bound_1 flX5_56 ⟨by decide, _, rfl, rfl⟩ ?_
  rw [T.1.2.2.2]
  refine sw_if_ne (tgt := 12) dX5_bound_4 (by decide) (fun hc => ?_) (fun hc => ?_)
  · rw [z0_iff hz8] at hc
    refine sw_aload_n dX5_bound_12 rfl ?_
    refine sw_aload_n dX5_bound_13 rfl ?_
    refine sw_cvi (i := 0) (c_bestOf T) dX5_bound_14 lkX5_115 (by decide) ⟨by decide, _, rfl, rfl⟩ rfl rfl rfl (Nat.le_of_ble_eq_true rfl) ?_
    refine sw_cvi (i := 0) (c_stakeOf T (x := bst (stM h z sm) (2 ^ n - 1)) (by omega)) dX5_bound_17 lkX5_112 (by decide) ⟨by decide, _, rfl, rfl⟩ rfl rfl rfl (Nat.le_of_ble_eq_true rfl) ?_
    refine sw_iret dX5_bound_20 rfl rfl rfl ?_
    exact h1 hc
  · rw [z0_iff hz8] at hc
    refine sw_bipush (v := (-2)) dX5_bound_7 (by decide) ?_
    refine sw_goto (tgt := 20) dX5_bound_9 (by decide) ?_
    refine sw_iret dX5_bound_20 rfl rfl rfl ?_
    exact h0 hc
theorem b_bound : Both jX4_bound jX5_bound [] := by
  intro h K hK hI
  have hI0 := hI
  obtain ⟨n, z, sm, lf, r, i1, iT, iM, iW, iS, iC, iR, iH⟩ := hI
  by_cases hz : z = 0
  · exact ⟨-2, x_bound iT (fun _ => ⟨rfl, m_bound iM (fun _ => ⟨rfl, hI0.up⟩) (fun q => absurd hz q)⟩) (fun q => absurd hz q)⟩
  · exact ⟨_, x_bound iT (fun q => absurd q hz) (fun _ => ⟨rfl, m_bound iM (fun q => absurd q hz) (fun _ => ⟨by rw [bstXM iT iS rfl, stXM iT iS rfl], hI0.up⟩)⟩)⟩
theorem x_worth (T : TX h n z sm) (h0 : z = 0 → Q (some (.int (-2))) h) (h1 : ¬ z = 0 → Q (some (.int (sI (fun k => h 5 k * h 4 k) (8 * z)))) h) : Ctr jX4_worth [.ref 0] h Q := by
  have hz8 := T.1.2.1
  refine ctr_start (by decide) (Nat.le_of_ble_eq_true rfl) rfl rfl ?_
  show SW jX4_worth E0 _ 0 [some (.ref 0)] [] _
  refine sw_aload_n dX4_worth_0 rfl ?_
  refine sw_getR dX4_worth_1 flX4_10 ⟨by decide, _, rfl, rfl⟩ ?_
  refine sw_getNI dX4_worth_4 fnX4_59 ⟨by decide, _, rfl, rfl⟩ ?_
  rw [T.1.2.2.2]
  refine sw_if_ne (tgt := 15) dX4_worth_7 (by decide) (fun hc => ?_) (fun hc => ?_)
  · rw [z0_iff hz8] at hc
    refine sw_aload_n dX4_worth_15 rfl ?_
    refine sw_getR dX4_worth_16 flX4_10 ⟨by decide, _, rfl, rfl⟩ ?_
    refine sw_cvi (i := 0) (c_stakesTimesWeights T) dX4_worth_19 lkX4_124 (by decide) ⟨by decide, _, rfl, rfl⟩ rfl rfl rfl (Nat.le_of_ble_eq_true rfl) ?_
    refine sw_iret dX4_worth_22 rfl rfl rfl ?_
    exact h1 hc
  · rw [z0_iff hz8] at hc
    refine sw_bipush (v := (-2)) dX4_worth_10 (by decide) ?_
    refine sw_goto (tgt := 22) dX4_worth_12 (by decide) ?_
    refine sw_iret dX4_worth_22 rfl rfl rfl ?_
    exact h0 hc
theorem m_worth (T : TM h n z sm) (h0 : z = 0 → Q (some (.int (-2))) h) (h1 : ¬ z = 0 → Q (some (.int (sI (fun k => h 32 k * h 31 k) (8 * z)))) h) : Ctr jX5_worth [.ref 28] h Q := by
  have hz8 := T.1.2.1
  refine ctr_start (by decide) (Nat.le_of_ble_eq_true rfl) rfl rfl ?_
  show SW jX5_worth E0 _ 0 [some (.ref 28)] [] _
  refine sw_aload_n dX5_worth_0 rfl ?_
  refine sw_getI dX5_worth_1 flX5_56 ⟨by decide, _, rfl, rfl⟩ ?_
  rw [T.1.2.2.2]
  refine sw_if_ne (tgt := 12) dX5_worth_4 (by decide) (fun hc => ?_) (fun hc => ?_)
  · rw [z0_iff hz8] at hc
    refine sw_aload_n dX5_worth_12 rfl ?_
    refine sw_cvi (i := 0) (c_worthOf T) dX5_worth_13 lkX5_118 (by decide) ⟨by decide, _, rfl, rfl⟩ rfl rfl rfl (Nat.le_of_ble_eq_true rfl) ?_
    refine sw_iret dX5_worth_16 rfl rfl rfl ?_
    exact h1 hc
  · rw [z0_iff hz8] at hc
    refine sw_bipush (v := (-2)) dX5_worth_7 (by decide) ?_
    refine sw_goto (tgt := 16) dX5_worth_9 (by decide) ?_
    refine sw_iret dX5_worth_16 rfl rfl rfl ?_
    exact h0 hc
theorem b_worth : Both jX4_worth jX5_worth [] := by
  intro h K hK hI
  have hI0 := hI
  obtain ⟨n, z, sm, lf, r, i1, iT, iM, iW, iS, iC, iR, iH⟩ := hI
  by_cases hz : z = 0
  · exact ⟨-2, x_worth iT (fun _ => ⟨rfl, m_worth iM (fun _ => ⟨rfl, hI0.up⟩) (fun q => absurd hz q)⟩) (fun q => absurd hz q)⟩
  · exact ⟨_, x_worth iT (fun q => absurd q hz) (fun _ => ⟨rfl, m_worth iM (fun q => absurd q hz) (fun _ => ⟨by rw [worXM iT.1.2.1 iS iW rfl rfl], hI0.up⟩)⟩)⟩
theorem x_beyond (T : TX h n z sm) (h0 : z = 0 → Q (some (.int (-2))) h) (k1 : ¬ z = 0 → ∀ g, Sam 8 h g → Q (some (.int (if fq (uX h sm) z = -4 ∧ stX h z sm (bst (stX h z sm) (2 ^ n - 1)) * sI (fun j => h 4 (8 * 0 + j)) (2 ^ pop (sm 0)) < sI (fun k => h 5 k * h 4 k) (8 * z) then nI 1 else nI 0))) g) : Ctr jX4_beyond [.ref 0] h Q := by
  have hz8 := T.1.2.1
  have hp : 0 < 2 ^ n := Nat.two_pow_pos n
  refine ctr_start (by decide) (Nat.le_of_ble_eq_true rfl) rfl rfl ?_
  show SW jX4_beyond E0 _ 0 [some (.ref 0), none] [] _
  refine sw_aload_n dX4_beyond_0 rfl ?_
  refine sw_getR dX4_beyond_1 flX4_10 ⟨by decide, _, rfl, rfl⟩ ?_
  refine sw_getNI dX4_beyond_4 fnX4_59 ⟨by decide, _, rfl, rfl⟩ ?_
  rw [T.1.2.2.2]
  refine sw_if_ne (tgt := 13) dX4_beyond_7 (by decide) (fun hc => ?_) (fun hc => ?_)
  · rw [z0_iff hz8] at hc
    have hz := hc
    clear hc
    refine sw_aload_n dX4_beyond_13 rfl ?_
    refine sw_getR dX4_beyond_14 flX4_10 ⟨by decide, _, rfl, rfl⟩ ?_
    refine sw_callV (i := 0) (c_firstQuarrel T) dX4_beyond_17 lkX4_105 (by decide) ⟨by decide, _, rfl, rfl⟩ rfl rfl rfl (Nat.le_of_ble_eq_true rfl) (fun v h1 hq => ?_)
    obtain ⟨rfl, hS⟩ := hq
    have h2 := k1 hz _ hS
    have T' := hS.T (by decide) T
    rename Hp => g
    have e5 : g 5 = h 5 := hS 5 (by decide)
    have e4 : g 4 = h 4 := hS 4 (by decide)
    have est : stX g z sm = stX h z sm := by funext x; unfold stX; rw [e5]
    have hb := bst_le (stX h z sm) (2 ^ n - 1)
    show SW jX4_beyond E0 _ 20 _ [.int (fq (uX h sm) z)] _
    refine sw_bipush (v := (-4)) dX4_beyond_20 (by decide) ?_
    refine sw_icmp_eq (tgt := 27) dX4_beyond_22 (by decide) (fun hc => ?_) (fun hc => ?_)
    · have hf := hc
      clear hc
      refine sw_aload_n dX4_beyond_27 rfl ?_
      refine sw_getR dX4_beyond_28 flX4_10 ⟨by decide, _, rfl, rfl⟩ ?_
      refine sw_aload_n dX4_beyond_31 rfl ?_
      refine sw_getR dX4_beyond_32 flX4_10 ⟨by decide, _, rfl, rfl⟩ ?_
      refine sw_cvi (i := 0) (c_bestHidden T') dX4_beyond_35 lkX4_118 (by decide) ⟨by decide, _, rfl, rfl⟩ rfl rfl rfl (Nat.le_of_ble_eq_true rfl) ?_
      rw [est]
      refine sw_cvi (i := 0) (c_stakeSum T' (x := bst (stX h z sm) (2 ^ n - 1)) (by omega)) dX4_beyond_38 lkX4_121 (by decide) ⟨by decide, _, rfl, rfl⟩ rfl rfl rfl (Nat.le_of_ble_eq_true rfl) ?_
      rw [show sI (fun c => g 5 (8 * c + jnt (sm c) (bst (stX h z sm) (2 ^ n - 1)))) z = stX h z sm (bst (stX h z sm) (2 ^ n - 1)) by rw [e5]]
      refine sw_aload_n dX4_beyond_41 rfl ?_
      refine sw_getR dX4_beyond_42 flX4_10 ⟨by decide, _, rfl, rfl⟩ ?_
      refine sw_iconst (v := nI 0) dX4_beyond_45 (by decide) ?_
      refine sw_cvi (i := 0) (c_weightSum T' (c := 0) (by omega)) dX4_beyond_46 lkX4_75 (by decide) ⟨by decide, _, rfl, rfl⟩ rfl rfl rfl (Nat.le_of_ble_eq_true rfl) ?_
      rw [e4]
      refine sw_imul dX4_beyond_49 ?_
      refine sw_istore_n dX4_beyond_50 (by decide) rfl ?_
      refine sw_aload_n dX4_beyond_51 rfl ?_
      refine sw_getR dX4_beyond_52 flX4_10 ⟨by decide, _, rfl, rfl⟩ ?_
      refine sw_cvi (i := 0) (c_stakesTimesWeights T') dX4_beyond_55 lkX4_124 (by decide) ⟨by decide, _, rfl, rfl⟩ rfl rfl rfl (Nat.le_of_ble_eq_true rfl) ?_
      rw [e4, e5]
      refine sw_iload_n dX4_beyond_58 rfl ?_
      refine sw_icmp_le (tgt := 66) dX4_beyond_59 (by decide) (fun hc => ?_) (fun hc => ?_)
      · rw [if_neg (fun q => absurd q.2 (Int32.not_lt.mpr hc))] at h2
        refine sw_iconst (v := nI 0) dX4_beyond_66 (by decide) ?_
        refine sw_iret dX4_beyond_67 rfl rfl rfl ?_
        exact h2
      · rw [if_pos ⟨hf, Int32.not_le.mp hc⟩] at h2
        refine sw_iconst (v := nI 1) dX4_beyond_62 (by decide) ?_
        refine sw_goto (tgt := 67) dX4_beyond_63 (by decide) ?_
        refine sw_iret dX4_beyond_67 rfl rfl rfl ?_
        exact h2
    · rw [if_neg (fun q => hc q.1)] at h2
      refine sw_iconst (v := nI 0) dX4_beyond_25 (by decide) ?_
      refine sw_iret dX4_beyond_26 rfl rfl rfl ?_
      exact h2
  · rw [z0_iff hz8] at hc
    refine sw_bipush (v := (-2)) dX4_beyond_10 (by decide) ?_
    refine sw_iret dX4_beyond_12 rfl rfl rfl ?_
    exact h0 hc
theorem m_beyond (T : TM h n z sm) (h0 : z = 0 → Q (some (.int (-2))) h) (h1 : ¬ z = 0 → Q (some (.int (if fq (uM h n sm) z = -4 ∧ stM h z sm (bst (stM h z sm) (2 ^ n - 1)) * sI (fun j => h 31 (8 * 0 + j)) 8 < sI (fun k => h 32 k * h 31 k) (8 * z) then nI 1 else nI 0))) h) : Ctr jX5_beyond [.ref 28] h Q := by
  have hz8 := T.1.2.1
  have hp : 0 < 2 ^ n := Nat.two_pow_pos n
  have h64 := pow6 T.1.1
  have hb := bst_le (stM h z sm) (2 ^ n - 1)
  refine ctr_start (by decide) (Nat.le_of_ble_eq_true rfl) rfl rfl ?_
  show SW jX5_beyond E0 _ 0 [some (.ref 28)] [] _
  refine sw_aload_n dX5_beyond_0 rfl ?_
  refine sw_getI dX5_beyond_1 flX5_56 ⟨by decide, _, rfl, rfl⟩ ?_
  rw [T.1.2.2.2]
  refine sw_if_ne (tgt := 12) dX5_beyond_4 (by decide) (fun hc => ?_) (fun hc => ?_)
  · rw [z0_iff hz8] at hc
    have h2 := h1 hc
    clear hc
    refine sw_aload_n dX5_beyond_12 rfl ?_
    refine sw_cvi (i := 0) (c_findQuarrel T) dX5_beyond_13 lkX5_103 (by decide) ⟨by decide, _, rfl, rfl⟩ rfl rfl rfl (Nat.le_of_ble_eq_true rfl) ?_
    refine sw_bipush (v := (-4)) dX5_beyond_16 (by decide) ?_
    refine sw_icmp_ne (tgt := 46) dX5_beyond_18 (by decide) (fun hc => ?_) (fun hc => ?_)
    · rw [if_neg (fun q => hc q.1)] at h2
      refine sw_iconst (v := nI 0) dX5_beyond_46 (by decide) ?_
      refine sw_iret dX5_beyond_47 rfl rfl rfl ?_
      exact h2
    · have hf := hc
      clear hc
      refine sw_aload_n dX5_beyond_21 rfl ?_
      refine sw_cvi (i := 0) (c_worthOf T) dX5_beyond_22 lkX5_118 (by decide) ⟨by decide, _, rfl, rfl⟩ rfl rfl rfl (Nat.le_of_ble_eq_true rfl) ?_
      refine sw_aload_n dX5_beyond_25 rfl ?_
      refine sw_aload_n dX5_beyond_26 rfl ?_
      refine sw_cvi (i := 0) (c_bestOf T) dX5_beyond_27 lkX5_115 (by decide) ⟨by decide, _, rfl, rfl⟩ rfl rfl rfl (Nat.le_of_ble_eq_true rfl) ?_
      refine sw_cvi (i := 0) (c_stakeOf T (x := bst (stM h z sm) (2 ^ n - 1)) (by omega)) dX5_beyond_30 lkX5_112 (by decide) ⟨by decide, _, rfl, rfl⟩ rfl rfl rfl (Nat.le_of_ble_eq_true rfl) ?_
      refine sw_aload_n dX5_beyond_33 rfl ?_
      refine sw_iconst (v := nI 0) dX5_beyond_34 (by decide) ?_
      refine sw_cvi (i := 0) (c_sumOf (c := 0) (by omega)) dX5_beyond_35 lkX5_75 (by decide) ⟨by decide, _, rfl, rfl⟩ rfl rfl rfl (Nat.le_of_ble_eq_true rfl) ?_
      refine sw_imul dX5_beyond_38 ?_
      refine sw_icmp_le (tgt := 46) dX5_beyond_39 (by decide) (fun hc => ?_) (fun hc => ?_)
      · rw [if_neg (fun q => absurd q.2 (Int32.not_lt.mpr hc))] at h2
        refine sw_iconst (v := nI 0) dX5_beyond_46 (by decide) ?_
        refine sw_iret dX5_beyond_47 rfl rfl rfl ?_
        exact h2
      · rw [if_pos ⟨hf, Int32.not_le.mp hc⟩] at h2
        refine sw_iconst (v := nI 1) dX5_beyond_42 (by decide) ?_
        refine sw_goto (tgt := 47) dX5_beyond_43 (by decide) ?_
        refine sw_iret dX5_beyond_47 rfl rfl rfl ?_
        exact h2
  · rw [z0_iff hz8] at hc
    refine sw_bipush (v := (-2)) dX5_beyond_7 (by decide) ?_
    refine sw_goto (tgt := 47) dX5_beyond_9 (by decide) ?_
    refine sw_iret dX5_beyond_47 rfl rfl rfl ?_
    exact h0 hc
theorem b_beyond : Both jX4_beyond jX5_beyond [] := by
  intro h K hK hI
  have hI0 := hI
  obtain ⟨n, z, sm, lf, r, I⟩ := hI
  have I' := I
  obtain ⟨i1, iT, iM, iW, iS, iC, iR, iH⟩ := I'
  by_cases hz : z = 0
  · exact ⟨-2, x_beyond iT (fun _ => ⟨rfl, m_beyond iM (fun _ => ⟨rfl, hI0.up⟩) (fun q => absurd hz q)⟩) (fun q => absurd hz q)⟩
  · refine ⟨_, x_beyond iT (fun q => absurd q hz) (fun _ g hS => ⟨rfl, ?_⟩)⟩
    have a := Agr.s8 hS
    have e31 := a.c (k := 31) (by decide)
    have e32 := a.c (k := 32) (by decide)
    refine m_beyond (TM_agr a iM) (fun q => absurd q hz) (fun _ => ⟨?_, n, z, sm, lf, r, I0_agr I a⟩)
    rw [fqXM iT iW e31, bstXM iT iS e32, stXM iT iS e32, worXM iT.1.2.1 iS iW e32 e31, sS_same iT iW e31 (c := 0) (by omega)]
end OPS
