/-! calls: stake, parity, joint, and those of the table -/
theorem I0_sp {h g : Hp} {n z : Nat} {sm lf : Nat → Nat} {r K : Nat} (I : I0 h n z sm lf r K) (e : ∀ k, k ≠ 3 → k ≠ 5 → k ≠ 30 → k ≠ 32 → g k = h k) (hs : SP g) : I0 g n z sm lf r (K + 1) := by
  obtain ⟨i1, iT, iM, iW, iS, iC, iR, iH⟩ := I
  refine ⟨i1, TX_keep iT (e 1 (by decide) (by decide) (by decide) (by decide)) (e 2 (by decide) (by decide) (by decide) (by decide)) (e 6 (by decide) (by decide) (by decide) (by decide)) (e 7 (by decide) (by decide) (by decide) (by decide)), TM_keep iM (by rw [e 28 (by decide) (by decide) (by decide) (by decide)]) (by rw [e 28 (by decide) (by decide) (by decide) (by decide)]) (e 29 (by decide) (by decide) (by decide) (by decide)), ?_, hs, CK_eq (e 1 (by decide) (by decide) (by decide) (by decide)) (e 10 (by decide) (by decide) (by decide) (by decide)) (e 11 (by decide) (by decide) (by decide) (by decide)) iC, RI_eq (fun k k1 k2 => e k (by omega) (by omega) (by omega) (by omega)) (fun k k1 k2 => e k (by omega) (by omega) (by omega) (by omega)) (by rw [e 28 (by decide) (by decide) (by decide) (by decide)]) iR, SH_eq (fun k k1 k2 => e k (by omega) (by omega) (by omega) (by omega)) (fun k k1 k2 => e k (by omega) (by omega) (by omega) (by omega)) iH⟩
  unfold WI at iW ⊢
  rw [e 4 (by decide) (by decide) (by decide) (by decide), e 31 (by decide) (by decide) (by decide) (by decide)]
  exact iW
section OPS
variable {h : Hp} {n z : Nat} {sm : Nat → Nat} {Q : Option Value → Hp → Prop}
theorem x_stake_bad (T : TX h n z sm) {c j v : Int32} (hb : (rg 0 ((z : Int) - 1) c && rg 0 (((2 ^ pop (sm c.toNatClampNeg) : Nat) : Int) - 1) j) = false ∨ rg (-100) 100 v = false) (hQ : Q (some (.int (-1000))) h) : Ctr jX4_stake [.ref 0, .int c, .int j, .int v] h Q := by
  refine ctr_start (by decide) (Nat.le_of_ble_eq_true rfl) rfl rfl ?_
  show SW jX4_stake E0 _ 0 [some (.ref 0), some (.int c), some (.int j), some (.int v), none, none] [] _
  refine sw_aload_n dX4_stake_0 rfl ?_
  refine sw_getR dX4_stake_1 flX4_10 ⟨by decide, _, rfl, rfl⟩ ?_
  refine sw_iload_n dX4_stake_4 rfl ?_
  refine sw_iload_n dX4_stake_5 rfl ?_
  refine sw_cvi (i := 0) (c_hasJoint T c j) dX4_stake_6 lkX4_81 (by decide) ⟨by decide, _, rfl, rfl⟩ rfl rfl rfl (Nat.le_of_ble_eq_true rfl) ?_
  refine sw_if_eq (tgt := 19) dX4_stake_9 (by decide) (fun hc => ?_) (fun hc => ?_)
  · refine sw_sipush (v := (-1000)) dX4_stake_19 (by decide) ?_
    refine sw_iret dX4_stake_22 rfl rfl rfl ?_
    exact hQ
  · have h1 := bI_1 hc
    rw [h1] at hb
    have h2 : rg (-100) 100 v = false := hb.resolve_left (by decide)
    clear hc
    refine sw_iload_n dX4_stake_12 rfl ?_
    refine sw_csi (c_isStake v) dX4_stake_13 lkX4_95 (by decide) rfl rfl (Nat.le_of_ble_eq_true rfl) ?_
    rw [h2]
    refine sw_if_ne (tgt := 23) dX4_stake_16 (by decide) (fun hc => ?_) (fun hc => ?_)
    · exact absurd rfl hc
    · refine sw_sipush (v := (-1000)) dX4_stake_19 (by decide) ?_
      refine sw_iret dX4_stake_22 rfl rfl rfl ?_
      exact hQ
theorem m_stake_bad (T : TM h n z sm) {c j v : Int32} (hb : (rg 0 ((z : Int) - 1) c && rg 0 (((2 ^ pop (sm c.toNatClampNeg) : Nat) : Int) - 1) j) = false ∨ rg (-100) 100 v = false) (hQ : Q (some (.int (-1000))) h) : Ctr jX5_stake [.ref 28, .int c, .int j, .int v] h Q := by
  refine ctr_start (by decide) (Nat.le_of_ble_eq_true rfl) rfl rfl ?_
  show SW jX5_stake E0 _ 0 [some (.ref 28), some (.int c), some (.int j), some (.int v), none] [] _
  refine sw_aload_n dX5_stake_0 rfl ?_
  refine sw_iload_n dX5_stake_1 rfl ?_
  refine sw_iload_n dX5_stake_2 rfl ?_
  refine sw_cvi (i := 0) (c_isJoint T c j) dX5_stake_3 lkX5_78 (by decide) ⟨by decide, _, rfl, rfl⟩ rfl rfl rfl (Nat.le_of_ble_eq_true rfl) ?_
  refine sw_if_eq (tgt := 23) dX5_stake_6 (by decide) (fun hc => ?_) (fun hc => ?_)
  · refine sw_sipush (v := (-1000)) dX5_stake_23 (by decide) ?_
    refine sw_iret dX5_stake_26 rfl rfl rfl ?_
    exact hQ
  · have h1 := bI_1 hc
    rw [h1] at hb
    have h2 : rg (-100) 100 v = false := hb.resolve_left (by decide)
    clear hc
    refine sw_iload_n dX5_stake_9 rfl ?_
    refine sw_i2l dX5_stake_10 ?_
    refine sw_ldc2_w (v := (-100)) dX5_stake_11 (by decide +kernel) ?_
    refine sw_ldc2_w (v := lN 100) dX5_stake_14 (by decide +kernel) ?_
    refine sw_csi (c_inR (l := -100) (u := 100) (by decide) (by decide)) dX5_stake_17 lkX5_59 (by decide) rfl rfl (Nat.le_of_ble_eq_true rfl) ?_
    rw [h2]
    refine sw_if_ne (tgt := 27) dX5_stake_20 (by decide) (fun hc => ?_) (fun hc => ?_)
    · exact absurd rfl hc
    · refine sw_sipush (v := (-1000)) dX5_stake_23 (by decide) ?_
      refine sw_iret dX5_stake_26 rfl rfl rfl ?_
      exact hQ
theorem x_stake (T : TX h n z sm) {c j : Nat} {v : Int32} (hc : c < z) (hj : j < 8) (hjt : rg 0 (((2 ^ pop (sm c) : Nat) : Int) - 1) (nI j) = true) (hv : rg (-100) 100 v = true) (hQ : Q (some (.int (h 5 (8 * c + j)))) (hset h 5 (8 * c + j) v)) : Ctr jX4_stake [.ref 0, .int (nI c), .int (nI j), .int v] h Q := by
  have hz8 := T.1.2.1
  have hcc := hc
  clear hc
  refine ctr_start (by decide) (Nat.le_of_ble_eq_true rfl) rfl rfl ?_
  show SW jX4_stake E0 _ 0 [some (.ref 0), some (.int (nI c)), some (.int (nI j)), some (.int v), none, none] [] _
  refine sw_aload_n dX4_stake_0 rfl ?_
  refine sw_getR dX4_stake_1 flX4_10 ⟨by decide, _, rfl, rfl⟩ ?_
  refine sw_iload_n dX4_stake_4 rfl ?_
  refine sw_iload_n dX4_stake_5 rfl ?_
  refine sw_cvi (i := 0) (c_hasJoint T (nI c) (nI j)) dX4_stake_6 lkX4_81 (by decide) ⟨by decide, _, rfl, rfl⟩ rfl rfl rfl (Nat.le_of_ble_eq_true rfl) ?_
  rw [rg_nI (by omega) hcc, nI_clamp (by omega), hjt]
  refine sw_if_eq (tgt := 19) dX4_stake_9 (by decide) (fun hc => ?_) (fun hc => ?_)
  · exact absurd hc (by decide)
  · clear hc
    refine sw_iload_n dX4_stake_12 rfl ?_
    refine sw_csi (c_isStake v) dX4_stake_13 lkX4_95 (by decide) rfl rfl (Nat.le_of_ble_eq_true rfl) ?_
    rw [hv]
    refine sw_if_ne (tgt := 23) dX4_stake_16 (by decide) (fun hc => ?_) (fun hc => ?_)
    · clear hc
      refine sw_bipush (v := nI 8) dX4_stake_23 (by decide) ?_
      refine sw_iload_n dX4_stake_25 rfl ?_
      first | refine sw_imulN dX4_stake_26 ?_ | refine sw_imul dX4_stake_26 ?_
      refine sw_iload_n dX4_stake_27 rfl ?_
      first | refine sw_iaddN dX4_stake_28 ?_ | refine sw_iadd dX4_stake_28 ?_
      refine sw_istore dX4_stake_29 (by decide) rfl ?_
      refine sw_aload_n dX4_stake_31 rfl ?_
      refine sw_getR dX4_stake_32 flX4_10 ⟨by decide, _, rfl, rfl⟩ ?_
      refine sw_getNR dX4_stake_35 fnX4_98 ⟨by decide, _, rfl, rfl⟩ ?_
      refine sw_iload dX4_stake_38 rfl ?_
      refine sw_iald dX4_stake_40 rfl (by simp only [plA]; omega) ?_
      refine sw_istore dX4_stake_41 (by decide) rfl ?_
      refine sw_aload_n dX4_stake_43 rfl ?_
      refine sw_getR dX4_stake_44 flX4_10 ⟨by decide, _, rfl, rfl⟩ ?_
      refine sw_getNR dX4_stake_47 fnX4_98 ⟨by decide, _, rfl, rfl⟩ ?_
      refine sw_iload dX4_stake_50 rfl ?_
      refine sw_iload_n dX4_stake_52 rfl ?_
      refine sw_iast dX4_stake_53 rfl (by simp only [plA]; omega) ?_
      refine sw_iload dX4_stake_54 rfl ?_
      refine sw_iret dX4_stake_56 rfl rfl rfl ?_
      exact hQ
    · exact absurd hc (by decide)
theorem m_stake (T : TM h n z sm) {c j : Nat} {v : Int32} (hc : c < z) (hj : j < 8) (hjt : rg 0 (((2 ^ pop (sm c) : Nat) : Int) - 1) (nI j) = true) (hv : rg (-100) 100 v = true) (hQ : Q (some (.int (h 32 (8 * c + j)))) (hset h 32 (8 * c + j) v)) : Ctr jX5_stake [.ref 28, .int (nI c), .int (nI j), .int v] h Q := by
  have hz8 := T.1.2.1
  have hcc := hc
  clear hc
  refine ctr_start (by decide) (Nat.le_of_ble_eq_true rfl) rfl rfl ?_
  show SW jX5_stake E0 _ 0 [some (.ref 28), some (.int (nI c)), some (.int (nI j)), some (.int v), none] [] _
  refine sw_aload_n dX5_stake_0 rfl ?_
  refine sw_iload_n dX5_stake_1 rfl ?_
  refine sw_iload_n dX5_stake_2 rfl ?_
  refine sw_cvi (i := 0) (c_isJoint T (nI c) (nI j)) dX5_stake_3 lkX5_78 (by decide) ⟨by decide, _, rfl, rfl⟩ rfl rfl rfl (Nat.le_of_ble_eq_true rfl) ?_
  rw [rg_nI (by omega) hcc, nI_clamp (by omega), hjt]
  refine sw_if_eq (tgt := 23) dX5_stake_6 (by decide) (fun hc => ?_) (fun hc => ?_)
  · exact absurd hc (by decide)
  · clear hc
    refine sw_iload_n dX5_stake_9 rfl ?_
    refine sw_i2l dX5_stake_10 ?_
    refine sw_ldc2_w (v := (-100)) dX5_stake_11 (by decide +kernel) ?_
    refine sw_ldc2_w (v := lN 100) dX5_stake_14 (by decide +kernel) ?_
    refine sw_csi (c_inR (l := -100) (u := 100) (by decide) (by decide)) dX5_stake_17 lkX5_59 (by decide) rfl rfl (Nat.le_of_ble_eq_true rfl) ?_
    rw [hv]
    refine sw_if_ne (tgt := 27) dX5_stake_20 (by decide) (fun hc => ?_) (fun hc => ?_)
    · clear hc
      refine sw_aload_n dX5_stake_27 rfl ?_
      refine sw_getR dX5_stake_28 flX5_23 ⟨by decide, _, rfl, rfl⟩ ?_
      refine sw_bipush (v := nI 8) dX5_stake_31 (by decide) ?_
      refine sw_iload_n dX5_stake_33 rfl ?_
      first | refine sw_imulN dX5_stake_34 ?_ | refine sw_imul dX5_stake_34 ?_
      refine sw_iload_n dX5_stake_35 rfl ?_
      first | refine sw_iaddN dX5_stake_36 ?_ | refine sw_iadd dX5_stake_36 ?_
      refine sw_iald dX5_stake_37 rfl (by simp only [plA]; omega) ?_
      refine sw_istore dX5_stake_38 (by decide) rfl ?_
      refine sw_aload_n dX5_stake_40 rfl ?_
      refine sw_getR dX5_stake_41 flX5_23 ⟨by decide, _, rfl, rfl⟩ ?_
      refine sw_bipush (v := nI 8) dX5_stake_44 (by decide) ?_
      refine sw_iload_n dX5_stake_46 rfl ?_
      first | refine sw_imulN dX5_stake_47 ?_ | refine sw_imul dX5_stake_47 ?_
      refine sw_iload_n dX5_stake_48 rfl ?_
      first | refine sw_iaddN dX5_stake_49 ?_ | refine sw_iadd dX5_stake_49 ?_
      refine sw_iload_n dX5_stake_50 rfl ?_
      refine sw_iast dX5_stake_51 rfl (by simp only [plA]; omega) ?_
      refine sw_iload dX5_stake_52 rfl ?_
      refine sw_iret dX5_stake_54 rfl rfl rfl ?_
      exact hQ
    · exact absurd hc (by decide)
theorem b_stake (c j v : Int32) : Both jX4_stake jX5_stake [.int c, .int j, .int v] := by
  intro h K hK hI
  have hI0 := hI
  obtain ⟨n, z, sm, lf, r, I⟩ := hI
  have I' := I
  obtain ⟨i1, iT, iM, iW, iS, iC, iR, iH⟩ := I'
  by_cases hb : (rg 0 ((z : Int) - 1) c && rg 0 (((2 ^ pop (sm c.toNatClampNeg) : Nat) : Int) - 1) j) = false ∨ rg (-100) 100 v = false
  · exact ⟨-1000, x_stake_bad iT hb ⟨rfl, m_stake_bad iM hb ⟨rfl, hI0.up⟩⟩⟩
  · have h1 : (rg 0 ((z : Int) - 1) c && rg 0 (((2 ^ pop (sm c.toNatClampNeg) : Nat) : Int) - 1) j) = true := by
      cases q : (rg 0 ((z : Int) - 1) c && rg 0 (((2 ^ pop (sm c.toNatClampNeg) : Nat) : Int) - 1) j) with
      | true => rfl
      | false => exact absurd (Or.inl q) hb
    have h2 : rg (-100) 100 v = true := by
      cases q : rg (-100) 100 v with
      | true => rfl
      | false => exact absurd (Or.inr q) hb
    rw [Bool.and_eq_true] at h1
    have hz8 := iT.1.2.1
    obtain ⟨k, hk, rfl⟩ := rg_nat (by omega) h1.1
    have hjt := h1.2
    rw [nI_clamp (by omega)] at hjt
    have hp := pow3 (iT.2.1 k hk).2.2.2
    obtain ⟨i, hi, rfl⟩ := rg_nat (by omega) hjt
    refine ⟨_, x_stake iT hk (j := i) (by omega) hjt h2 ⟨rfl, ?_⟩⟩
    have iM' : TM (hset h 5 (8 * k + i) v) n z sm := TM_keep iM (hset_k (by decide)) (hset_k (by decide)) (hset_off 29 (by decide))
    refine m_stake iM' hk (j := i) (by omega) hjt h2 ⟨by rw [hset_k (by decide), iS.1 _ (by omega)], ?_⟩
    refine ⟨n, z, sm, lf, r, I0_sp I (fun q q3 q5 q30 q32 => by rw [hset_off q q32, hset_off q q5]) ⟨fun q hq => ?_, ?_⟩⟩
    · rw [hset_off 5 (by decide), hset_same, hset_same, hset_off 32 (by decide)]
      by_cases e : q = 8 * k + i
      · rw [e, pk_us, pk_us]
      · rw [pk_un e, pk_un e]
        exact iS.1 q hq
    · rw [hset_off 3 (by decide), hset_off 3 (by decide), hset_off 30 (by decide), hset_off 30 (by decide)]
      exact iS.2
theorem x_parity_bad (T : TX h n z sm) {c v : Int32} (hb : rg 0 ((z : Int) - 1) c = false ∨ ¬ okP v) (hQ : Q (some (.int (-1))) h) : Ctr jX4_parity [.ref 0, .int c, .int v] h Q := by
  refine ctr_start (by decide) (Nat.le_of_ble_eq_true rfl) rfl rfl ?_
  show SW jX4_parity E0 _ 0 [some (.ref 0), some (.int c), some (.int v), none] [] _
  refine sw_aload_n dX4_parity_0 rfl ?_
  refine sw_getR dX4_parity_1 flX4_10 ⟨by decide, _, rfl, rfl⟩ ?_
  refine sw_iload_n dX4_parity_4 rfl ?_
  refine sw_cvi (i := 0) (c_hasSet T c) dX4_parity_5 lkX4_68 (by decide) ⟨by decide, _, rfl, rfl⟩ rfl rfl rfl (Nat.le_of_ble_eq_true rfl) ?_
  refine sw_if_eq (tgt := 26) dX4_parity_8 (by decide) (fun hc => ?_) (fun hc => ?_)
  · refine sw_iconst (v := (-1)) dX4_parity_26 (by decide) ?_
    refine sw_iret dX4_parity_27 rfl rfl rfl ?_
    exact hQ
  · have h1 := bI_1 hc
    rw [h1] at hb
    have h2 : ¬ okP v := hb.resolve_left (by decide)
    clear hc
    refine sw_iload_n dX4_parity_11 rfl ?_
    refine sw_if_eq (tgt := 28) dX4_parity_12 (by decide) (fun hc => ?_) (fun hc => ?_)
    · exact absurd (Or.inl hc) h2
    · clear hc
      refine sw_iload_n dX4_parity_15 rfl ?_
      refine sw_iconst (v := nI 1) dX4_parity_16 (by decide) ?_
      refine sw_icmp_eq (tgt := 28) dX4_parity_17 (by decide) (fun hc => ?_) (fun hc => ?_)
      · exact absurd (Or.inr (Or.inl hc)) h2
      · clear hc
        refine sw_iload_n dX4_parity_20 rfl ?_
        refine sw_bipush (v := (-4)) dX4_parity_21 (by decide) ?_
        refine sw_icmp_eq (tgt := 28) dX4_parity_23 (by decide) (fun hc => ?_) (fun hc => ?_)
        · exact absurd (Or.inr (Or.inr hc)) h2
        · refine sw_iconst (v := (-1)) dX4_parity_26 (by decide) ?_
          refine sw_iret dX4_parity_27 rfl rfl rfl ?_
          exact hQ
theorem okP_rg {v : Int32} : okP v ↔ v = -4 ∨ rg 0 1 v = true := by
  unfold okP
  constructor
  · rintro (q | q | q)
    · exact Or.inr (by rw [q]; decide)
    · exact Or.inr (by rw [q]; decide)
    · exact Or.inl q
  · rintro (q | q)
    · exact Or.inr (Or.inr q)
    · obtain ⟨k, hk, rfl⟩ := rg_nat2 (z := 1) (by omega) q
      rcases (show k = 0 ∨ k = 1 by omega) with rfl | rfl
      · exact Or.inl rfl
      · exact Or.inr (Or.inl rfl)
theorem m_parity_bad (T : TM h n z sm) {c v : Int32} (hb : rg 0 ((z : Int) - 1) c = false ∨ ¬ okP v) (hQ : Q (some (.int (-1))) h) : Ctr jX5_parity [.ref 28, .int c, .int v] h Q := by
  refine ctr_start (by decide) (Nat.le_of_ble_eq_true rfl) rfl rfl ?_
  show SW jX5_parity E0 _ 0 [some (.ref 28), some (.int c), some (.int v), none] [] _
  refine sw_aload_n dX5_parity_0 rfl ?_
  refine sw_iload_n dX5_parity_1 rfl ?_
  refine sw_cvi (i := 0) (c_isSet T.1.2.1 T.1.2.2.2 c) dX5_parity_2 lkX5_63 (by decide) ⟨by decide, _, rfl, rfl⟩ rfl rfl rfl (Nat.le_of_ble_eq_true rfl) ?_
  refine sw_if_eq (tgt := 24) dX5_parity_5 (by decide) (fun hc => ?_) (fun hc => ?_)
  · refine sw_iconst (v := (-1)) dX5_parity_24 (by decide) ?_
    refine sw_iret dX5_parity_25 rfl rfl rfl ?_
    exact hQ
  · have h1 := bI_1 hc
    rw [h1] at hb
    have h2 : ¬ okP v := hb.resolve_left (by decide)
    clear hc
    refine sw_iload_n dX5_parity_8 rfl ?_
    refine sw_bipush (v := (-4)) dX5_parity_9 (by decide) ?_
    refine sw_icmp_eq (tgt := 26) dX5_parity_11 (by decide) (fun hc => ?_) (fun hc => ?_)
    · exact absurd (Or.inr (Or.inr hc)) h2
    · clear hc
      refine sw_iload_n dX5_parity_14 rfl ?_
      refine sw_i2l dX5_parity_15 ?_
      refine sw_lconst (v := lN 0) dX5_parity_16 (by decide) ?_
      refine sw_lconst (v := lN 1) dX5_parity_17 (by decide) ?_
      refine sw_csi (c_inR (l := 0) (u := 1) (by decide) (by decide)) dX5_parity_18 lkX5_59 (by decide) rfl rfl (Nat.le_of_ble_eq_true rfl) ?_
      refine sw_if_ne (tgt := 26) dX5_parity_21 (by decide) (fun hc => ?_) (fun hc => ?_)
      · exact absurd (okP_rg.mpr (Or.inr (bI_1 hc))) h2
      · refine sw_iconst (v := (-1)) dX5_parity_24 (by decide) ?_
        refine sw_iret dX5_parity_25 rfl rfl rfl ?_
        exact hQ
theorem x_parity (T : TX h n z sm) {c : Nat} {v : Int32} (hc : c < z) (hv : okP v) (hQ : Q (some (.int (h 3 c))) (hset h 3 c v)) : Ctr jX4_parity [.ref 0, .int (nI c), .int v] h Q := by
  have hz8 := T.1.2.1
  have hcc := hc
  clear hc
  have fin : SW jX4_parity E0 (Zm Q) 28 [some (.ref 0), some (.int (nI c)), some (.int v), none] [] h := by
    refine sw_aload_n dX4_parity_28 rfl ?_
    refine sw_getR dX4_parity_29 flX4_10 ⟨by decide, _, rfl, rfl⟩ ?_
    refine sw_getNR dX4_parity_32 fnX4_78 ⟨by decide, _, rfl, rfl⟩ ?_
    refine sw_iload_n dX4_parity_35 rfl ?_
    refine sw_iald dX4_parity_36 rfl (by simp only [plA]; omega) ?_
    refine sw_istore_n dX4_parity_37 (by decide) rfl ?_
    refine sw_aload_n dX4_parity_38 rfl ?_
    refine sw_getR dX4_parity_39 flX4_10 ⟨by decide, _, rfl, rfl⟩ ?_
    refine sw_getNR dX4_parity_42 fnX4_78 ⟨by decide, _, rfl, rfl⟩ ?_
    refine sw_iload_n dX4_parity_45 rfl ?_
    refine sw_iload_n dX4_parity_46 rfl ?_
    refine sw_iast dX4_parity_47 rfl (by simp only [plA]; omega) ?_
    refine sw_iload_n dX4_parity_48 rfl ?_
    refine sw_iret dX4_parity_49 rfl rfl rfl ?_
    exact hQ
  refine ctr_start (by decide) (Nat.le_of_ble_eq_true rfl) rfl rfl ?_
  show SW jX4_parity E0 _ 0 [some (.ref 0), some (.int (nI c)), some (.int v), none] [] _
  refine sw_aload_n dX4_parity_0 rfl ?_
  refine sw_getR dX4_parity_1 flX4_10 ⟨by decide, _, rfl, rfl⟩ ?_
  refine sw_iload_n dX4_parity_4 rfl ?_
  refine sw_cvi (i := 0) (c_hasSet T (nI c)) dX4_parity_5 lkX4_68 (by decide) ⟨by decide, _, rfl, rfl⟩ rfl rfl rfl (Nat.le_of_ble_eq_true rfl) ?_
  rw [rg_nI (by omega) hcc]
  refine sw_if_eq (tgt := 26) dX4_parity_8 (by decide) (fun hc => ?_) (fun hc => ?_)
  · exact absurd hc (by decide)
  · clear hc
    refine sw_iload_n dX4_parity_11 rfl ?_
    refine sw_if_eq (tgt := 28) dX4_parity_12 (by decide) (fun hc => ?_) (fun hc => ?_)
    · exact fin
    · have h0 := hc
      clear hc
      refine sw_iload_n dX4_parity_15 rfl ?_
      refine sw_iconst (v := nI 1) dX4_parity_16 (by decide) ?_
      refine sw_icmp_eq (tgt := 28) dX4_parity_17 (by decide) (fun hc => ?_) (fun hc => ?_)
      · exact fin
      · have h1 := hc
        clear hc
        refine sw_iload_n dX4_parity_20 rfl ?_
        refine sw_bipush (v := (-4)) dX4_parity_21 (by decide) ?_
        refine sw_icmp_eq (tgt := 28) dX4_parity_23 (by decide) (fun hc => ?_) (fun hc => ?_)
        · exact fin
        · rcases hv with q | q | q
          · exact absurd q h0
          · exact absurd q h1
          · exact absurd q hc
theorem m_parity (T : TM h n z sm) {c : Nat} {v : Int32} (hc : c < z) (hv : okP v) (hQ : Q (some (.int (h 30 c))) (hset h 30 c v)) : Ctr jX5_parity [.ref 28, .int (nI c), .int v] h Q := by
  have hz8 := T.1.2.1
  have hcc := hc
  clear hc
  have fin : SW jX5_parity E0 (Zm Q) 26 [some (.ref 28), some (.int (nI c)), some (.int v), none] [] h := by
    refine sw_aload_n dX5_parity_26 rfl ?_
    refine sw_getR dX5_parity_27 flX5_17 ⟨by decide, _, rfl, rfl⟩ ?_
    refine sw_iload_n dX5_parity_30 rfl ?_
    refine sw_iald dX5_parity_31 rfl (by simp only [plA]; omega) ?_
    refine sw_istore_n dX5_parity_32 (by decide) rfl ?_
    refine sw_aload_n dX5_parity_33 rfl ?_
    refine sw_getR dX5_parity_34 flX5_17 ⟨by decide, _, rfl, rfl⟩ ?_
    refine sw_iload_n dX5_parity_37 rfl ?_
    refine sw_iload_n dX5_parity_38 rfl ?_
    refine sw_iast dX5_parity_39 rfl (by simp only [plA]; omega) ?_
    refine sw_iload_n dX5_parity_40 rfl ?_
    refine sw_iret dX5_parity_41 rfl rfl rfl ?_
    exact hQ
  refine ctr_start (by decide) (Nat.le_of_ble_eq_true rfl) rfl rfl ?_
  show SW jX5_parity E0 _ 0 [some (.ref 28), some (.int (nI c)), some (.int v), none] [] _
  refine sw_aload_n dX5_parity_0 rfl ?_
  refine sw_iload_n dX5_parity_1 rfl ?_
  refine sw_cvi (i := 0) (c_isSet T.1.2.1 T.1.2.2.2 (nI c)) dX5_parity_2 lkX5_63 (by decide) ⟨by decide, _, rfl, rfl⟩ rfl rfl rfl (Nat.le_of_ble_eq_true rfl) ?_
  rw [rg_nI (by omega) hcc]
  refine sw_if_eq (tgt := 24) dX5_parity_5 (by decide) (fun hc => ?_) (fun hc => ?_)
  · exact absurd hc (by decide)
  · clear hc
    refine sw_iload_n dX5_parity_8 rfl ?_
    refine sw_bipush (v := (-4)) dX5_parity_9 (by decide) ?_
    refine sw_icmp_eq (tgt := 26) dX5_parity_11 (by decide) (fun hc => ?_) (fun hc => ?_)
    · exact fin
    · have h4 := hc
      clear hc
      refine sw_iload_n dX5_parity_14 rfl ?_
      refine sw_i2l dX5_parity_15 ?_
      refine sw_lconst (v := lN 0) dX5_parity_16 (by decide) ?_
      refine sw_lconst (v := lN 1) dX5_parity_17 (by decide) ?_
      refine sw_csi (c_inR (l := 0) (u := 1) (by decide) (by decide)) dX5_parity_18 lkX5_59 (by decide) rfl rfl (Nat.le_of_ble_eq_true rfl) ?_
      refine sw_if_ne (tgt := 26) dX5_parity_21 (by decide) (fun hc => ?_) (fun hc => ?_)
      · exact fin
      · have h5 := (okP_rg.mp hv).resolve_left h4
        rw [h5] at hc
        exact absurd hc (by decide)
theorem b_parity (c v : Int32) : Both jX4_parity jX5_parity [.int c, .int v] := by
  intro h K hK hI
  have hI0 := hI
  obtain ⟨n, z, sm, lf, r, I⟩ := hI
  have I' := I
  obtain ⟨i1, iT, iM, iW, iS, iC, iR, iH⟩ := I'
  by_cases hb : rg 0 ((z : Int) - 1) c = false ∨ ¬ okP v
  · exact ⟨-1, x_parity_bad iT hb ⟨rfl, m_parity_bad iM hb ⟨rfl, hI0.up⟩⟩⟩
  · have h1 : rg 0 ((z : Int) - 1) c = true := by
      cases q : rg 0 ((z : Int) - 1) c with
      | true => rfl
      | false => exact absurd (Or.inl q) hb
    have h2 : okP v := Classical.byContradiction (fun q => hb (Or.inr q))
    have hz8 := iT.1.2.1
    obtain ⟨k, hk, rfl⟩ := rg_nat (by omega) h1
    refine ⟨_, x_parity iT hk h2 ⟨rfl, ?_⟩⟩
    have iM' : TM (hset h 3 k v) n z sm := TM_keep iM (hset_k (by decide)) (hset_k (by decide)) (hset_off 29 (by decide))
    refine m_parity iM' hk h2 ⟨by rw [hset_k (by decide), (iS.2 k (by omega)).1], ?_⟩
    refine ⟨n, z, sm, lf, r, I0_sp I (fun q q3 q5 q30 q32 => by rw [hset_off q q30, hset_off q q3]) ⟨?_, fun q hq => ?_⟩⟩
    · rw [hset_off 5 (by decide), hset_off 5 (by decide), hset_off 32 (by decide), hset_off 32 (by decide)]
      exact iS.1
    · rw [hset_off 3 (by decide), hset_same, hset_same, hset_off 30 (by decide)]
      by_cases e : q = k
      · rw [e, pk_us, pk_us]
        exact ⟨rfl, h2⟩
      · rw [pk_un e, pk_un e]
        exact iS.2 q hq
theorem x_joint_bad (T : TX h n z sm) {c x : Int32} (hb : rg 0 ((z : Int) - 1) c = false ∨ rg 0 (((2 ^ n : Nat) : Int) - 1) x = false) (hQ : Q (some (.int (-1))) h) : Ctr jX4_joint [.ref 0, .int c, .int x] h Q := by
  have h64 := pow6 T.1.1
  refine ctr_start (by decide) (Nat.le_of_ble_eq_true rfl) rfl rfl ?_
  show SW jX4_joint E0 _ 0 [some (.ref 0), some (.int c), some (.int x)] [] _
  refine sw_aload_n dX4_joint_0 rfl ?_
  refine sw_getR dX4_joint_1 flX4_10 ⟨by decide, _, rfl, rfl⟩ ?_
  refine sw_iload_n dX4_joint_4 rfl ?_
  refine sw_cvi (i := 0) (c_hasSet T c) dX4_joint_5 lkX4_68 (by decide) ⟨by decide, _, rfl, rfl⟩ rfl rfl rfl (Nat.le_of_ble_eq_true rfl) ?_
  refine sw_if_eq (tgt := 26) dX4_joint_8 (by decide) (fun hc => ?_) (fun hc => ?_)
  · refine sw_iconst (v := (-1)) dX4_joint_26 (by decide) ?_
    refine sw_iret dX4_joint_27 rfl rfl rfl ?_
    exact hQ
  · have h1 := bI_1 hc
    rw [h1] at hb
    have h2 : rg 0 (((2 ^ n : Nat) : Int) - 1) x = false := hb.resolve_left (by decide)
    clear hc
    refine sw_iload_n dX4_joint_11 rfl ?_
    refine sw_if_lt (tgt := 26) dX4_joint_12 (by decide) (fun hc => ?_) (fun hc => ?_)
    · refine sw_iconst (v := (-1)) dX4_joint_26 (by decide) ?_
      refine sw_iret dX4_joint_27 rfl rfl rfl ?_
      exact hQ
    · rw [i_lt, t_0] at hc
      have h0 := hc
      clear hc
      refine sw_iload_n dX4_joint_15 rfl ?_
      refine sw_aload_n dX4_joint_16 rfl ?_
      refine sw_getR dX4_joint_17 flX4_10 ⟨by decide, _, rfl, rfl⟩ ?_
      refine sw_cvi (i := 0) (c_hiddenCount T.1.2.2.1 T.1.1) dX4_joint_20 lkX4_45 (by decide) ⟨by decide, _, rfl, rfl⟩ rfl rfl rfl (Nat.le_of_ble_eq_true rfl) ?_
      refine sw_icmp_lt (tgt := 28) dX4_joint_23 (by decide) (fun hc => ?_) (fun hc => ?_)
      · rw [i_lt, t_N (by omega)] at hc
        exact absurd (rg_t (lo := 0) (hi := ((2 ^ n : Nat) : Int) - 1) (v := x) (by omega) (by omega)) (by rw [h2]; decide)
      · refine sw_iconst (v := (-1)) dX4_joint_26 (by decide) ?_
        refine sw_iret dX4_joint_27 rfl rfl rfl ?_
        exact hQ
theorem m_joint_bad (T : TM h n z sm) {c x : Int32} (hb : rg 0 ((z : Int) - 1) c = false ∨ rg 0 (((2 ^ n : Nat) : Int) - 1) x = false) (hQ : Q (some (.int (-1))) h) : Ctr jX5_joint [.ref 28, .int c, .int x] h Q := by
  have h64 := pow6 T.1.1
  refine ctr_start (by decide) (Nat.le_of_ble_eq_true rfl) rfl rfl ?_
  show SW jX5_joint E0 _ 0 [some (.ref 28), some (.int c), some (.int x)] [] _
  refine sw_aload_n dX5_joint_0 rfl ?_
  refine sw_iload_n dX5_joint_1 rfl ?_
  refine sw_cvi (i := 0) (c_isSet T.1.2.1 T.1.2.2.2 c) dX5_joint_2 lkX5_63 (by decide) ⟨by decide, _, rfl, rfl⟩ rfl rfl rfl (Nat.le_of_ble_eq_true rfl) ?_
  refine sw_if_eq (tgt := 33) dX5_joint_5 (by decide) (fun hc => ?_) (fun hc => ?_)
  · refine sw_iconst (v := (-1)) dX5_joint_33 (by decide) ?_
    refine sw_iret dX5_joint_34 rfl rfl rfl ?_
    exact hQ
  · have h1 := bI_1 hc
    rw [h1] at hb
    have h2 : rg 0 (((2 ^ n : Nat) : Int) - 1) x = false := hb.resolve_left (by decide)
    clear hc
    refine sw_iload_n dX5_joint_8 rfl ?_
    refine sw_i2l dX5_joint_9 ?_
    refine sw_lconst (v := lN 0) dX5_joint_10 (by decide) ?_
    refine sw_aload_n dX5_joint_11 rfl ?_
    refine sw_cvi (i := 0) (c_hiddenMany T.1.2.2.1 T.1.1) dX5_joint_12 lkX5_88 (by decide) ⟨by decide, _, rfl, rfl⟩ rfl rfl rfl (Nat.le_of_ble_eq_true rfl) ?_
    refine sw_iconst (v := nI 1) dX5_joint_15 (by decide) ?_
    refine sw_isub dX5_joint_16 ?_
    refine sw_i2l dX5_joint_17 ?_
    refine sw_csi (c_inR (l := 0) (u := ((2 ^ n : Nat) : Int) - 1) (by decide) (i64S (by omega))) dX5_joint_18 lkX5_59 (by decide) rfl rfl (Nat.le_of_ble_eq_true rfl) ?_
    rw [h2]
    refine sw_if_eq (tgt := 33) dX5_joint_21 (by decide) (fun hc => ?_) (fun hc => ?_)
    · refine sw_iconst (v := (-1)) dX5_joint_33 (by decide) ?_
      refine sw_iret dX5_joint_34 rfl rfl rfl ?_
      exact hQ
    · exact absurd rfl hc
theorem x_joint (T : TX h n z sm) {c x : Nat} (hc : c < z) (hx : x < 2 ^ n) (hQ : Q (some (.int (nI (jnt (sm c) x)))) h) : Ctr jX4_joint [.ref 0, .int (nI c), .int (nI x)] h Q := by
  have h64 := pow6 T.1.1
  have hz8 := T.1.2.1
  have hj := T.j8 hc x
  have hcc := hc
  clear hc
  refine ctr_start (by decide) (Nat.le_of_ble_eq_true rfl) rfl rfl ?_
  show SW jX4_joint E0 _ 0 [some (.ref 0), some (.int (nI c)), some (.int (nI x))] [] _
  refine sw_aload_n dX4_joint_0 rfl ?_
  refine sw_getR dX4_joint_1 flX4_10 ⟨by decide, _, rfl, rfl⟩ ?_
  refine sw_iload_n dX4_joint_4 rfl ?_
  refine sw_cvi (i := 0) (c_hasSet T (nI c)) dX4_joint_5 lkX4_68 (by decide) ⟨by decide, _, rfl, rfl⟩ rfl rfl rfl (Nat.le_of_ble_eq_true rfl) ?_
  rw [rg_nI (by omega) hcc]
  refine sw_if_eq (tgt := 26) dX4_joint_8 (by decide) (fun hc => ?_) (fun hc => ?_)
  · exact absurd hc (by decide)
  · clear hc
    refine sw_iload_n dX4_joint_11 rfl ?_
    refine sw_if_lt (tgt := 26) dX4_joint_12 (by decide) (fun hc => ?_) (fun hc => ?_)
    · exact absurd hc (nI_pos (by omega))
    · clear hc
      refine sw_iload_n dX4_joint_15 rfl ?_
      refine sw_aload_n dX4_joint_16 rfl ?_
      refine sw_getR dX4_joint_17 flX4_10 ⟨by decide, _, rfl, rfl⟩ ?_
      refine sw_cvi (i := 0) (c_hiddenCount T.1.2.2.1 T.1.1) dX4_joint_20 lkX4_45 (by decide) ⟨by decide, _, rfl, rfl⟩ rfl rfl rfl (Nat.le_of_ble_eq_true rfl) ?_
      refine sw_icmpN_lt (tgt := 28) dX4_joint_23 (by decide) (by omega) (by omega) (fun hc => ?_) (fun hc => ?_)
      · refine sw_aload_n dX4_joint_28 rfl ?_
        refine sw_getR dX4_joint_29 flX4_10 ⟨by decide, _, rfl, rfl⟩ ?_
        refine sw_iload_n dX4_joint_32 rfl ?_
        refine sw_iload_n dX4_joint_33 rfl ?_
        refine sw_cvi (i := 0) (c_placeBy T hcc hx) dX4_joint_34 lkX4_101 (by decide) ⟨by decide, _, rfl, rfl⟩ rfl rfl rfl (Nat.le_of_ble_eq_true rfl) ?_
        refine sw_bipush (v := nI 8) dX4_joint_37 (by decide) ?_
        refine sw_iload_n dX4_joint_39 rfl ?_
        first | refine sw_imulN dX4_joint_40 ?_ | refine sw_imul dX4_joint_40 ?_
        first | refine sw_isubN dX4_joint_41 (by omega) ?_ | refine sw_isub dX4_joint_41 ?_
        rw [show 8 * c + jnt (sm c) x - 8 * c = jnt (sm c) x by omega]
        refine sw_iret dX4_joint_42 rfl rfl rfl ?_
        exact hQ
      · omega
theorem m_joint (T : TM h n z sm) {c x : Nat} (hc : c < z) (hx : x < 2 ^ n) (hQ : Q (some (.int (nI (jnt (sm c) x)))) h) : Ctr jX5_joint [.ref 28, .int (nI c), .int (nI x)] h Q := by
  have h64 := pow6 T.1.1
  have hz8 := T.1.2.1
  have hcc := hc
  clear hc
  refine ctr_start (by decide) (Nat.le_of_ble_eq_true rfl) rfl rfl ?_
  show SW jX5_joint E0 _ 0 [some (.ref 28), some (.int (nI c)), some (.int (nI x))] [] _
  refine sw_aload_n dX5_joint_0 rfl ?_
  refine sw_iload_n dX5_joint_1 rfl ?_
  refine sw_cvi (i := 0) (c_isSet T.1.2.1 T.1.2.2.2 (nI c)) dX5_joint_2 lkX5_63 (by decide) ⟨by decide, _, rfl, rfl⟩ rfl rfl rfl (Nat.le_of_ble_eq_true rfl) ?_
  rw [rg_nI (by omega) hcc]
  refine sw_if_eq (tgt := 33) dX5_joint_5 (by decide) (fun hc => ?_) (fun hc => ?_)
  · exact absurd hc (by decide)
  · clear hc
    refine sw_iload_n dX5_joint_8 rfl ?_
    refine sw_i2l dX5_joint_9 ?_
    refine sw_lconst (v := lN 0) dX5_joint_10 (by decide) ?_
    refine sw_aload_n dX5_joint_11 rfl ?_
    refine sw_cvi (i := 0) (c_hiddenMany T.1.2.2.1 T.1.1) dX5_joint_12 lkX5_88 (by decide) ⟨by decide, _, rfl, rfl⟩ rfl rfl rfl (Nat.le_of_ble_eq_true rfl) ?_
    refine sw_iconst (v := nI 1) dX5_joint_15 (by decide) ?_
    refine sw_isub dX5_joint_16 ?_
    refine sw_i2l dX5_joint_17 ?_
    refine sw_csi (c_inR (l := 0) (u := ((2 ^ n : Nat) : Int) - 1) (by decide) (i64S (by omega))) dX5_joint_18 lkX5_59 (by decide) rfl rfl (Nat.le_of_ble_eq_true rfl) ?_
    rw [rg_nI (by omega) hx]
    refine sw_if_eq (tgt := 33) dX5_joint_21 (by decide) (fun hc => ?_) (fun hc => ?_)
    · exact absurd hc (by decide)
    · refine sw_aload_n dX5_joint_24 rfl ?_
      refine sw_iload_n dX5_joint_25 rfl ?_
      refine sw_iload_n dX5_joint_26 rfl ?_
      refine sw_cvi (i := 0) (c_jointOf T hcc (by omega)) dX5_joint_27 lkX5_92 (by decide) ⟨by decide, _, rfl, rfl⟩ rfl rfl rfl (Nat.le_of_ble_eq_true rfl) ?_
      refine sw_goto (tgt := 34) dX5_joint_30 (by decide) ?_
      refine sw_iret dX5_joint_34 rfl rfl rfl ?_
      exact hQ
theorem b_joint (c x : Int32) : Both jX4_joint jX5_joint [.int c, .int x] := by
  intro h K hK hI
  have hI0 := hI
  obtain ⟨n, z, sm, lf, r, i1, iT, iM, iW, iS, iC, iR, iH⟩ := hI
  by_cases hb : rg 0 ((z : Int) - 1) c = false ∨ rg 0 (((2 ^ n : Nat) : Int) - 1) x = false
  · exact ⟨-1, x_joint_bad iT hb ⟨rfl, m_joint_bad iM hb ⟨rfl, hI0.up⟩⟩⟩
  · have h1 : rg 0 ((z : Int) - 1) c = true := by
      cases q : rg 0 ((z : Int) - 1) c with
      | true => rfl
      | false => exact absurd (Or.inl q) hb
    have h2 : rg 0 (((2 ^ n : Nat) : Int) - 1) x = true := by
      cases q : rg 0 (((2 ^ n : Nat) : Int) - 1) x with
      | true => rfl
      | false => exact absurd (Or.inr q) hb
    have hz8 := iT.1.2.1
    have h64 := pow6 iT.1.1
    obtain ⟨k, hk, rfl⟩ := rg_nat (by omega) h1
    obtain ⟨y, hy, rfl⟩ := rg_nat (by omega) h2
    exact ⟨_, x_joint iT hk hy ⟨rfl, m_joint iM hk hy ⟨rfl, hI0.up⟩⟩⟩
end OPS
