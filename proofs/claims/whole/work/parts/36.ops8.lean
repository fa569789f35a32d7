/-! calls: fulfil, proof -/
abbrev ffN (p : Nat → Int32) (z : Nat) (sm : Nat → Nat) (x : Nat) : Bool := allB (fun c => decide (p c = -4 ∨ nI (pop (x &&& sm c) % 2) = p c)) z
/-- the best proof below i: 0, if none -/
def bp (P : Nat → Bool) : Nat → Nat
  | 0 => 0
  | i + 1 => if ¬ i = 0 ∧ P i = true ∧ (bp P i = 0 ∨ pop i < pop (bp P i)) then i else bp P i
theorem bp_cong {P R : Nat → Bool} : ∀ {n : Nat}, (∀ k, k < n → P k = R k) → bp P n = bp R n
  | 0, _ => rfl
  | n + 1, h => by
    simp only [bp]
    rw [bp_cong (fun k hk => h k (by omega)), h n (by omega)]
theorem bp_lt (P : Nat → Bool) : ∀ n, 0 < n → bp P n < n
  | 0, h => absurd h (Nat.lt_irrefl 0)
  | n + 1, _ => by
    simp only [bp]
    split
    · omega
    · rcases Nat.eq_zero_or_pos n with q | q
      · subst q; simp [bp]
      · have := bp_lt P n q; omega
def bpV (b : Nat) : Int32 := if b = 0 then -4 else nI b
theorem pop8 {x : Nat} (h : x < 256) : pop x ≤ 8 := by
  have h1 := bs_stop (s := x) (n := 8) h 8
  have h2 := bs_le x 8
  unfold pop
  rw [show (16 : Nat) = 8 + 8 by rfl, h1]
  exact h2
theorem bpV_4 {b : Nat} (h : b < 256) : bpV b = -4 ↔ b = 0 := by
  unfold bpV
  constructor
  · intro q
    by_cases e : b = 0
    · exact e
    · rw [if_neg e] at q
      have := congrArg Int32.toInt q
      rw [nI_toInt (by omega), show (-4 : Int32).toInt = -4 by decide] at this
      omega
  · intro q; rw [if_pos q]
section OPS
variable {h : Hp} {n z : Nat} {sm lf : Nat → Nat} {Q : Option Value → Hp → Prop}
theorem x_fulfil (T : TX h n z sm) (h0 : z = 0 → Q (some (.int (-2))) h) (k1 : ¬ z = 0 → Q (some (.int (nI (fa_cnt (ffN (h 3) z sm) (2 ^ n))))) h) : Ctr jX4_fulfil [.ref 0] h Q := by
  have hz8 := T.1.2.1
  have h64 := pow6 T.1.1
  refine ctr_start (by decide) (Nat.le_of_ble_eq_true rfl) rfl rfl ?_
  show SW jX4_fulfil E0 _ 0 [some (.ref 0), none, none] [] _
  refine sw_aload_n dX4_fulfil_0 rfl ?_
  refine sw_getR dX4_fulfil_1 flX4_10 ⟨by decide, _, rfl, rfl⟩ ?_
  refine sw_getNI dX4_fulfil_4 fnX4_59 ⟨by decide, _, rfl, rfl⟩ ?_
  rw [T.1.2.2.2]
  refine sw_if_ne (tgt := 13) dX4_fulfil_7 (by decide) (fun hc => ?_) (fun hc => ?_)
  · rw [z0_iff hz8] at hc
    have hQ := k1 hc
    clear hc
    refine sw_iconst (v := nI 0) dX4_fulfil_13 (by decide) ?_
    refine sw_istore_n dX4_fulfil_14 (by decide) rfl ?_
    refine sw_iconst (v := nI 0) dX4_fulfil_15 (by decide) ?_
    refine sw_istore_n dX4_fulfil_16 (by decide) rfl ?_
    refine lp_up (n := 2 ^ n) (S := fun i => SW jX4_fulfil E0 (Zm Q) 17 [some (.ref 0), some (.int (nI (fa_cnt (ffN (h 3) z sm) i))), some (.int (nI i))] [] h) ?_ ?_ 0 (Nat.zero_le _)
    · refine sw_iload_n dX4_fulfil_17 rfl ?_
      refine sw_aload_n dX4_fulfil_18 rfl ?_
      refine sw_getR dX4_fulfil_19 flX4_10 ⟨by decide, _, rfl, rfl⟩ ?_
      refine sw_cvi (i := 0) (c_hiddenCount T.1.2.2.1 T.1.1) dX4_fulfil_22 lkX4_45 (by decide) ⟨by decide, _, rfl, rfl⟩ rfl rfl rfl (Nat.le_of_ble_eq_true rfl) ?_
      refine sw_icmpN_ge (tgt := 48) dX4_fulfil_25 (by decide) (by omega) (by omega) (fun hc => ?_) (fun hc => ?_)
      · refine sw_iload_n dX4_fulfil_48 rfl ?_
        refine sw_iret dX4_fulfil_49 rfl rfl rfl ?_
        exact hQ
      · omega
    · intro i hi ih
      refine sw_iload_n dX4_fulfil_17 rfl ?_
      refine sw_aload_n dX4_fulfil_18 rfl ?_
      refine sw_getR dX4_fulfil_19 flX4_10 ⟨by decide, _, rfl, rfl⟩ ?_
      refine sw_cvi (i := 0) (c_hiddenCount T.1.2.2.1 T.1.1) dX4_fulfil_22 lkX4_45 (by decide) ⟨by decide, _, rfl, rfl⟩ rfl rfl rfl (Nat.le_of_ble_eq_true rfl) ?_
      refine sw_icmpN_ge (tgt := 48) dX4_fulfil_25 (by decide) (by omega) (by omega) (fun hc => ?_) (fun hc => ?_)
      · omega
      · clear hc
        refine sw_aload_n dX4_fulfil_28 rfl ?_
        refine sw_getR dX4_fulfil_29 flX4_10 ⟨by decide, _, rfl, rfl⟩ ?_
        refine sw_iload_n dX4_fulfil_32 rfl ?_
        refine sw_cvi (i := 0) (c_isFulfilledBy T hi) dX4_fulfil_33 lkX4_150 (by decide) ⟨by decide, _, rfl, rfl⟩ rfl rfl rfl (Nat.le_of_ble_eq_true rfl) ?_
        refine sw_if_eq (tgt := 42) dX4_fulfil_36 (by decide) (fun hc => ?_) (fun hc => ?_)
        · have hp : ffN (h 3) z sm i = false := bI_0 hc
          rw [fa_cnt_no hp] at ih
          first | refine sw_iincN (b := 1) dX4_fulfil_42 rfl (by decide) rfl ?_ | refine sw_iinc dX4_fulfil_42 rfl rfl (by decide) rfl ?_
          refine sw_goto (tgt := 17) dX4_fulfil_45 (by decide) ?_
          exact ih
        · have hp : ffN (h 3) z sm i = true := bI_1 hc
          rw [fa_cnt_yes hp] at ih
          first | refine sw_iincN (b := 1) dX4_fulfil_39 rfl (by decide) rfl ?_ | refine sw_iinc dX4_fulfil_39 rfl rfl (by decide) rfl ?_
          first | refine sw_iincN (b := 1) dX4_fulfil_42 rfl (by decide) rfl ?_ | refine sw_iinc dX4_fulfil_42 rfl rfl (by decide) rfl ?_
          refine sw_goto (tgt := 17) dX4_fulfil_45 (by decide) ?_
          exact ih
  · rw [z0_iff hz8] at hc
    refine sw_bipush (v := (-2)) dX4_fulfil_10 (by decide) ?_
    refine sw_iret dX4_fulfil_12 rfl rfl rfl ?_
    exact h0 hc
theorem m_fulfil (T : TM h n z sm) (h0 : z = 0 → Q (some (.int (-2))) h) (k1 : ¬ z = 0 → Q (some (.int (nI (fa_cnt (ffN (h 30) z sm) (2 ^ n))))) h) : Ctr jX5_fulfil [.ref 28] h Q := by
  have hz8 := T.1.2.1
  have h64 := pow6 T.1.1
  refine ctr_start (by decide) (Nat.le_of_ble_eq_true rfl) rfl rfl ?_
  show SW jX5_fulfil E0 _ 0 [some (.ref 28), none, none, none, none] [] _
  refine sw_aload_n dX5_fulfil_0 rfl ?_
  refine sw_getI dX5_fulfil_1 flX5_56 ⟨by decide, _, rfl, rfl⟩ ?_
  rw [T.1.2.2.2]
  refine sw_if_ne (tgt := 10) dX5_fulfil_4 (by decide) (fun hc => ?_) (fun hc => ?_)
  · rw [z0_iff hz8] at hc
    have hQ := k1 hc
    clear hc
    refine sw_iconst (v := nI 0) dX5_fulfil_10 (by decide) ?_
    refine sw_istore_n dX5_fulfil_11 (by decide) rfl ?_
    refine sw_iconst (v := nI 0) dX5_fulfil_12 (by decide) ?_
    refine sw_istore_n dX5_fulfil_13 (by decide) rfl ?_
    have key := lp_up (n := 2 ^ n) (S := fun i => ∀ v3 v4, SW jX5_fulfil E0 (Zm Q) 14 [some (.ref 28), some (.int (nI (fa_cnt (ffN (h 30) z sm) i))), some (.int (nI i)), v3, v4] [] h) ?_ ?_ 0 (Nat.zero_le _) none none
    · exact key
    · intro v3 v4
      refine sw_iload_n dX5_fulfil_14 rfl ?_
      refine sw_aload_n dX5_fulfil_15 rfl ?_
      refine sw_cvi (i := 0) (c_hiddenMany T.1.2.2.1 T.1.1) dX5_fulfil_16 lkX5_88 (by decide) ⟨by decide, _, rfl, rfl⟩ rfl rfl rfl (Nat.le_of_ble_eq_true rfl) ?_
      refine sw_icmpN_ge (tgt := 106) dX5_fulfil_19 (by decide) (by omega) (by omega) (fun hc => ?_) (fun hc => ?_)
      · refine sw_iload_n dX5_fulfil_106 rfl ?_
        refine sw_iret dX5_fulfil_107 rfl rfl rfl ?_
        exact hQ
      · omega
    · intro i hi ih v3 v4
      refine sw_iload_n dX5_fulfil_14 rfl ?_
      refine sw_aload_n dX5_fulfil_15 rfl ?_
      refine sw_cvi (i := 0) (c_hiddenMany T.1.2.2.1 T.1.1) dX5_fulfil_16 lkX5_88 (by decide) ⟨by decide, _, rfl, rfl⟩ rfl rfl rfl (Nat.le_of_ble_eq_true rfl) ?_
      refine sw_icmpN_ge (tgt := 106) dX5_fulfil_19 (by decide) (by omega) (by omega) (fun hc => ?_) (fun hc => ?_)
      · omega
      · clear hc
        have ok3 : okS [some (.ref 28), some (.int (nI (fa_cnt (ffN (h 30) z sm) i))), some (.int (nI i)), v3, v4] 3 = true := rfl
        refine sw_iconst (v := nI 1) dX5_fulfil_22 (by decide) ?_
        refine sw_istore_n dX5_fulfil_23 (by decide) rfl ?_
        refine sw_iconst (v := nI 0) dX5_fulfil_24 (by decide) ?_
        refine sw_istore dX5_fulfil_25 (by decide) rfl ?_
        refine lp_up (n := z) (S := fun c => SW jX5_fulfil E0 (Zm Q) 27 [some (.ref 28), some (.int (nI (fa_cnt (ffN (h 30) z sm) i))), some (.int (nI i)), some (.int (bI (ffN (h 30) c sm i))), some (.int (nI c))] [] h) ?_ ?_ 0 (Nat.zero_le _)
        · refine sw_iload dX5_fulfil_27 rfl ?_
          refine sw_aload_n dX5_fulfil_29 rfl ?_
          refine sw_getI dX5_fulfil_30 flX5_56 ⟨by decide, _, rfl, rfl⟩ ?_
          rw [T.1.2.2.2]
          refine sw_icmpN_ge (tgt := 88) dX5_fulfil_33 (by decide) (by omega) (by omega) (fun hc => ?_) (fun hc => ?_)
          · clear hc
            refine sw_iload_n dX5_fulfil_88 rfl ?_
            refine sw_iload_n dX5_fulfil_89 rfl ?_
            refine sw_if_eq (tgt := 97) dX5_fulfil_90 (by decide) (fun hc => ?_) (fun hc => ?_)
            · have hp : ffN (h 30) z sm i = false := bI_0 hc
              rw [fa_cnt_no hp] at ih
              refine sw_iconst (v := nI 0) dX5_fulfil_97 (by decide) ?_
              refine sw_iaddN dX5_fulfil_98 ?_
              rw [Nat.add_zero]
              refine sw_istore_n dX5_fulfil_99 (by decide) rfl ?_
              first | refine sw_iincN (b := 1) dX5_fulfil_100 rfl (by decide) rfl ?_ | refine sw_iinc dX5_fulfil_100 rfl rfl (by decide) rfl ?_
              refine sw_goto (tgt := 14) dX5_fulfil_103 (by decide) ?_
              exact ih _ _
            · have hp : ffN (h 30) z sm i = true := bI_1 hc
              rw [fa_cnt_yes hp] at ih
              refine sw_iconst (v := nI 1) dX5_fulfil_93 (by decide) ?_
              refine sw_goto (tgt := 98) dX5_fulfil_94 (by decide) ?_
              refine sw_iaddN dX5_fulfil_98 ?_
              refine sw_istore_n dX5_fulfil_99 (by decide) rfl ?_
              first | refine sw_iincN (b := 1) dX5_fulfil_100 rfl (by decide) rfl ?_ | refine sw_iinc dX5_fulfil_100 rfl rfl (by decide) rfl ?_
              refine sw_goto (tgt := 14) dX5_fulfil_103 (by decide) ?_
              exact ih _ _
          · omega
        · intro c hcz ih2
          have hs := (T.2 c hcz).1
          have hand : i &&& sm c ≤ i := Nat.and_le_left
          have hp16 : pop (i &&& sm c) ≤ 16 := bs_le _ _
          have no : ffN (h 30) (c + 1) sm i = false → SW jX5_fulfil E0 (Zm Q) 80 [some (.ref 28), some (.int (nI (fa_cnt (ffN (h 30) z sm) i))), some (.int (nI i)), some (.int (bI (ffN (h 30) c sm i))), some (.int (nI c))] [] h := fun q => by
            rw [q] at ih2
            refine sw_iconst (v := nI 0) dX5_fulfil_80 (by decide) ?_
            refine sw_istore_n dX5_fulfil_81 (by decide) rfl ?_
            first | refine sw_iincN (b := 1) dX5_fulfil_82 rfl (by decide) rfl ?_ | refine sw_iinc dX5_fulfil_82 rfl rfl (by decide) rfl ?_
            refine sw_goto (tgt := 27) dX5_fulfil_85 (by decide) ?_
            exact ih2
          have yes : ffN (h 30) (c + 1) sm i = true → SW jX5_fulfil E0 (Zm Q) 76 [some (.ref 28), some (.int (nI (fa_cnt (ffN (h 30) z sm) i))), some (.int (nI i)), some (.int (bI (ffN (h 30) c sm i))), some (.int (nI c))] [] h := fun q => by
            rw [q] at ih2
            refine sw_iconst (v := nI 1) dX5_fulfil_76 (by decide) ?_
            refine sw_goto (tgt := 81) dX5_fulfil_77 (by decide) ?_
            refine sw_istore_n dX5_fulfil_81 (by decide) rfl ?_
            first | refine sw_iincN (b := 1) dX5_fulfil_82 rfl (by decide) rfl ?_ | refine sw_iinc dX5_fulfil_82 rfl rfl (by decide) rfl ?_
            refine sw_goto (tgt := 27) dX5_fulfil_85 (by decide) ?_
            exact ih2
          refine sw_iload dX5_fulfil_27 rfl ?_
          refine sw_aload_n dX5_fulfil_29 rfl ?_
          refine sw_getI dX5_fulfil_30 flX5_56 ⟨by decide, _, rfl, rfl⟩ ?_
          rw [T.1.2.2.2]
          refine sw_icmpN_ge (tgt := 88) dX5_fulfil_33 (by decide) (by omega) (by omega) (fun hc => ?_) (fun hc => ?_)
          · omega
          · clear hc
            refine sw_iload_n dX5_fulfil_36 rfl ?_
            refine sw_if_eq (tgt := 80) dX5_fulfil_37 (by decide) (fun hc => ?_) (fun hc => ?_)
            · have e0 := bI_0 hc
              exact no (by unfold ffN at e0 ⊢; simp only [allB]; rw [e0, Bool.false_and])
            · have e0 := bI_1 hc
              clear hc
              refine sw_aload_n dX5_fulfil_40 rfl ?_
              refine sw_getR dX5_fulfil_41 flX5_17 ⟨by decide, _, rfl, rfl⟩ ?_
              refine sw_iload dX5_fulfil_44 rfl ?_
              refine sw_iald dX5_fulfil_46 rfl (by simp only [plA]; omega) ?_
              refine sw_bipush (v := (-4)) dX5_fulfil_47 (by decide) ?_
              refine sw_icmp_eq (tgt := 76) dX5_fulfil_49 (by decide) (fun hc => ?_) (fun hc => ?_)
              · exact yes (by unfold ffN at e0 ⊢; simp only [allB]; rw [e0, decide_eq_true (Or.inl hc)]; rfl)
              · have h4 := hc
                clear hc
                refine sw_iload_n dX5_fulfil_52 rfl ?_
                refine sw_aload_n dX5_fulfil_53 rfl ?_
                refine sw_getR dX5_fulfil_54 flX5_13 ⟨by decide, _, rfl, rfl⟩ ?_
                refine sw_iload dX5_fulfil_57 rfl ?_
                refine sw_iald dX5_fulfil_59 rfl (by simp only [plA]; omega) ?_
                rw [hs]
                refine sw_iandN dX5_fulfil_60 ?_
                refine sw_csi (c_bits (by omega)) dX5_fulfil_61 lkX5_67 (by decide) rfl rfl (Nat.le_of_ble_eq_true rfl) ?_
                refine sw_iconst (v := nI 2) dX5_fulfil_64 (by decide) ?_
                refine sw_irem dX5_fulfil_65 (by decide) ?_
                rw [pk_rem (d := 2) (by omega) (by omega) (by omega)]
                refine sw_aload_n dX5_fulfil_66 rfl ?_
                refine sw_getR dX5_fulfil_67 flX5_17 ⟨by decide, _, rfl, rfl⟩ ?_
                refine sw_iload dX5_fulfil_70 rfl ?_
                refine sw_iald dX5_fulfil_72 rfl (by simp only [plA]; omega) ?_
                refine sw_icmp_ne (tgt := 80) dX5_fulfil_73 (by decide) (fun hc => ?_) (fun hc => ?_)
                · exact no (by unfold ffN; simp only [allB]; rw [decide_eq_false (fun q => q.elim h4 hc), Bool.and_false])
                · exact yes (by unfold ffN at e0 ⊢; simp only [allB]; rw [e0, decide_eq_true (Or.inr hc)]; rfl)
  · rw [z0_iff hz8] at hc
    refine sw_bipush (v := (-2)) dX5_fulfil_7 (by decide) ?_
    refine sw_iret dX5_fulfil_9 rfl rfl rfl ?_
    exact h0 hc
theorem b_fulfil : Both jX4_fulfil jX5_fulfil [] := by
  intro h K hK hI
  have hI0 := hI
  obtain ⟨n, z, sm, lf, r, i1, iT, iM, iW, iS, iC, iR, iH⟩ := hI
  by_cases hz : z = 0
  · exact ⟨-2, x_fulfil iT (fun _ => ⟨rfl, m_fulfil iM (fun _ => ⟨rfl, hI0.up⟩) (fun q => absurd hz q)⟩) (fun q => absurd hz q)⟩
  · have hz8 := iT.1.2.1
    have e : ∀ x, ffN (h 3) z sm x = ffN (h 30) z sm x := fun x => allB_cong (fun c hc => by rw [(iS.2 c (by omega)).1])
    exact ⟨_, x_fulfil iT (fun q => absurd q hz) (fun _ => ⟨rfl, m_fulfil iM (fun q => absurd q hz) (fun _ => ⟨by rw [fa_cnt_cong (fun k _ => e k)], hI0.up⟩)⟩)⟩
theorem x_proof (T : TX h n z sm) (hP : ∀ c, c < z → okP (h 3 c)) (h0 : z = 0 → Q (some (.int (-2))) h) (k1 : ¬ z = 0 → Q (some (.int (bpV (bp (fun m => prB (h 3) sm m z) (2 ^ z))))) h) : Ctr jX4_proof [.ref 0] h Q := by
  have hz8 := T.1.2.1
  have h256 : 2 ^ z ≤ 256 := Nat.pow_le_pow_right (n := 2) (by omega) hz8
  have hpos : 0 < 2 ^ z := Nat.two_pow_pos z
  refine ctr_start (by decide) (Nat.le_of_ble_eq_true rfl) rfl rfl ?_
  show SW jX4_proof E0 _ 0 [some (.ref 0), none, none, none] [] _
  refine sw_aload_n dX4_proof_0 rfl ?_
  refine sw_getR dX4_proof_1 flX4_10 ⟨by decide, _, rfl, rfl⟩ ?_
  refine sw_getNI dX4_proof_4 fnX4_59 ⟨by decide, _, rfl, rfl⟩ ?_
  rw [T.1.2.2.2]
  refine sw_if_ne (tgt := 13) dX4_proof_7 (by decide) (fun hc => ?_) (fun hc => ?_)
  · rw [z0_iff hz8] at hc
    have hQ := k1 hc
    clear hc
    refine sw_bipush (v := (-4)) dX4_proof_13 (by decide) ?_
    refine sw_istore_n dX4_proof_15 (by decide) rfl ?_
    refine sw_bipush (v := nI 9) dX4_proof_16 (by decide) ?_
    refine sw_istore_n dX4_proof_18 (by decide) rfl ?_
    refine sw_iconst (v := nI 1) dX4_proof_19 (by decide) ?_
    refine sw_istore_n dX4_proof_20 (by decide) rfl ?_
    have key := lp_up (n := 2 ^ z) (S := fun i => 1 ≤ i → SW jX4_proof E0 (Zm Q) 21 [some (.ref 0), some (.int (bpV (bp (fun m => prB (h 3) sm m z) i))), some (.int (nI (if bp (fun m => prB (h 3) sm m z) i = 0 then 9 else pop (bp (fun m => prB (h 3) sm m z) i)))), some (.int (nI i))] [] h) ?_ ?_ 1 (by omega) (Nat.le_refl _)
    · exact key
    · intro _
      refine sw_iload_n dX4_proof_21 rfl ?_
      refine sw_iconst (v := nI 1) dX4_proof_22 (by decide) ?_
      refine sw_aload_n dX4_proof_23 rfl ?_
      refine sw_getR dX4_proof_24 flX4_10 ⟨by decide, _, rfl, rfl⟩ ?_
      refine sw_getNI dX4_proof_27 fnX4_59 ⟨by decide, _, rfl, rfl⟩ ?_
      rw [T.1.2.2.2]
      first | refine sw_ishlN dX4_proof_30 (by omega) (by omega) ?_ | refine sw_ishl dX4_proof_30 ?_
      rw [Nat.one_mul]
      refine sw_icmpN_ge (tgt := 66) dX4_proof_31 (by decide) (by omega) (by omega) (fun hc => ?_) (fun hc => ?_)
      · refine sw_iload_n dX4_proof_66 rfl ?_
        refine sw_iret dX4_proof_67 rfl rfl rfl ?_
        exact hQ
      · omega
    · intro i hi ih hi1
      have ih := ih (by omega)
      have hbl := bp_lt (fun m => prB (h 3) sm m z) i (by omega)
      have p1 := pop8 (x := i) (by omega)
      have p2 := pop8 (x := bp (fun m => prB (h 3) sm m z) i) (by omega)
      have hf : (if bp (fun m => prB (h 3) sm m z) i = 0 then 9 else pop (bp (fun m => prB (h 3) sm m z) i)) ≤ 9 := by split <;> omega
      have no : ¬ (¬ i = 0 ∧ prB (h 3) sm i z = true ∧ (bp (fun m => prB (h 3) sm m z) i = 0 ∨ pop i < pop (bp (fun m => prB (h 3) sm m z) i))) → SW jX4_proof E0 (Zm Q) 60 [some (.ref 0), some (.int (bpV (bp (fun m => prB (h 3) sm m z) i))), some (.int (nI (if bp (fun m => prB (h 3) sm m z) i = 0 then 9 else pop (bp (fun m => prB (h 3) sm m z) i)))), some (.int (nI i))] [] h := fun q => by
        have e : bp (fun m => prB (h 3) sm m z) (i + 1) = bp (fun m => prB (h 3) sm m z) i := by simp only [bp]; rw [if_neg q]
        rw [e] at ih
        first | refine sw_iincN (b := 1) dX4_proof_60 rfl (by decide) rfl ?_ | refine sw_iinc dX4_proof_60 rfl rfl (by decide) rfl ?_
        refine sw_goto (tgt := 21) dX4_proof_63 (by decide) ?_
        exact ih
      refine sw_iload_n dX4_proof_21 rfl ?_
      refine sw_iconst (v := nI 1) dX4_proof_22 (by decide) ?_
      refine sw_aload_n dX4_proof_23 rfl ?_
      refine sw_getR dX4_proof_24 flX4_10 ⟨by decide, _, rfl, rfl⟩ ?_
      refine sw_getNI dX4_proof_27 fnX4_59 ⟨by decide, _, rfl, rfl⟩ ?_
      rw [T.1.2.2.2]
      first | refine sw_ishlN dX4_proof_30 (by omega) (by omega) ?_ | refine sw_ishl dX4_proof_30 ?_
      rw [Nat.one_mul]
      refine sw_icmpN_ge (tgt := 66) dX4_proof_31 (by decide) (by omega) (by omega) (fun hc => ?_) (fun hc => ?_)
      · omega
      · clear hc
        refine sw_iload_n dX4_proof_34 rfl ?_
        refine sw_csi (c_bitCount (by omega)) dX4_proof_35 lkX4_49 (by decide) rfl rfl (Nat.le_of_ble_eq_true rfl) ?_
        refine sw_iload_n dX4_proof_38 rfl ?_
        refine sw_icmpN_ge (tgt := 60) dX4_proof_39 (by decide) (by omega) (by omega) (fun hc => ?_) (fun hc => ?_)
        · refine no (fun q => ?_)
          rcases q.2.2 with w | w
          · rw [if_pos w] at hc; omega
          · by_cases e : bp (fun m => prB (h 3) sm m z) i = 0
            · rw [if_pos e] at hc; omega
            · rw [if_neg e] at hc; omega
        · have hlt : bp (fun m => prB (h 3) sm m z) i = 0 ∨ pop i < pop (bp (fun m => prB (h 3) sm m z) i) := by
            by_cases e : bp (fun m => prB (h 3) sm m z) i = 0
            · exact Or.inl e
            · rw [if_neg e] at hc; exact Or.inr hc
          clear hc
          refine sw_aload_n dX4_proof_42 rfl ?_
          refine sw_getR dX4_proof_43 flX4_10 ⟨by decide, _, rfl, rfl⟩ ?_
          refine sw_iload_n dX4_proof_46 rfl ?_
          refine sw_cvi (i := 0) (c_isProof T hP (m := i) (by omega)) dX4_proof_47 lkX4_153 (by decide) ⟨by decide, _, rfl, rfl⟩ rfl rfl rfl (Nat.le_of_ble_eq_true rfl) ?_
          refine sw_if_eq (tgt := 60) dX4_proof_50 (by decide) (fun hc => ?_) (fun hc => ?_)
          · exact no (fun q => by rw [bI_0 hc] at q; exact absurd q.2.1 (by decide))
          · have hy : ¬ i = 0 ∧ prB (h 3) sm i z = true ∧ (bp (fun m => prB (h 3) sm m z) i = 0 ∨ pop i < pop (bp (fun m => prB (h 3) sm m z) i)) := ⟨by omega, bI_1 hc, hlt⟩
            have e : bp (fun m => prB (h 3) sm m z) (i + 1) = i := by simp only [bp]; rw [if_pos hy]
            rw [e, if_neg (show ¬ i = 0 by omega), show bpV i = nI i by unfold bpV; rw [if_neg (by omega)]] at ih
            clear hc
            refine sw_iload_n dX4_proof_53 rfl ?_
            refine sw_istore_n dX4_proof_54 (by decide) rfl ?_
            refine sw_iload_n dX4_proof_55 rfl ?_
            refine sw_csi (c_bitCount (by omega)) dX4_proof_56 lkX4_49 (by decide) rfl rfl (Nat.le_of_ble_eq_true rfl) ?_
            refine sw_istore_n dX4_proof_59 (by decide) rfl ?_
            first | refine sw_iincN (b := 1) dX4_proof_60 rfl (by decide) rfl ?_ | refine sw_iinc dX4_proof_60 rfl rfl (by decide) rfl ?_
            refine sw_goto (tgt := 21) dX4_proof_63 (by decide) ?_
            exact ih
  · rw [z0_iff hz8] at hc
    refine sw_bipush (v := (-2)) dX4_proof_10 (by decide) ?_
    refine sw_iret dX4_proof_12 rfl rfl rfl ?_
    exact h0 hc
theorem m_proof (T : TM h n z sm) (hP : ∀ c, c < z → okP (h 30 c)) (h0 : z = 0 → Q (some (.int (-2))) h) (k1 : ¬ z = 0 → Q (some (.int (bpV (bp (fun m => prB (h 30) sm m z) (2 ^ z))))) h) : Ctr jX5_proof [.ref 28] h Q := by
  have hz8 := T.1.2.1
  have h256 : 2 ^ z ≤ 256 := Nat.pow_le_pow_right (n := 2) (by omega) hz8
  have hpos : 0 < 2 ^ z := Nat.two_pow_pos z
  refine ctr_start (by decide) (Nat.le_of_ble_eq_true rfl) rfl rfl ?_
  show SW jX5_proof E0 _ 0 [some (.ref 28), none, none] [] _
  refine sw_aload_n dX5_proof_0 rfl ?_
  refine sw_getI dX5_proof_1 flX5_56 ⟨by decide, _, rfl, rfl⟩ ?_
  rw [T.1.2.2.2]
  refine sw_if_ne (tgt := 10) dX5_proof_4 (by decide) (fun hc => ?_) (fun hc => ?_)
  · rw [z0_iff hz8] at hc
    have hQ := k1 hc
    clear hc
    refine sw_bipush (v := (-4)) dX5_proof_10 (by decide) ?_
    refine sw_istore_n dX5_proof_12 (by decide) rfl ?_
    refine sw_iconst (v := nI 1) dX5_proof_13 (by decide) ?_
    refine sw_istore_n dX5_proof_14 (by decide) rfl ?_
    have key := lp_up (n := 2 ^ z) (S := fun i => 1 ≤ i → SW jX5_proof E0 (Zm Q) 15 [some (.ref 28), some (.int (bpV (bp (fun m => prB (h 30) sm m z) i))), some (.int (nI i))] [] h) ?_ ?_ 1 (by omega) (Nat.le_refl _)
    · exact key
    · intro _
      refine sw_iload_n dX5_proof_15 rfl ?_
      refine sw_iconst (v := nI 1) dX5_proof_16 (by decide) ?_
      refine sw_aload_n dX5_proof_17 rfl ?_
      refine sw_getI dX5_proof_18 flX5_56 ⟨by decide, _, rfl, rfl⟩ ?_
      rw [T.1.2.2.2]
      first | refine sw_ishlN dX5_proof_21 (by omega) (by omega) ?_ | refine sw_ishl dX5_proof_21 ?_
      rw [Nat.one_mul]
      refine sw_icmpN_ge (tgt := 58) dX5_proof_22 (by decide) (by omega) (by omega) (fun hc => ?_) (fun hc => ?_)
      · refine sw_iload_n dX5_proof_58 rfl ?_
        refine sw_iret dX5_proof_59 rfl rfl rfl ?_
        exact hQ
      · omega
    · intro i hi ih hi1
      have ih := ih (by omega)
      have hbl := bp_lt (fun m => prB (h 30) sm m z) i (by omega)
      have p1 := pop8 (x := i) (by omega)
      have p2 := pop8 (x := bp (fun m => prB (h 30) sm m z) i) (by omega)
      have no : ¬ (¬ i = 0 ∧ prB (h 30) sm i z = true ∧ (bp (fun m => prB (h 30) sm m z) i = 0 ∨ pop i < pop (bp (fun m => prB (h 30) sm m z) i))) → SW jX5_proof E0 (Zm Q) 52 [some (.ref 28), some (.int (bpV (bp (fun m => prB (h 30) sm m z) i))), some (.int (nI i))] [] h := fun q => by
        have e : bp (fun m => prB (h 30) sm m z) (i + 1) = bp (fun m => prB (h 30) sm m z) i := by simp only [bp]; rw [if_neg q]
        rw [e] at ih
        first | refine sw_iincN (b := 1) dX5_proof_52 rfl (by decide) rfl ?_ | refine sw_iinc dX5_proof_52 rfl rfl (by decide) rfl ?_
        refine sw_goto (tgt := 15) dX5_proof_55 (by decide) ?_
        exact ih
      have yes : (¬ i = 0 ∧ prB (h 30) sm i z = true ∧ (bp (fun m => prB (h 30) sm m z) i = 0 ∨ pop i < pop (bp (fun m => prB (h 30) sm m z) i))) → SW jX5_proof E0 (Zm Q) 50 [some (.ref 28), some (.int (bpV (bp (fun m => prB (h 30) sm m z) i))), some (.int (nI i))] [] h := fun q => by
        have e : bp (fun m => prB (h 30) sm m z) (i + 1) = i := by simp only [bp]; rw [if_pos q]
        rw [e, show bpV i = nI i by unfold bpV; rw [if_neg (by omega)]] at ih
        refine sw_iload_n dX5_proof_50 rfl ?_
        refine sw_istore_n dX5_proof_51 (by decide) rfl ?_
        first | refine sw_iincN (b := 1) dX5_proof_52 rfl (by decide) rfl ?_ | refine sw_iinc dX5_proof_52 rfl rfl (by decide) rfl ?_
        refine sw_goto (tgt := 15) dX5_proof_55 (by decide) ?_
        exact ih
      refine sw_iload_n dX5_proof_15 rfl ?_
      refine sw_iconst (v := nI 1) dX5_proof_16 (by decide) ?_
      refine sw_aload_n dX5_proof_17 rfl ?_
      refine sw_getI dX5_proof_18 flX5_56 ⟨by decide, _, rfl, rfl⟩ ?_
      rw [T.1.2.2.2]
      first | refine sw_ishlN dX5_proof_21 (by omega) (by omega) ?_ | refine sw_ishl dX5_proof_21 ?_
      rw [Nat.one_mul]
      refine sw_icmpN_ge (tgt := 58) dX5_proof_22 (by decide) (by omega) (by omega) (fun hc => ?_) (fun hc => ?_)
      · omega
      · clear hc
        refine sw_aload_n dX5_proof_25 rfl ?_
        refine sw_iload_n dX5_proof_26 rfl ?_
        refine sw_cvi (i := 0) (c_isProofM T hP (m := i) (by omega) (by omega)) dX5_proof_27 lkX5_142 (by decide) ⟨by decide, _, rfl, rfl⟩ rfl rfl rfl (Nat.le_of_ble_eq_true rfl) ?_
        refine sw_if_eq (tgt := 52) dX5_proof_30 (by decide) (fun hc => ?_) (fun hc => ?_)
        · exact no (fun q => by rw [bI_0 hc] at q; exact absurd q.2.1 (by decide))
        · have hp := bI_1 hc
          clear hc
          refine sw_iload_n dX5_proof_33 rfl ?_
          refine sw_bipush (v := (-4)) dX5_proof_34 (by decide) ?_
          refine sw_icmp_eq (tgt := 50) dX5_proof_36 (by decide) (fun hc => ?_) (fun hc => ?_)
          · exact yes ⟨by omega, hp, Or.inl ((bpV_4 (by omega)).mp hc)⟩
          · have hb0 : ¬ bp (fun m => prB (h 30) sm m z) i = 0 := fun q => hc ((bpV_4 (by omega)).mpr q)
            clear hc
            have ev : bpV (bp (fun m => prB (h 30) sm m z) i) = nI (bp (fun m => prB (h 30) sm m z) i) := by
              unfold bpV
              rw [if_neg hb0]
            rw [ev] at no yes ⊢
            refine sw_iload_n dX5_proof_39 rfl ?_
            refine sw_csi (c_bits (by omega)) dX5_proof_40 lkX5_67 (by decide) rfl rfl (Nat.le_of_ble_eq_true rfl) ?_
            refine sw_iload_n dX5_proof_43 rfl ?_
            refine sw_csi (c_bits (n := bp (fun m => prB (h 30) sm m z) i) (by omega)) dX5_proof_44 lkX5_67 (by decide) rfl rfl (Nat.le_of_ble_eq_true rfl) ?_
            refine sw_icmpN_ge (tgt := 52) dX5_proof_47 (by decide) (by omega) (by omega) (fun hc => ?_) (fun hc => ?_)
            · exact no (fun q => by rcases q.2.2 with w | w <;> omega)
            · exact yes ⟨by omega, hp, Or.inr hc⟩
  · rw [z0_iff hz8] at hc
    refine sw_bipush (v := (-2)) dX5_proof_7 (by decide) ?_
    refine sw_iret dX5_proof_9 rfl rfl rfl ?_
    exact h0 hc
theorem prB_cong {p q : Nat → Int32} {z : Nat} {sm : Nat → Nat} (e : ∀ c, c < z → p c = q c) (m : Nat) : prB p sm m z = prB q sm m z := by
  have h1 : okN p m z = okN q m z := allB_cong (fun c hc => by rw [e c hc])
  have h2 : ∀ k, k ≤ z → psN p m k = psN q m k := by
    intro k
    induction k with
    | zero => intro _; rfl
    | succ k ih =>
      intro hk
      simp only [psN]
      rw [ih (by omega), e k (by omega)]
  unfold prB
  rw [h1, h2 z (Nat.le_refl _)]
theorem b_proof : Both jX4_proof jX5_proof [] := by
  intro h K hK hI
  have hI0 := hI
  obtain ⟨n, z, sm, lf, r, i1, iT, iM, iW, iS, iC, iR, iH⟩ := hI
  have hz8 := iT.1.2.1
  have hP : ∀ c, c < z → okP (h 3 c) := fun c hc => (iS.2 c (by omega)).2
  have hP2 : ∀ c, c < z → okP (h 30 c) := fun c hc => by rw [← (iS.2 c (by omega)).1]; exact hP c hc
  by_cases hz : z = 0
  · exact ⟨-2, x_proof iT hP (fun _ => ⟨rfl, m_proof iM hP2 (fun _ => ⟨rfl, hI0.up⟩) (fun q => absurd hz q)⟩) (fun q => absurd hz q)⟩
  · exact ⟨_, x_proof iT hP (fun q => absurd q hz) (fun _ => ⟨rfl, m_proof iM hP2 (fun q => absurd q hz) (fun _ => ⟨by rw [bp_cong (fun k _ => prB_cong (fun c hc => (iS.2 c (by omega)).1) k)], hI0.up⟩)⟩)⟩
end OPS
