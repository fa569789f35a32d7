/-! calls: mix, fulfil, proof -/
theorem lsh_k {x : Int64} {s : Int64} {k : Nat} (hs : (s.toBitVec.smod 64).toNat = k) : (x >>> s).toInt = x.toInt >>> k := by
  show (x.toBitVec.sshiftRight (s.toBitVec.smod 64).toNat).toInt = _
  rw [hs, BitVec.toInt_sshiftRight]
  rfl
theorem lsh_kk : ∀ k, k < 32 → (((nI k).toInt64 &&& 63).toBitVec.smod 64).toNat = k := by decide +kernel
theorem lsh_N {m k : Nat} (hm : m < 2 ^ 31) (hk : k < 32) : lN m >>> ((nI k).toInt64 &&& 63) = lN (m / 2 ^ k) := by
  apply Int64.toInt_inj.mp
  have h2 : m / 2 ^ k ≤ m := Nat.div_le_self _ _
  rw [lsh_k (lsh_kk k hk), lN_toInt hm, lN_toInt (by omega), Int.shiftRight_eq_div_pow]
  rfl
theorem bs_stop {s n : Nat} (hs : s < 2 ^ n) : ∀ d, bs s (n + d) = bs s n
  | 0 => rfl
  | d + 1 => by
    rw [← Nat.add_assoc]
    simp only [bs]
    rw [bit_hi hs (by omega), bs_stop hs d, Nat.add_zero]
def mixN (sm : Nat → Nat) (m z : Nat) : Nat → Nat → Nat
  | 0, _ => 0
  | x + 1, k => mixN sm m z x k + (if m / 2 ^ x % 2 = 1 ∧ k / 8 < z ∧ jnt (sm (k / 8)) x = k % 8 then 1 else 0)
theorem mixWN (sm : Nat → Nat) (m z : Nat) : ∀ x k, mixW sm m z x k = nI (mixN sm m z x k)
  | 0, _ => rfl
  | x + 1, k => by
    simp only [mixW, mixN]
    rw [mixWN sm m z x k]
    split
    · rw [nI_add]
    · rw [Nat.add_zero]; simp
theorem mixN_le (sm : Nat → Nat) (m z : Nat) : ∀ x k, mixN sm m z x k ≤ x
  | 0, _ => Nat.le_refl _
  | x + 1, k => by
    have := mixN_le sm m z x k
    simp only [mixN]
    split <;> omega
theorem mixN_0 {sm : Nat → Nat} {m z c j : Nat} (hs : sm c < 64) (hj : 2 ^ pop (sm c) ≤ j) (hj8 : j < 8) : ∀ x, mixN sm m z x (8 * c + j) = 0
  | 0 => rfl
  | x + 1 => by
    simp only [mixN]
    rw [mixN_0 hs hj hj8 x, if_neg]
    rintro ⟨_, _, q⟩
    rw [show (8 * c + j) / 8 = c by omega, show (8 * c + j) % 8 = j by omega] at q
    have := jnt_lt hs x
    omega
section OPS
variable {h : Hp} {n z : Nat} {sm lf : Nat → Nat} {Q : Option Value → Hp → Prop}
/-- what mix may be told -/
def mixOk (n : Nat) (a : Int32) : Bool := decide (n ≤ 4) && rg 0 (((2 ^ (2 ^ n) : Nat) : Int) - 1) a
theorem two2 {n : Nat} (h : n ≤ 4) : 2 ^ (2 ^ n) ≤ 65536 := by
  have h16 : 2 ^ n ≤ 16 := Nat.pow_le_pow_right (n := 2) (by omega) h
  have := Nat.pow_le_pow_right (n := 2) (by omega) h16
  omega
theorem x_mix (T : TX h n z sm) {a : Int32} (hb : mixOk n a = false → Q (some (.int (-1))) h) (h0 : mixOk n a = true → z = 0 → Q (some (.int (-2))) h) (hok : ∀ m, a = nI m → m < 2 ^ (2 ^ n) → n ≤ 4 → ¬ z = 0 → ∀ g, (∀ k, k ≠ 1 → k ≠ 4 → g k = h k) → g 1 0 = h 1 0 → g 1 1 = h 1 1 → g 1 2 = h 1 2 + nI 1 → (∀ k, k < 64 → g 4 k = mixW sm m z (2 ^ n) k) → Q (some (.int (nI (pop m)))) g) : Ctr jX4_mix [.ref 0, .int a] h Q := by
  have hz8 := T.1.2.1
  have hn6 := T.1.1
  refine ctr_start (by decide) (Nat.le_of_ble_eq_true rfl) rfl rfl ?_
  show SW jX4_mix E0 _ 0 [some (.ref 0), some (.int a), none] [] _
  refine sw_aload_n dX4_mix_0 rfl ?_
  refine sw_getR dX4_mix_1 flX4_10 ⟨by decide, _, rfl, rfl⟩ ?_
  refine sw_getNI dX4_mix_4 fnX4_37 ⟨by decide, _, rfl, rfl⟩ ?_
  rw [T.1.2.2.1]
  refine sw_iconst (v := nI 4) dX4_mix_7 (by decide) ?_
  refine sw_icmpN_le (tgt := 13) dX4_mix_8 (by decide) (by omega) (by omega) (fun hc => ?_) (fun hc => ?_)
  · have hn4 := hc
    clear hc
    have h16 : 2 ^ n ≤ 16 := Nat.pow_le_pow_right (n := 2) (by omega) hn4
    have h2 := two2 hn4
    have hp2 : 0 < 2 ^ (2 ^ n) := Nat.two_pow_pos _
    refine sw_iconst (v := nI 1) dX4_mix_13 (by decide) ?_
    refine sw_aload_n dX4_mix_14 rfl ?_
    refine sw_getR dX4_mix_15 flX4_10 ⟨by decide, _, rfl, rfl⟩ ?_
    refine sw_cvi (i := 0) (c_hiddenCount T.1.2.2.1 T.1.1) dX4_mix_18 lkX4_45 (by decide) ⟨by decide, _, rfl, rfl⟩ rfl rfl rfl (Nat.le_of_ble_eq_true rfl) ?_
    first | refine sw_ishlN dX4_mix_21 (by omega) (by omega) ?_ | refine sw_ishl dX4_mix_21 ?_
    rw [Nat.one_mul]
    refine sw_iconst (v := nI 1) dX4_mix_22 (by decide) ?_
    first | refine sw_isubN dX4_mix_23 (by omega) ?_ | refine sw_isub dX4_mix_23 ?_
    refine sw_istore_n dX4_mix_24 (by decide) rfl ?_
    refine sw_iload_n dX4_mix_25 rfl ?_
    refine sw_if_lt (tgt := 34) dX4_mix_26 (by decide) (fun hc => ?_) (fun hc => ?_)
    · rw [i_lt, t_0] at hc
      refine sw_iconst (v := (-1)) dX4_mix_34 (by decide) ?_
      refine sw_iret dX4_mix_35 rfl rfl rfl ?_
      exact hb (by unfold mixOk; rw [rg_f1 hc, Bool.and_false])
    · rw [i_lt, t_0] at hc
      have hge := hc
      clear hc
      refine sw_iload_n dX4_mix_29 rfl ?_
      refine sw_iload_n dX4_mix_30 rfl ?_
      refine sw_icmp_le (tgt := 36) dX4_mix_31 (by decide) (fun hc => ?_) (fun hc => ?_)
      · rw [i_le, t_N (by omega)] at hc
        have hr : rg 0 (((2 ^ (2 ^ n) : Nat) : Int) - 1) a = true := rg_t (by omega) (by omega)
        have hmx : mixOk n a = true := by unfold mixOk; rw [hr, decide_eq_true hn4]; rfl
        obtain ⟨m, hm, rfl⟩ := rg_nat (by omega) hr
        clear hc
        refine sw_aload_n dX4_mix_36 rfl ?_
        refine sw_getR dX4_mix_37 flX4_10 ⟨by decide, _, rfl, rfl⟩ ?_
        refine sw_getNI dX4_mix_40 fnX4_59 ⟨by decide, _, rfl, rfl⟩ ?_
        rw [T.1.2.2.2]
        refine sw_if_ne (tgt := 49) dX4_mix_43 (by decide) (fun hc => ?_) (fun hc => ?_)
        · rw [z0_iff hz8] at hc
          have hz := hc
          clear hc
          refine sw_aload_n dX4_mix_49 rfl ?_
          refine sw_getR dX4_mix_50 flX4_10 ⟨by decide, _, rfl, rfl⟩ ?_
          refine sw_iload_n dX4_mix_53 rfl ?_
          refine sw_callV (i := 0) (c_weighBy T (m := m) (by omega) hn4) dX4_mix_54 lkX4_147 (by decide) ⟨by decide, _, rfl, rfl⟩ rfl rfl rfl (Nat.le_of_ble_eq_true rfl) (fun v h1 hq => ?_)
          obtain ⟨rfl, q1, q2, q3, q4, q5⟩ := hq
          rename Hp => g
          have hQ := hok m rfl hm hn4 hz g q1 q2 q3 q4 q5
          refine sw_iload_n dX4_mix_57 rfl ?_
          refine sw_csi (c_bitCount (by omega)) dX4_mix_58 lkX4_49 (by decide) rfl rfl (Nat.le_of_ble_eq_true rfl) ?_
          refine sw_iret dX4_mix_61 rfl rfl rfl ?_
          exact hQ
        · rw [z0_iff hz8] at hc
          refine sw_bipush (v := (-2)) dX4_mix_46 (by decide) ?_
          refine sw_iret dX4_mix_48 rfl rfl rfl ?_
          exact h0 hmx hc
      · rw [i_le, t_N (by omega)] at hc
        refine sw_iconst (v := (-1)) dX4_mix_34 (by decide) ?_
        refine sw_iret dX4_mix_35 rfl rfl rfl ?_
        exact hb (by unfold mixOk; rw [rg_f2 (by omega), Bool.and_false])
  · refine sw_iconst (v := (-1)) dX4_mix_11 (by decide) ?_
    refine sw_iret dX4_mix_12 rfl rfl rfl ?_
    exact hb (by unfold mixOk; rw [decide_eq_false (by omega), Bool.false_and])
theorem m_mix (T : TM h n z sm) {a : Int32} (hb : mixOk n a = false → Q (some (.int (-1))) h) (h0 : mixOk n a = true → z = 0 → Q (some (.int (-2))) h) (hok : ∀ m, a = nI m → m < 2 ^ (2 ^ n) → n ≤ 4 → ¬ z = 0 → ∀ g, Sam 31 h g → (∀ k, k < 64 → g 31 k = mixW sm m z (2 ^ n) k) → Q (some (.int (nI (pop m)))) g) : Ctr jX5_mix [.ref 28, .int a] h Q := by
  have hz8 := T.1.2.1
  have hn6 := T.1.1
  have bad : mixOk n a = false → SW jX5_mix E0 (Zm Q) 32 [some (.ref 28), some (.int a), none, none, none] [] h := fun q => by
    refine sw_iconst (v := (-1)) dX5_mix_32 (by decide) ?_
    refine sw_iret dX5_mix_33 rfl rfl rfl ?_
    exact hb q
  refine ctr_start (by decide) (Nat.le_of_ble_eq_true rfl) rfl rfl ?_
  show SW jX5_mix E0 _ 0 [some (.ref 28), some (.int a), none, none, none] [] _
  refine sw_aload_n dX5_mix_0 rfl ?_
  refine sw_getI dX5_mix_1 flX5_7 ⟨by decide, _, rfl, rfl⟩ ?_
  rw [T.1.2.2.1]
  refine sw_iconst (v := nI 4) dX5_mix_4 (by decide) ?_
  refine sw_icmpN_gt (tgt := 32) dX5_mix_5 (by decide) (by omega) (by omega) (fun hc => ?_) (fun hc => ?_)
  · exact bad (by unfold mixOk; rw [decide_eq_false (by omega), Bool.false_and])
  · have hn4 := hc
    clear hc
    have h16 : 2 ^ n ≤ 16 := Nat.pow_le_pow_right (n := 2) (by omega) hn4
    have h2 := two2 hn4
    have hp2 : 0 < 2 ^ (2 ^ n) := Nat.two_pow_pos _
    refine sw_iload_n dX5_mix_8 rfl ?_
    refine sw_i2l dX5_mix_9 ?_
    refine sw_lconst (v := lN 0) dX5_mix_10 (by decide) ?_
    refine sw_ldc2_w (v := lN 65535) dX5_mix_11 (by decide +kernel) ?_
    refine sw_csi (c_inR (l := 0) (u := 65535) (by decide) (by decide)) dX5_mix_14 lkX5_59 (by decide) rfl rfl (Nat.le_of_ble_eq_true rfl) ?_
    refine sw_if_eq (tgt := 32) dX5_mix_17 (by decide) (fun hc => ?_) (fun hc => ?_)
    · refine bad ?_
      have := of_decide_eq_false (bI_0 hc)
      unfold mixOk
      have hf : rg 0 (((2 ^ (2 ^ n) : Nat) : Int) - 1) a = false := decide_eq_false (fun q => this ⟨q.1, by omega⟩)
      rw [hf, Bool.and_false]
    · obtain ⟨m, hm, rfl⟩ := rg_nat2 (z := 65535) (by omega) (bI_1 hc)
      clear hc
      refine sw_iload_n dX5_mix_20 rfl ?_
      refine sw_i2l dX5_mix_21 ?_
      refine sw_aload_n dX5_mix_22 rfl ?_
      refine sw_cvi (i := 0) (c_hiddenMany T.1.2.2.1 T.1.1) dX5_mix_23 lkX5_88 (by decide) ⟨by decide, _, rfl, rfl⟩ rfl rfl rfl (Nat.le_of_ble_eq_true rfl) ?_
      rw [nI_l (by omega)]
      refine sw_lshr (v := lN (m / 2 ^ (2 ^ n))) dX5_mix_26 (lsh_N (by omega) (by omega)) ?_
      refine sw_lconst (v := lN 0) dX5_mix_27 (by decide) ?_
      refine sw_lcmp dX5_mix_28 ?_
      have hdl : m / 2 ^ (2 ^ n) ≤ m := Nat.div_le_self _ _
      refine sw_if_eq (tgt := 34) dX5_mix_29 (by decide) (fun hc => ?_) (fun hc => ?_)
      · have hm2 : m < 2 ^ (2 ^ n) := by
          unfold lg_cmp at hc
          split at hc
          · exact absurd hc (by decide)
          · split at hc
            · rename_i q
              have := (lN_eq (a := m / 2 ^ (2 ^ n)) (b := 0) (by omega) (by omega)).mp q
              exact (Nat.div_eq_zero_iff.mp this).resolve_left (by omega)
            · exact absurd hc (by decide)
        have hmx : mixOk n (nI m) = true := by unfold mixOk; rw [rg_nI (by omega) hm2, decide_eq_true hn4]; rfl
        clear hc
        refine sw_aload_n dX5_mix_34 rfl ?_
        refine sw_getI dX5_mix_35 flX5_56 ⟨by decide, _, rfl, rfl⟩ ?_
        rw [T.1.2.2.2]
        refine sw_if_ne (tgt := 44) dX5_mix_38 (by decide) (fun hc => ?_) (fun hc => ?_)
        · rw [z0_iff hz8] at hc
          have hQ := hok m rfl hm2 hn4 hc
          clear hc
          refine sw_iconst (v := nI 0) dX5_mix_44 (by decide) ?_
          refine sw_istore_n dX5_mix_45 (by decide) rfl ?_
          have key := lp_up (n := 64) (S := fun i => ∀ g, Sam 31 h g → (∀ k, k < i → g 31 k = nI 0) → SW jX5_mix E0 (Zm Q) 46 [some (.ref 28), some (.int (nI m)), some (.int (nI i)), none, none] [] g) ?_ ?_ 0 (Nat.zero_le _) h Sam.rf (fun k hk => absurd hk (Nat.not_lt_zero _))
          · exact key
          · intro g hS hg
            refine sw_iload_n dX5_mix_46 rfl ?_
            refine sw_bipush (v := nI 64) dX5_mix_47 (by decide) ?_
            refine sw_icmpN_ge (tgt := 65) dX5_mix_49 (by decide) (by omega) (by omega) (fun hc => ?_) (fun hc => ?_)
            · clear hc
              refine sw_iconst (v := nI 0) dX5_mix_65 (by decide) ?_
              refine sw_istore_n dX5_mix_66 (by decide) rfl ?_
              refine sw_iconst (v := nI 0) dX5_mix_67 (by decide) ?_
              refine sw_istore_n dX5_mix_68 (by decide) rfl ?_
              have key2 := lp_up (n := 2 ^ n) (S := fun i => ∀ g v4, Sam 31 h g → (∀ k, k < 64 → g 31 k = mixW sm m z i k) → SW jX5_mix E0 (Zm Q) 69 [some (.ref 28), some (.int (nI m)), some (.int (nI (bs m i))), some (.int (nI i)), v4] [] g) ?_ ?_ 0 (Nat.zero_le _) g none hS hg
              · exact key2
              · intro g v4 hS hg
                have T' : TM g n z sm := TM_keep T (by rw [hS 28 (by decide)]) (by rw [hS 28 (by decide)]) (hS 29 (by decide))
                refine sw_iload_n dX5_mix_69 rfl ?_
                refine sw_aload_n dX5_mix_70 rfl ?_
                refine sw_cvi (i := 0) (c_hiddenMany T'.1.2.2.1 T'.1.1) dX5_mix_71 lkX5_88 (by decide) ⟨by decide, _, rfl, rfl⟩ rfl rfl rfl (Nat.le_of_ble_eq_true rfl) ?_
                refine sw_icmpN_ge (tgt := 135) dX5_mix_74 (by decide) (by omega) (by omega) (fun hc => ?_) (fun hc => ?_)
                · have eb : pop m = bs m (2 ^ n) := by
                    have := bs_stop hm2 (16 - 2 ^ n)
                    rw [show 2 ^ n + (16 - 2 ^ n) = 16 by omega] at this
                    exact this
                  rw [← eb]
                  refine sw_iload_n dX5_mix_135 rfl ?_
                  refine sw_iret dX5_mix_136 rfl rfl rfl ?_
                  exact hQ g hS hg
                · omega
              · intro i hi ih g v4 hS hg
                have T' : TM g n z sm := TM_keep T (by rw [hS 28 (by decide)]) (by rw [hS 28 (by decide)]) (hS 29 (by decide))
                refine sw_iload_n dX5_mix_69 rfl ?_
                refine sw_aload_n dX5_mix_70 rfl ?_
                refine sw_cvi (i := 0) (c_hiddenMany T'.1.2.2.1 T'.1.1) dX5_mix_71 lkX5_88 (by decide) ⟨by decide, _, rfl, rfl⟩ rfl rfl rfl (Nat.le_of_ble_eq_true rfl) ?_
                refine sw_icmpN_ge (tgt := 135) dX5_mix_74 (by decide) (by omega) (by omega) (fun hc => ?_) (fun hc => ?_)
                · omega
                · clear hc
                  refine sw_iload_n dX5_mix_77 rfl ?_
                  refine sw_iload_n dX5_mix_78 rfl ?_
                  first | refine sw_ishrN dX5_mix_79 (by omega) (by omega) ?_ | refine sw_ishr dX5_mix_79 ?_
                  refine sw_iconst (v := nI 1) dX5_mix_80 (by decide) ?_
                  first | refine sw_iand1 dX5_mix_81 ?_ | refine sw_iand dX5_mix_81 ?_
                  refine sw_iconst (v := nI 1) dX5_mix_82 (by decide) ?_
                  refine sw_icmpN_ne (tgt := 129) dX5_mix_83 (by decide) (by omega) (by omega) (fun hc => ?_) (fun hc => ?_)
                  · rw [← bs_no m i hc] at ih
                    first | refine sw_iincN (b := 1) dX5_mix_129 rfl (by decide) rfl ?_ | refine sw_iinc dX5_mix_129 rfl rfl (by decide) rfl ?_
                    refine sw_goto (tgt := 69) dX5_mix_132 (by decide) ?_
                    refine ih g _ hS (fun k hk => ?_)
                    simp only [mixW]
                    rw [if_neg (fun q => hc q.1), hg k hk]
                    simp
                  · have hb := hc
                    clear hc
                    rw [← bs_yes m i hb] at ih
                    first | refine sw_iincN (b := 1) dX5_mix_86 rfl (by decide) rfl ?_ | refine sw_iinc dX5_mix_86 rfl rfl (by decide) rfl ?_
                    refine sw_iconst (v := nI 0) dX5_mix_89 (by decide) ?_
                    refine sw_istore dX5_mix_90 (by decide) rfl ?_
                    have key3 := lp_up (n := z) (S := fun c => ∀ g, Sam 31 h g → (∀ k, k < 64 → g 31 k = mixW sm m z i k + (if k / 8 < c ∧ jnt (sm (k / 8)) i = k % 8 then nI 1 else 0)) → SW jX5_mix E0 (Zm Q) 92 [some (.ref 28), some (.int (nI m)), some (.int (nI (bs m i + 1))), some (.int (nI i)), some (.int (nI c))] [] g) ?_ ?_ 0 (Nat.zero_le _) g hS (fun k hk => by rw [if_neg (fun q => Nat.not_lt_zero _ q.1), hg k hk]; simp)
                    · exact key3
                    · intro g hS hg
                      refine sw_iload dX5_mix_92 rfl ?_
                      refine sw_aload_n dX5_mix_94 rfl ?_
                      refine sw_getI dX5_mix_95 flX5_56 ⟨by decide, _, rfl, rfl⟩ ?_
                      rw [show g 28 1 = nI z by rw [hS 28 (by decide)]; exact T.1.2.2.2]
                      refine sw_icmpN_ge (tgt := 129) dX5_mix_98 (by decide) (by omega) (by omega) (fun hc => ?_) (fun hc => ?_)
                      · first | refine sw_iincN (b := 1) dX5_mix_129 rfl (by decide) rfl ?_ | refine sw_iinc dX5_mix_129 rfl rfl (by decide) rfl ?_
                        refine sw_goto (tgt := 69) dX5_mix_132 (by decide) ?_
                        refine ih g _ hS (fun k hk => ?_)
                        simp only [mixW]
                        rw [hg k hk]
                        congr 1
                        by_cases q : k / 8 < z ∧ jnt (sm (k / 8)) i = k % 8
                        · rw [if_pos q, if_pos ⟨hb, q⟩]
                        · rw [if_neg q, if_neg (fun r => q r.2)]
                      · omega
                    · intro c hcz ih2 g hS hg
                      have T' : TM g n z sm := TM_keep T (by rw [hS 28 (by decide)]) (by rw [hS 28 (by decide)]) (hS 29 (by decide))
                      have hj := T.j8 hcz i
                      refine sw_iload dX5_mix_92 rfl ?_
                      refine sw_aload_n dX5_mix_94 rfl ?_
                      refine sw_getI dX5_mix_95 flX5_56 ⟨by decide, _, rfl, rfl⟩ ?_
                      rw [show g 28 1 = nI z from T'.1.2.2.2]
                      refine sw_icmpN_ge (tgt := 129) dX5_mix_98 (by decide) (by omega) (by omega) (fun hc => ?_) (fun hc => ?_)
                      · omega
                      · clear hc
                        refine sw_aload_n dX5_mix_101 rfl ?_
                        refine sw_getR dX5_mix_102 flX5_20 ⟨by decide, _, rfl, rfl⟩ ?_
                        refine sw_bipush (v := nI 8) dX5_mix_105 (by decide) ?_
                        refine sw_iload dX5_mix_107 rfl ?_
                        first | refine sw_imulN dX5_mix_109 ?_ | refine sw_imul dX5_mix_109 ?_
                        refine sw_aload_n dX5_mix_110 rfl ?_
                        refine sw_iload dX5_mix_111 rfl ?_
                        refine sw_iload_n dX5_mix_113 rfl ?_
                        refine sw_cvi (i := 0) (c_jointOf T' hcz (x := i) (by omega)) dX5_mix_114 lkX5_92 (by decide) ⟨by decide, _, rfl, rfl⟩ rfl rfl rfl (Nat.le_of_ble_eq_true rfl) ?_
                        first | refine sw_iaddN dX5_mix_117 ?_ | refine sw_iadd dX5_mix_117 ?_
                        refine sw_dup2 dX5_mix_118 rfl rfl ?_
                        refine sw_iald dX5_mix_119 rfl (by simp only [plA]; omega) ?_
                        refine sw_iconst (v := nI 1) dX5_mix_120 (by decide) ?_
                        refine sw_iadd dX5_mix_121 ?_
                        refine sw_iast dX5_mix_122 rfl (by simp only [plA]; omega) ?_
                        first | refine sw_iincN (b := 1) dX5_mix_123 rfl (by decide) rfl ?_ | refine sw_iinc dX5_mix_123 rfl rfl (by decide) rfl ?_
                        refine sw_goto (tgt := 92) dX5_mix_126 (by decide) ?_
                        refine ih2 _ hS.set (fun k hk => ?_)
                        rw [hset_eq]
                        by_cases q : k = 8 * c + jnt (sm c) i
                        · have e1 : k / 8 = c := by omega
                          have e2 : k % 8 = jnt (sm c) i := by omega
                          rw [if_pos ⟨rfl, q⟩, if_pos ⟨by omega, by rw [e1, e2]⟩, ← q, hg k hk, if_neg (fun r => by omega)]
                          simp
                        · rw [if_neg (fun r => q r.2), hg k hk]
                          congr 1
                          by_cases r : k / 8 < c ∧ jnt (sm (k / 8)) i = k % 8
                          · rw [if_pos r, if_pos ⟨by omega, r.2⟩]
                          · rw [if_neg r, if_neg]
                            rintro ⟨r1, r2⟩
                            by_cases e : k / 8 = c
                            · rw [e] at r2
                              omega
                            · exact r ⟨by omega, r2⟩
            · omega
          · intro i hi ih g hS hg
            refine sw_iload_n dX5_mix_46 rfl ?_
            refine sw_bipush (v := nI 64) dX5_mix_47 (by decide) ?_
            refine sw_icmpN_ge (tgt := 65) dX5_mix_49 (by decide) (by omega) (by omega) (fun hc => ?_) (fun hc => ?_)
            · omega
            · refine sw_aload_n dX5_mix_52 rfl ?_
              refine sw_getR dX5_mix_53 flX5_20 ⟨by decide, _, rfl, rfl⟩ ?_
              refine sw_iload_n dX5_mix_56 rfl ?_
              refine sw_iconst (v := nI 0) dX5_mix_57 (by decide) ?_
              refine sw_iast dX5_mix_58 rfl (by simp only [plA]; omega) ?_
              first | refine sw_iincN (b := 1) dX5_mix_59 rfl (by decide) rfl ?_ | refine sw_iinc dX5_mix_59 rfl rfl (by decide) rfl ?_
              refine sw_goto (tgt := 46) dX5_mix_62 (by decide) ?_
              refine ih _ hS.set (fun k hk => ?_)
              by_cases q : k = i
              · rw [q, hset_at]
              · rw [hset_i q]
                exact hg k (by omega)
        · rw [z0_iff hz8] at hc
          refine sw_bipush (v := (-2)) dX5_mix_41 (by decide) ?_
          refine sw_iret dX5_mix_43 rfl rfl rfl ?_
          exact h0 hmx hc
      · refine bad ?_
        have hm2 : ¬ m < 2 ^ (2 ^ n) := fun q => hc (by
          rw [Nat.div_eq_of_lt q]
          decide)
        unfold mixOk
        rw [rg_f2 (by rw [t_N (by omega)]; omega), Bool.and_false]
theorem b_mix (a : Int32) : Both jX4_mix jX5_mix [.int a] := by
  intro h K hK hI
  have hI0 := hI
  obtain ⟨n, z, sm, lf, r, i1, iT, iM, iW, iS, iC, iR, iH⟩ := hI
  cases hm : mixOk n a with
  | false => exact ⟨-1, x_mix iT (fun _ => ⟨rfl, m_mix iM (fun _ => ⟨rfl, hI0.up⟩) (fun q => by rw [hm] at q; exact absurd q (by decide)) (fun m e1 e2 e3 => by
      rw [e1] at hm
      unfold mixOk at hm
      have := two2 e3
      rw [rg_nI (by omega) e2, decide_eq_true e3] at hm
      exact absurd hm (by decide))⟩) (fun q => by rw [hm] at q; exact absurd q (by decide)) (fun m e1 e2 e3 => by
      rw [e1] at hm
      unfold mixOk at hm
      have := two2 e3
      rw [rg_nI (by omega) e2, decide_eq_true e3] at hm
      exact absurd hm (by decide))⟩
  | true =>
    have hm' := hm
    unfold mixOk at hm'
    simp only [Bool.and_eq_true, decide_eq_true_eq] at hm'
    have h2 := two2 hm'.1
    obtain ⟨m, hm2, rfl⟩ := rg_nat (by omega) hm'.2
    by_cases hz : z = 0
    · exact ⟨-2, x_mix iT (fun q => by rw [hm] at q; exact absurd q (by decide)) (fun _ _ => ⟨rfl, m_mix iM (fun q => by rw [hm] at q; exact absurd q (by decide)) (fun _ _ => ⟨rfl, hI0.up⟩) (fun _ _ _ _ q => absurd hz q)⟩) (fun _ _ _ _ q => absurd hz q)⟩
    · refine ⟨nI (pop m), x_mix iT (fun q => by rw [hm] at q; exact absurd q (by decide)) (fun _ q => absurd q hz) (fun m' e _ _ _ g q1 q2 q3 q4 q5 => ?_)⟩
      rename_i hmlt hn4 _
      obtain rfl : m = m' := (nI_eq (by omega) (by omega)).mp e
      refine ⟨rfl, ?_⟩
      have iM' : TM g n z sm := TM_keep iM (by rw [q1 28 (by decide) (by decide)]) (by rw [q1 28 (by decide) (by decide)]) (q1 29 (by decide) (by decide))
      refine m_mix iM' (fun q => by rw [hm] at q; exact absurd q (by decide)) (fun _ q => absurd q hz) (fun m' e _ _ _ f hS hf => ?_)
      rename_i hmlt2 _ _
      obtain rfl : m = m' := (nI_eq (by omega) (by omega)).mp e
      refine ⟨rfl, ?_⟩
      have h16 : 2 ^ n ≤ 16 := Nat.pow_le_pow_right (n := 2) (by omega) hm'.1
      have efg : ∀ q, q ≠ 1 → q ≠ 4 → q ≠ 31 → f q = h q := fun q h1 h4 h3 => by rw [hS q h3, q1 q h1 h4]
      refine ⟨n, z, sm, mixN sm m z (2 ^ n), r, i1, ⟨⟨iT.1.1, iT.1.2.1, by rw [hS 1 (by decide), q2]; exact iT.1.2.2.1, by rw [hS 1 (by decide), q3]; exact iT.1.2.2.2⟩, by rw [efg 2 (by decide) (by decide) (by decide)]; exact iT.2.1, by rw [efg 7 (by decide) (by decide) (by decide)]; exact iT.2.2.1, by rw [efg 6 (by decide) (by decide) (by decide)]; exact iT.2.2.2⟩, TM_keep iM (by rw [efg 28 (by decide) (by decide) (by decide)]) (by rw [efg 28 (by decide) (by decide) (by decide)]) (efg 29 (by decide) (by decide) (by decide)), ⟨fun k hk => ⟨?_, ?_, ?_⟩, fun c j hc h1 h2 => ?_⟩, ?_, CK_new (d := 1) iC hK (by omega) (by omega) (by rw [hS 1 (by decide)]; exact q4) (by rw [efg 10 (by decide) (by decide) (by decide)]), RI_eq (fun q q1 q2 => efg q (by omega) (by omega) (by omega)) (fun q q1 q2 => efg q (by omega) (by omega) (by omega)) (by rw [efg 28 (by decide) (by decide) (by decide)]) iR, SH_eq (fun q q1 q2 => efg q (by omega) (by omega) (by omega)) (fun q q1 q2 => efg q (by omega) (by omega) (by omega)) iH⟩
      · rw [hS 4 (by decide), q5 k hk, mixWN]
      · rw [hf k hk, mixWN]
      · have := mixN_le sm m z (2 ^ n) k
        omega
      · exact mixN_0 (iT.s64 hc) h1 h2 _
      · unfold SP at iS ⊢
        rw [efg 5 (by decide) (by decide) (by decide), efg 32 (by decide) (by decide) (by decide), efg 3 (by decide) (by decide) (by decide), efg 30 (by decide) (by decide) (by decide)]
        exact iS
end OPS
