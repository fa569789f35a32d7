def metB (P : Nat → Bool) (sm : Nat → Nat) (k : Nat) : Nat → Bool
  | 0 => false
  | x + 1 => metB P sm k x || (P x && decide (jnt (sm (k / 8)) x = k % 8))
theorem dp_jnt : ∀ s, s < 64 → ∀ x, x < 64 → dp s (jnt s x) 6 = x &&& s := by decide +kernel
theorem jnt_dp : ∀ s, s < 64 → ∀ j, j < 8 → j < 2 ^ pop s → jnt s (dp s j 6) = j ∧ dp s j 6 ≤ s := by decide +kernel
section TAB
variable {h : Hp} {n z : Nat} {sm : Nat → Nat}
abbrev posX (h : Hp) (z : Nat) (sm : Nat → Nat) (x : Nat) : Bool := allB (fun c => decide (¬ h 4 (8 * c + jnt (sm c) x) = 0)) z
theorem c_findMet (T : TX h n z sm) : Ctr jX3_findMet [.ref 1] h (fun v g => v = none ∧ Sam 9 h g ∧ ∀ k, k < 8 * z → g 9 k = bI (metB (posX h z sm) sm k (2 ^ n))) := by
  have hz8 := T.1.2.1
  have h64 := pow6 T.1.1
  refine ctr_start (by decide) (Nat.le_of_ble_eq_true rfl) rfl rfl ?_
  show SW jX3_findMet E0 _ 0 [some (.ref 1), none, none] [] _
  refine sw_iconst (v := nI 0) dX3_findMet_0 (by decide) ?_
  refine sw_istore_n dX3_findMet_1 (by decide) rfl ?_
  have key := lp_up (n := 8 * z) (S := fun i => ∀ g, Sam 9 h g → (∀ k, k < i → g 9 k = nI 0) → SW jX3_findMet E0 (Zm (fun v g => v = none ∧ Sam 9 h g ∧ ∀ k, k < 8 * z → g 9 k = bI (metB (posX h z sm) sm k (2 ^ n)))) 2 [some (.ref 1), some (.int (nI i)), none] [] g) ?_ ?_ 0 (Nat.zero_le _) h Sam.rf (fun k hk => absurd hk (Nat.not_lt_zero _))
  · exact key
  · intro g hS hg
    have hz := (hS.T (by decide) T).1.2.2.2
    refine sw_iload_n dX3_findMet_2 rfl ?_
    refine sw_bipush (v := nI 8) dX3_findMet_3 (by decide) ?_
    refine sw_aload_n dX3_findMet_5 rfl ?_
    refine sw_getI dX3_findMet_6 flX3_15 ⟨by decide, _, rfl, rfl⟩ ?_
    rw [hz]
    first | refine sw_imulN dX3_findMet_9 ?_ | refine sw_imul dX3_findMet_9 ?_
    refine sw_icmpN_ge (tgt := 26) dX3_findMet_10 (by decide) (by omega) (by omega) (fun hc => ?_) (fun hc => ?_)
    · clear hc
      refine sw_iconst (v := nI 0) dX3_findMet_26 (by decide) ?_
      refine sw_istore_n dX3_findMet_27 (by decide) rfl ?_
      have key2 := lp_up (n := 2 ^ n) (S := fun i => ∀ g v2, Sam 9 h g → (∀ k, k < 8 * z → g 9 k = bI (metB (posX h z sm) sm k i)) → SW jX3_findMet E0 (Zm (fun v g => v = none ∧ Sam 9 h g ∧ ∀ k, k < 8 * z → g 9 k = bI (metB (posX h z sm) sm k (2 ^ n)))) 28 [some (.ref 1), some (.int (nI i)), v2] [] g) ?_ ?_ 0 (Nat.zero_le _) g none hS hg
      · exact key2
      · intro g v2 hS hg
        have T' := hS.T (by decide) T
        refine sw_iload_n dX3_findMet_28 rfl ?_
        refine sw_aload_n dX3_findMet_29 rfl ?_
        refine sw_cvi (i := 0) (c_hiddenCount T'.1.2.2.1 T'.1.1) dX3_findMet_30 lkX3_60 (by decide) ⟨by decide, _, rfl, rfl⟩ rfl rfl rfl (Nat.le_of_ble_eq_true rfl) ?_
        refine sw_icmpN_ge (tgt := 78) dX3_findMet_33 (by decide) (by omega) (by omega) (fun hc => ?_) (fun hc => ?_)
        · refine sw_vret dX3_findMet_78 rfl rfl rfl ?_
          exact ⟨rfl, hS, hg⟩
        · omega
      · intro i hi ih g v2 hS hg
        have T' := hS.T (by decide) T
        have hz := T'.1.2.2.2
        refine sw_iload_n dX3_findMet_28 rfl ?_
        refine sw_aload_n dX3_findMet_29 rfl ?_
        refine sw_cvi (i := 0) (c_hiddenCount T'.1.2.2.1 T'.1.1) dX3_findMet_30 lkX3_60 (by decide) ⟨by decide, _, rfl, rfl⟩ rfl rfl rfl (Nat.le_of_ble_eq_true rfl) ?_
        refine sw_icmpN_ge (tgt := 78) dX3_findMet_33 (by decide) (by omega) (by omega) (fun hc => ?_) (fun hc => ?_)
        · omega
        · clear hc
          refine sw_aload_n dX3_findMet_36 rfl ?_
          refine sw_iload_n dX3_findMet_37 rfl ?_
          refine sw_cvi (i := 0) (c_isPossible T' hi) dX3_findMet_38 lkX3_85 (by decide) ⟨by decide, _, rfl, rfl⟩ rfl rfl rfl (Nat.le_of_ble_eq_true rfl) ?_
          rw [hS 4 (by decide)]
          refine sw_if_eq (tgt := 72) dX3_findMet_41 (by decide) (fun hc => ?_) (fun hc => ?_)
          · have hp : posX h z sm i = false := bI_0 hc
            first | refine sw_iincN (b := 1) dX3_findMet_72 rfl (by decide) rfl ?_ | refine sw_iinc dX3_findMet_72 rfl rfl (by decide) rfl ?_
            refine sw_goto (tgt := 28) dX3_findMet_75 (by decide) ?_
            refine ih g _ hS (fun k hk => ?_)
            simp only [metB]
            rw [hp, Bool.false_and, Bool.or_false]
            exact hg k hk
          · have hp : posX h z sm i = true := bI_1 hc
            clear hc
            refine sw_iconst (v := nI 0) dX3_findMet_44 (by decide) ?_
            refine sw_istore_n dX3_findMet_45 (by decide) rfl ?_
            have key3 := lp_up (n := z) (S := fun c => ∀ g, Sam 9 h g → (∀ k, k < 8 * z → g 9 k = bI (metB (posX h z sm) sm k i || decide (k / 8 < c ∧ jnt (sm (k / 8)) i = k % 8))) → SW jX3_findMet E0 (Zm (fun v g => v = none ∧ Sam 9 h g ∧ ∀ k, k < 8 * z → g 9 k = bI (metB (posX h z sm) sm k (2 ^ n)))) 46 [some (.ref 1), some (.int (nI i)), some (.int (nI c))] [] g) ?_ ?_ 0 (Nat.zero_le _) g hS (fun k hk => by rw [decide_eq_false (fun q => Nat.not_lt_zero _ q.1), Bool.or_false]; exact hg k hk)
            · exact key3
            · intro g hS hg
              have hz := (hS.T (by decide) T).1.2.2.2
              refine sw_iload_n dX3_findMet_46 rfl ?_
              refine sw_aload_n dX3_findMet_47 rfl ?_
              refine sw_getI dX3_findMet_48 flX3_15 ⟨by decide, _, rfl, rfl⟩ ?_
              rw [hz]
              refine sw_icmpN_ge (tgt := 72) dX3_findMet_51 (by decide) (by omega) (by omega) (fun hc => ?_) (fun hc => ?_)
              · first | refine sw_iincN (b := 1) dX3_findMet_72 rfl (by decide) rfl ?_ | refine sw_iinc dX3_findMet_72 rfl rfl (by decide) rfl ?_
                refine sw_goto (tgt := 28) dX3_findMet_75 (by decide) ?_
                refine ih g _ hS (fun k hk => ?_)
                rw [hg k hk]
                simp only [metB]
                rw [hp, Bool.true_and]
                congr 2
                by_cases q : jnt (sm (k / 8)) i = k % 8
                · rw [decide_eq_true q, decide_eq_true ⟨by omega, q⟩]
                · rw [decide_eq_false q, decide_eq_false (fun r => q r.2)]
              · omega
            · intro c hcz ih2 g hS hg
              have T' := hS.T (by decide) T
              have hz := T'.1.2.2.2
              have hj := T.j8 hcz i
              refine sw_iload_n dX3_findMet_46 rfl ?_
              refine sw_aload_n dX3_findMet_47 rfl ?_
              refine sw_getI dX3_findMet_48 flX3_15 ⟨by decide, _, rfl, rfl⟩ ?_
              rw [hz]
              refine sw_icmpN_ge (tgt := 72) dX3_findMet_51 (by decide) (by omega) (by omega) (fun hc => ?_) (fun hc => ?_)
              · omega
              · clear hc
                refine sw_aload_n dX3_findMet_54 rfl ?_
                refine sw_getR dX3_findMet_55 flX3_43 ⟨by decide, _, rfl, rfl⟩ ?_
                refine sw_aload_n dX3_findMet_58 rfl ?_
                refine sw_iload_n dX3_findMet_59 rfl ?_
                refine sw_iload_n dX3_findMet_60 rfl ?_
                refine sw_cvi (i := 0) (c_placeBy T' hcz hi) dX3_findMet_61 lkX3_74 (by decide) ⟨by decide, _, rfl, rfl⟩ rfl rfl rfl (Nat.le_of_ble_eq_true rfl) ?_
                refine sw_iconst (v := nI 1) dX3_findMet_64 (by decide) ?_
                refine sw_zast dX3_findMet_65 (by omega) rfl ?_
                first | refine sw_iincN (b := 1) dX3_findMet_66 rfl (by decide) rfl ?_ | refine sw_iinc dX3_findMet_66 rfl rfl (by decide) rfl ?_
                refine sw_goto (tgt := 46) dX3_findMet_69 (by decide) ?_
                refine ih2 _ hS.set (fun k hk => ?_)
                rw [hset_eq]
                by_cases q : k = 8 * c + jnt (sm c) i
                · have e1 : k / 8 = c := by omega
                  have e2 : k % 8 = jnt (sm c) i := by omega
                  rw [if_pos ⟨rfl, q⟩, decide_eq_true ⟨by omega, by rw [e1, e2]⟩, Bool.or_true]
                  rfl
                · rw [if_neg (fun r => q r.2), hg k hk]
                  congr 2
                  by_cases r : k / 8 < c ∧ jnt (sm (k / 8)) i = k % 8
                  · rw [decide_eq_true r, decide_eq_true ⟨by omega, r.2⟩]
                  · rw [decide_eq_false r, decide_eq_false]
                    rintro ⟨r1, r2⟩
                    by_cases e : k / 8 = c
                    · rw [e] at r2
                      omega
                    · exact r ⟨by omega, r2⟩
    · omega
  · intro i hi ih g hS hg
    have hz := (hS.T (by decide) T).1.2.2.2
    refine sw_iload_n dX3_findMet_2 rfl ?_
    refine sw_bipush (v := nI 8) dX3_findMet_3 (by decide) ?_
    refine sw_aload_n dX3_findMet_5 rfl ?_
    refine sw_getI dX3_findMet_6 flX3_15 ⟨by decide, _, rfl, rfl⟩ ?_
    rw [hz]
    first | refine sw_imulN dX3_findMet_9 ?_ | refine sw_imul dX3_findMet_9 ?_
    refine sw_icmpN_ge (tgt := 26) dX3_findMet_10 (by decide) (by omega) (by omega) (fun hc => ?_) (fun hc => ?_)
    · omega
    · refine sw_aload_n dX3_findMet_13 rfl ?_
      refine sw_getR dX3_findMet_14 flX3_43 ⟨by decide, _, rfl, rfl⟩ ?_
      refine sw_iload_n dX3_findMet_17 rfl ?_
      refine sw_iconst (v := nI 0) dX3_findMet_18 (by decide) ?_
      refine sw_zast dX3_findMet_19 (by omega) rfl ?_
      first | refine sw_iincN (b := 1) dX3_findMet_20 rfl (by decide) rfl ?_ | refine sw_iinc dX3_findMet_20 rfl rfl (by decide) rfl ?_
      refine sw_goto (tgt := 2) dX3_findMet_23 (by decide) ?_
      refine ih _ hS.set (fun k hk => ?_)
      rw [hset_eq]
      by_cases q : k = i
      · rw [if_pos ⟨rfl, q⟩]
      · rw [if_neg (fun r => q r.2)]
        exact hg k (by omega)
/-- what add leaves -/
def addP (h : Hp) (n z s : Nat) (g : Hp) : Prop := (∀ k, k ≠ 1 → k ≠ 2 → k ≠ 3 → k ≠ 4 → k ≠ 5 → k ≠ 6 → k ≠ 7 → g k = h k) ∧ g 1 0 = h 1 0 ∧ g 2 = upd (h 2) z (nI s) ∧ g 3 = upd (h 3) z (-4) ∧ (∀ i, g 4 i = if 8 * z ≤ i ∧ i < 8 * z + 8 then nI 0 else h 4 i) ∧ (∀ i, g 5 i = if 8 * z ≤ i ∧ i < 8 * z + 8 then nI 0 else h 5 i) ∧ (∀ x, x < 2 ^ n → g 7 (64 * z + x) = nI (8 * z + jnt s x)) ∧ (∀ i, i < 64 * z → g 7 i = h 7 i) ∧ (∀ x, x < 2 ^ n → g 6 (8 * z + jnt s x) = nI (dp s (jnt s x) 6)) ∧ ∀ i, i < 8 * z → g 6 i = h 6 i
theorem c_add3 (T : TX h n z sm) (hz7 : z < 8) {s : Nat} (hs : s < 2 ^ n) (hs3 : pop s ≤ 3) : Ctr jX3_add [.ref 1, .int (nI s)] h (fun v g => v = some (.int (nI z)) ∧ addP h n z s g ∧ g 1 1 = nI (z + 1) ∧ g 1 2 = h 1 2 + nI 1) := by
  have h64 := pow6 T.1.1
  obtain ⟨⟨hn6, hz8, hn, hz⟩, -⟩ := T
  have hj8 : ∀ x, jnt s x < 8 := fun x => Nat.lt_of_lt_of_le (jnt_lt (by omega) x) (pow3 hs3)
  refine ctr_start (by decide) (Nat.le_of_ble_eq_true rfl) rfl rfl ?_
  show SW jX3_add E0 _ 0 [some (.ref 1), some (.int (nI s)), none, none, none] [] _
  refine sw_aload_n dX3_add_0 rfl ?_
  refine sw_getI dX3_add_1 flX3_15 ⟨by decide, _, rfl, rfl⟩ ?_
  rw [hz]
  refine sw_istore_n dX3_add_4 (by decide) rfl ?_
  refine sw_aload_n dX3_add_5 rfl ?_
  refine sw_getR dX3_add_6 flX3_21 ⟨by decide, _, rfl, rfl⟩ ?_
  refine sw_iload_n dX3_add_9 rfl ?_
  refine sw_iload_n dX3_add_10 rfl ?_
  refine sw_iast dX3_add_11 rfl (by simp only [plA]; omega) ?_
  refine sw_aload_n dX3_add_12 rfl ?_
  refine sw_getR dX3_add_13 flX3_25 ⟨by decide, _, rfl, rfl⟩ ?_
  refine sw_iload_n dX3_add_16 rfl ?_
  refine sw_bipush (v := (-4)) dX3_add_17 (by decide) ?_
  refine sw_iast dX3_add_19 rfl (by simp only [plA]; omega) ?_
  refine sw_iconst (v := nI 0) dX3_add_20 (by decide) ?_
  refine sw_istore_n dX3_add_21 (by decide) rfl ?_
  have key := lp_up (n := 8) (S := fun i => ∀ g : Hp, (∀ k, k ≠ 4 → k ≠ 5 → g k = hset (hset h 2 z (nI s)) 3 z (-4) k) → (∀ a, g 4 a = if 8 * z ≤ a ∧ a < 8 * z + i then nI 0 else h 4 a) → (∀ a, g 5 a = if 8 * z ≤ a ∧ a < 8 * z + i then nI 0 else h 5 a) → SW jX3_add E0 (Zm (fun v g => v = some (.int (nI z)) ∧ addP h n z s g ∧ g 1 1 = nI (z + 1) ∧ g 1 2 = h 1 2 + nI 1)) 22 [some (.ref 1), some (.int (nI s)), some (.int (nI z)), some (.int (nI i)), none] [] g) ?_ ?_ 0 (Nat.zero_le _) _ (fun k h4 h5 => rfl) (fun a => by rw [if_neg (fun q => by omega), hset_k (by decide), hset_k (by decide)]) (fun a => by rw [if_neg (fun q => by omega), hset_k (by decide), hset_k (by decide)])
  · exact key
  · intro g hg g4 g5
    refine sw_iload_n dX3_add_22 rfl ?_
    refine sw_bipush (v := nI 8) dX3_add_23 (by decide) ?_
    refine sw_icmpN_ge (tgt := 58) dX3_add_25 (by decide) (by omega) (by omega) (fun hc => ?_) (fun hc => ?_)
    · clear hc
      have e1 : g 1 = h 1 := by rw [hg 1 (by decide) (by decide), hset_off 1 (by decide), hset_off 1 (by decide)]
      have e2 : g 2 = upd (h 2) z (nI s) := by rw [hg 2 (by decide) (by decide), hset_off 2 (by decide), hset_same]
      have e3 : g 3 = upd (h 3) z (-4) := by rw [hg 3 (by decide) (by decide), hset_same, hset_off 3 (by decide)]
      refine sw_iconst (v := nI 0) dX3_add_58 (by decide) ?_
      refine sw_istore_n dX3_add_59 (by decide) rfl ?_
      have key2 := lp_up (n := 2 ^ n) (S := fun i => ∀ (f : Hp) v4, (∀ k, k ≠ 6 → k ≠ 7 → f k = g k) → (∀ x, x < i → f 7 (64 * z + x) = nI (8 * z + jnt s x)) → (∀ a, a < 64 * z → f 7 a = h 7 a) → (∀ x, x < i → f 6 (8 * z + jnt s x) = nI (dp s (jnt s x) 6)) → (∀ a, a < 8 * z → f 6 a = h 6 a) → SW jX3_add E0 (Zm (fun v g => v = some (.int (nI z)) ∧ addP h n z s g ∧ g 1 1 = nI (z + 1) ∧ g 1 2 = h 1 2 + nI 1)) 60 [some (.ref 1), some (.int (nI s)), some (.int (nI z)), some (.int (nI i)), v4] [] f) ?_ ?_ 0 (Nat.zero_le _) g none (fun _ _ _ => rfl) (fun x hx => absurd hx (Nat.not_lt_zero _)) (fun a _ => by rw [hg 7 (by decide) (by decide), hset_k (by decide), hset_k (by decide)]) (fun x hx => absurd hx (Nat.not_lt_zero _)) (fun a _ => by rw [hg 6 (by decide) (by decide), hset_k (by decide), hset_k (by decide)])
      · exact key2
      · intro f v4 hf f7 f7o f6 f6o
        have ef : f 1 = h 1 := by rw [hf 1 (by decide) (by decide), e1]
        refine sw_iload_n dX3_add_60 rfl ?_
        refine sw_aload_n dX3_add_61 rfl ?_
        refine sw_cvi (i := 0) (c_hiddenCount (n := n) (by rw [ef]; exact hn) hn6) dX3_add_62 lkX3_60 (by decide) ⟨by decide, _, rfl, rfl⟩ rfl rfl rfl (Nat.le_of_ble_eq_true rfl) ?_
        refine sw_icmpN_ge (tgt := 109) dX3_add_65 (by decide) (by omega) (by omega) (fun hc => ?_) (fun hc => ?_)
        · refine sw_aload_n dX3_add_109 rfl ?_
          refine sw_dup dX3_add_110 rfl ?_
          refine sw_getI dX3_add_111 flX3_15 ⟨by decide, _, rfl, rfl⟩ ?_
          refine sw_iconst (v := nI 1) dX3_add_114 (by decide) ?_
          rw [show f 1 1 = nI z by rw [ef]; exact hz]
          first | refine sw_iaddN dX3_add_115 ?_ | refine sw_iadd dX3_add_115 ?_
          refine sw_put dX3_add_116 fpX3_15 ⟨by decide, _, rfl, rfl⟩ rfl rfl ?_
          refine sw_aload_n dX3_add_119 rfl ?_
          refine sw_dup dX3_add_120 rfl ?_
          refine sw_getI dX3_add_121 flX3_18 ⟨by decide, _, rfl, rfl⟩ ?_
          refine sw_iconst (v := nI 1) dX3_add_124 (by decide) ?_
          rw [show hset f 1 1 (nI (z + 1)) 1 2 = h 1 2 by rw [hset_i (by decide), ef]]
          refine sw_iadd dX3_add_125 ?_
          refine sw_put dX3_add_126 fpX3_18 ⟨by decide, _, rfl, rfl⟩ rfl rfl ?_
          refine sw_iload_n dX3_add_129 rfl ?_
          refine sw_iret dX3_add_130 rfl rfl rfl ?_
          have off : ∀ k, k ≠ 1 → hset (hset f 1 1 (nI (z + 1))) 1 2 (h 1 2 + nI 1) k = f k := fun k hk => by rw [hset_off k hk, hset_off k hk]
          refine ⟨rfl, ⟨fun k k1 k2 k3 k4 k5 k6 k7 => ?_, ?_, ?_, ?_, fun i => ?_, fun i => ?_, fun x hx => ?_, fun i hi => ?_, fun x hx => ?_, fun i hi => ?_⟩, ?_, ?_⟩
          · rw [off k k1, hf k k6 k7, hg k k4 k5, hset_off k k3, hset_off k k2]
          · rw [hset_i (by decide), hset_i (by decide), ef]
          · rw [off 2 (by decide), hf 2 (by decide) (by decide), e2]
          · rw [off 3 (by decide), hf 3 (by decide) (by decide), e3]
          · rw [off 4 (by decide), hf 4 (by decide) (by decide), g4]
          · rw [off 5 (by decide), hf 5 (by decide) (by decide), g5]
          · rw [off 7 (by decide)]; exact f7 x hx
          · rw [off 7 (by decide)]; exact f7o i hi
          · rw [off 6 (by decide)]; exact f6 x hx
          · rw [off 6 (by decide)]; exact f6o i hi
          · rw [hset_i (by decide), hset_at]
          · rw [hset_at]
        · omega
      · intro i hi ih f v4 hf f7 f7o f6 f6o
        have ef : f 1 = h 1 := by rw [hf 1 (by decide) (by decide), e1]
        have hj := hj8 i
        refine sw_iload_n dX3_add_60 rfl ?_
        refine sw_aload_n dX3_add_61 rfl ?_
        refine sw_cvi (i := 0) (c_hiddenCount (n := n) (by rw [ef]; exact hn) hn6) dX3_add_62 lkX3_60 (by decide) ⟨by decide, _, rfl, rfl⟩ rfl rfl rfl (Nat.le_of_ble_eq_true rfl) ?_
        refine sw_icmpN_ge (tgt := 109) dX3_add_65 (by decide) (by omega) (by omega) (fun hc => ?_) (fun hc => ?_)
        · omega
        · clear hc
          refine sw_bipush (v := nI 8) dX3_add_68 (by decide) ?_
          refine sw_iload_n dX3_add_70 rfl ?_
          first | refine sw_imulN dX3_add_71 ?_ | refine sw_imul dX3_add_71 ?_
          refine sw_iload_n dX3_add_72 rfl ?_
          refine sw_iload_n dX3_add_73 rfl ?_
          refine sw_csi (c_numberOf (by omega) (by omega)) dX3_add_74 lkX3_64 (by decide) rfl rfl (Nat.le_of_ble_eq_true rfl) ?_
          first | refine sw_iaddN dX3_add_77 ?_ | refine sw_iadd dX3_add_77 ?_
          refine sw_istore dX3_add_78 (by decide) rfl ?_
          refine sw_aload_n dX3_add_80 rfl ?_
          refine sw_getR dX3_add_81 flX3_37 ⟨by decide, _, rfl, rfl⟩ ?_
          refine sw_bipush (v := nI 64) dX3_add_84 (by decide) ?_
          refine sw_iload_n dX3_add_86 rfl ?_
          first | refine sw_imulN dX3_add_87 ?_ | refine sw_imul dX3_add_87 ?_
          refine sw_iload_n dX3_add_88 rfl ?_
          first | refine sw_iaddN dX3_add_89 ?_ | refine sw_iadd dX3_add_89 ?_
          refine sw_iload dX3_add_90 rfl ?_
          refine sw_iast dX3_add_92 rfl (by simp only [plA]; omega) ?_
          refine sw_aload_n dX3_add_93 rfl ?_
          refine sw_getR dX3_add_94 flX3_34 ⟨by decide, _, rfl, rfl⟩ ?_
          refine sw_iload dX3_add_97 rfl ?_
          refine sw_iload_n dX3_add_99 rfl ?_
          refine sw_iload_n dX3_add_100 rfl ?_
          first | refine sw_iandN dX3_add_101 ?_ | refine sw_iand dX3_add_101 ?_
          refine sw_iast dX3_add_102 rfl (by simp only [plA]; omega) ?_
          first | refine sw_iincN (b := 1) dX3_add_103 rfl (by decide) rfl ?_ | refine sw_iinc dX3_add_103 rfl rfl (by decide) rfl ?_
          refine sw_goto (tgt := 60) dX3_add_106 (by decide) ?_
          refine ih _ _ (fun k k6 k7 => ?_) (fun x hx => ?_) (fun a ha => ?_) (fun x hx => ?_) (fun a ha => ?_)
          · rw [hset_off k k6, hset_off k k7]; exact hf k k6 k7
          · rw [hset_k (by decide), hset_eq]
            by_cases q : x = i
            · rw [if_pos ⟨rfl, by omega⟩, q]
            · rw [if_neg (fun r => by omega)]
              exact f7 x (by omega)
          · rw [hset_k (by decide), hset_ne (fun r => by omega)]
            exact f7o a ha
          · rw [hset_eq]
            by_cases q : jnt s x = jnt s i
            · rw [if_pos ⟨rfl, by rw [q]⟩, q, dp_jnt s (by omega) i (by omega)]
            · rw [if_neg (fun r => q (by omega)), hset_k (by decide)]
              have : x ≠ i := fun e => q (by rw [e])
              exact f6 x (by omega)
          · rw [hset_ne (fun r => by omega), hset_k (by decide)]
            exact f6o a ha
    · omega
  · intro i hi ih g hg g4 g5
    refine sw_iload_n dX3_add_22 rfl ?_
    refine sw_bipush (v := nI 8) dX3_add_23 (by decide) ?_
    refine sw_icmpN_ge (tgt := 58) dX3_add_25 (by decide) (by omega) (by omega) (fun hc => ?_) (fun hc => ?_)
    · omega
    · refine sw_aload_n dX3_add_28 rfl ?_
      refine sw_getR dX3_add_29 flX3_28 ⟨by decide, _, rfl, rfl⟩ ?_
      refine sw_bipush (v := nI 8) dX3_add_32 (by decide) ?_
      refine sw_iload_n dX3_add_34 rfl ?_
      first | refine sw_imulN dX3_add_35 ?_ | refine sw_imul dX3_add_35 ?_
      refine sw_iload_n dX3_add_36 rfl ?_
      first | refine sw_iaddN dX3_add_37 ?_ | refine sw_iadd dX3_add_37 ?_
      refine sw_iconst (v := nI 0) dX3_add_38 (by decide) ?_
      refine sw_iast dX3_add_39 rfl (by simp only [plA]; omega) ?_
      refine sw_aload_n dX3_add_40 rfl ?_
      refine sw_getR dX3_add_41 flX3_31 ⟨by decide, _, rfl, rfl⟩ ?_
      refine sw_bipush (v := nI 8) dX3_add_44 (by decide) ?_
      refine sw_iload_n dX3_add_46 rfl ?_
      first | refine sw_imulN dX3_add_47 ?_ | refine sw_imul dX3_add_47 ?_
      refine sw_iload_n dX3_add_48 rfl ?_
      first | refine sw_iaddN dX3_add_49 ?_ | refine sw_iadd dX3_add_49 ?_
      refine sw_iconst (v := nI 0) dX3_add_50 (by decide) ?_
      refine sw_iast dX3_add_51 rfl (by simp only [plA]; omega) ?_
      first | refine sw_iincN (b := 1) dX3_add_52 rfl (by decide) rfl ?_ | refine sw_iinc dX3_add_52 rfl rfl (by decide) rfl ?_
      refine sw_goto (tgt := 22) dX3_add_55 (by decide) ?_
      refine ih _ (fun k k4 k5 => ?_) (fun a => ?_) (fun a => ?_)
      · rw [hset_off k k5, hset_off k k4]; exact hg k k4 k5
      · rw [hset_k (by decide), hset_eq, g4]
        by_cases q : a = 8 * z + i
        · rw [if_pos ⟨rfl, q⟩, if_pos (by omega)]
        · rw [if_neg (fun r => q r.2)]
          by_cases r : 8 * z ≤ a ∧ a < 8 * z + i
          · rw [if_pos r, if_pos (by omega)]
          · rw [if_neg r, if_neg (by omega)]
      · rw [hset_eq, hset_k (by decide), g5]
        by_cases q : a = 8 * z + i
        · rw [if_pos ⟨rfl, q⟩, if_pos (by omega)]
        · rw [if_neg (fun r => q r.2)]
          by_cases r : 8 * z ≤ a ∧ a < 8 * z + i
          · rw [if_pos r, if_pos (by omega)]
          · rw [if_neg r, if_neg (by omega)]
end TAB
