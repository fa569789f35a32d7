/-! the table's methods that write -/
section TAB
variable {h : Hp} {n z : Nat} {sm : Nat → Nat}
theorem c_begin (k : Int32) : Ctr jX3_begin [.ref 1, .int k] h (RetV (hset (hset (hset h 1 0 k) 1 1 (nI 0)) 1 2 (h 1 2 + nI 1))) := by
  refine ctr_start (by decide) (Nat.le_of_ble_eq_true rfl) rfl rfl ?_
  show SW jX3_begin E0 _ 0 [some (.ref 1), some (.int k)] [] _
  refine sw_aload_n dX3_begin_0 rfl ?_
  refine sw_iload_n dX3_begin_1 rfl ?_
  refine sw_put dX3_begin_2 fpX3_9 ⟨by decide, _, rfl, rfl⟩ rfl rfl ?_
  refine sw_aload_n dX3_begin_5 rfl ?_
  refine sw_iconst (v := nI 0) dX3_begin_6 (by decide) ?_
  refine sw_put dX3_begin_7 fpX3_15 ⟨by decide, _, rfl, rfl⟩ rfl rfl ?_
  refine sw_aload_n dX3_begin_10 rfl ?_
  refine sw_dup dX3_begin_11 rfl ?_
  refine sw_getI dX3_begin_12 flX3_18 ⟨by decide, _, rfl, rfl⟩ ?_
  refine sw_iconst (v := nI 1) dX3_begin_15 (by decide) ?_
  rw [show hset (hset h 1 0 k) 1 1 (nI 0) 1 2 = h 1 2 by rw [hset_i (by decide), hset_i (by decide)]]
  first | refine sw_iaddN dX3_begin_16 ?_ | refine sw_iadd dX3_begin_16 ?_
  refine sw_put dX3_begin_17 fpX3_18 ⟨by decide, _, rfl, rfl⟩ rfl rfl ?_
  refine sw_vret dX3_begin_20 rfl rfl rfl ?_
  exact ⟨rfl, rfl⟩
theorem c_removeLatest3 (hz : h 1 1 = nI (z + 1)) : Ctr jX3_removeLatest [.ref 1] h (Ret (nI z) (hset (hset h 1 1 (nI z)) 1 2 (h 1 2 + nI 1))) := by
  refine ctr_start (by decide) (Nat.le_of_ble_eq_true rfl) rfl rfl ?_
  show SW jX3_removeLatest E0 _ 0 [some (.ref 1)] [] _
  refine sw_aload_n dX3_removeLatest_0 rfl ?_
  refine sw_dup dX3_removeLatest_1 rfl ?_
  refine sw_getI dX3_removeLatest_2 flX3_15 ⟨by decide, _, rfl, rfl⟩ ?_
  refine sw_iconst (v := nI 1) dX3_removeLatest_5 (by decide) ?_
  rw [hz]
  first | refine sw_isubN dX3_removeLatest_6 (by omega) ?_ | refine sw_isub dX3_removeLatest_6 ?_
  rw [show z + 1 - 1 = z by omega]
  refine sw_put dX3_removeLatest_7 fpX3_15 ⟨by decide, _, rfl, rfl⟩ rfl rfl ?_
  refine sw_aload_n dX3_removeLatest_10 rfl ?_
  refine sw_dup dX3_removeLatest_11 rfl ?_
  refine sw_getI dX3_removeLatest_12 flX3_18 ⟨by decide, _, rfl, rfl⟩ ?_
  refine sw_iconst (v := nI 1) dX3_removeLatest_15 (by decide) ?_
  rw [show hset h 1 1 (nI z) 1 2 = h 1 2 from hset_i (by decide)]
  first | refine sw_iaddN dX3_removeLatest_16 ?_ | refine sw_iadd dX3_removeLatest_16 ?_
  refine sw_put dX3_removeLatest_17 fpX3_18 ⟨by decide, _, rfl, rfl⟩ rfl rfl ?_
  refine sw_aload_n dX3_removeLatest_20 rfl ?_
  refine sw_getI dX3_removeLatest_21 flX3_15 ⟨by decide, _, rfl, rfl⟩ ?_
  rw [show hset (hset h 1 1 (nI z)) 1 2 (h 1 2 + nI 1) 1 1 = nI z by rw [hset_i (by decide), hset_at]]
  refine sw_iret dX3_removeLatest_24 rfl rfl rfl ?_
  exact ⟨rfl, rfl⟩
theorem c_setWeight {k : Nat} (hk : k < 64) (v : Int32) : Ctr jX3_setWeight [.ref 1, .int (nI k), .int v] h (RetV (hset (hset h 4 k v) 1 2 (h 1 2 + nI 1))) := by
  refine ctr_start (by decide) (Nat.le_of_ble_eq_true rfl) rfl rfl ?_
  show SW jX3_setWeight E0 _ 0 [some (.ref 1), some (.int (nI k)), some (.int v)] [] _
  refine sw_aload_n dX3_setWeight_0 rfl ?_
  refine sw_getR dX3_setWeight_1 flX3_28 ⟨by decide, _, rfl, rfl⟩ ?_
  refine sw_iload_n dX3_setWeight_4 rfl ?_
  refine sw_iload_n dX3_setWeight_5 rfl ?_
  refine sw_iast dX3_setWeight_6 rfl (by simp only [plA]; omega) ?_
  refine sw_aload_n dX3_setWeight_7 rfl ?_
  refine sw_dup dX3_setWeight_8 rfl ?_
  refine sw_getI dX3_setWeight_9 flX3_18 ⟨by decide, _, rfl, rfl⟩ ?_
  refine sw_iconst (v := nI 1) dX3_setWeight_12 (by decide) ?_
  rw [show hset h 4 k v 1 2 = h 1 2 from hset_k (by decide)]
  first | refine sw_iaddN dX3_setWeight_13 ?_ | refine sw_iadd dX3_setWeight_13 ?_
  refine sw_put dX3_setWeight_14 fpX3_18 ⟨by decide, _, rfl, rfl⟩ rfl rfl ?_
  refine sw_vret dX3_setWeight_17 rfl rfl rfl ?_
  exact ⟨rfl, rfl⟩
/-- what the class's weighBy leaves: the weights by the hidden below x that m has -/
def mixW (sm : Nat → Nat) (m z : Nat) : Nat → Nat → Int32
  | 0, _ => 0
  | x + 1, k => mixW sm m z x k + (if m / 2 ^ x % 2 = 1 ∧ k / 8 < z ∧ jnt (sm (k / 8)) x = k % 8 then nI 1 else 0)
theorem c_weighBy (T : TX h n z sm) {m : Nat} (hm : m < 65536) (hn4 : n ≤ 4) : Ctr jX3_weighBy [.ref 1, .int (nI m)] h (fun v g => v = none ∧ (∀ k, k ≠ 1 → k ≠ 4 → g k = h k) ∧ g 1 0 = h 1 0 ∧ g 1 1 = h 1 1 ∧ g 1 2 = h 1 2 + nI 1 ∧ ∀ k, k < 64 → g 4 k = mixW sm m z (2 ^ n) k) := by
  have hz8 := T.1.2.1
  have h16 : 2 ^ n ≤ 16 := Nat.pow_le_pow_right (n := 2) (by omega) hn4
  refine ctr_start (by decide) (Nat.le_of_ble_eq_true rfl) rfl rfl ?_
  show SW jX3_weighBy E0 _ 0 [some (.ref 1), some (.int (nI m)), none, none] [] _
  refine sw_aload_n dX3_weighBy_0 rfl ?_
  refine sw_getR dX3_weighBy_1 flX3_28 ⟨by decide, _, rfl, rfl⟩ ?_
  refine sw_iconst (v := nI 0) dX3_weighBy_4 (by decide) ?_
  refine sw_csv (c_fill (q := 4) rfl (nI 0)) dX3_weighBy_5 lkX3_68 (by decide) rfl rfl (Nat.le_of_ble_eq_true rfl) ?_
  have hS1 : Sam 4 h (hfl h 4 (nI 0) (plA 4)) := fun k hk => hfl_off hk
  have hw1 : ∀ k, k < 64 → hfl h 4 (nI 0) (plA 4) 4 k = mixW sm m z 0 k := fun k hk => hfl_in (show k < plA 4 from hk)
  generalize hfl h 4 (nI 0) (plA 4) = g1 at hS1 hw1 ⊢
  refine sw_iconst (v := nI 0) dX3_weighBy_8 (by decide) ?_
  refine sw_istore_n dX3_weighBy_9 (by decide) rfl ?_
  have key := lp_up (n := 2 ^ n) (S := fun i => ∀ g v3, Sam 4 h g → (∀ k, k < 64 → g 4 k = mixW sm m z i k) → SW jX3_weighBy E0 (Zm (fun v g => v = none ∧ (∀ k, k ≠ 1 → k ≠ 4 → g k = h k) ∧ g 1 0 = h 1 0 ∧ g 1 1 = h 1 1 ∧ g 1 2 = h 1 2 + nI 1 ∧ ∀ k, k < 64 → g 4 k = mixW sm m z (2 ^ n) k)) 10 [some (.ref 1), some (.int (nI m)), some (.int (nI i)), v3] [] g) ?_ ?_ 0 (Nat.zero_le _) g1 none hS1 hw1
  · exact key
  · intro g v3 hS hg
    have T' := hS.T (by decide) T
    refine sw_iload_n dX3_weighBy_10 rfl ?_
    refine sw_aload_n dX3_weighBy_11 rfl ?_
    refine sw_cvi (i := 0) (c_hiddenCount T'.1.2.2.1 T'.1.1) dX3_weighBy_12 lkX3_60 (by decide) ⟨by decide, _, rfl, rfl⟩ rfl rfl rfl (Nat.le_of_ble_eq_true rfl) ?_
    refine sw_icmpN_ge (tgt := 64) dX3_weighBy_15 (by decide) (by omega) (by omega) (fun hc => ?_) (fun hc => ?_)
    · refine sw_aload_n dX3_weighBy_64 rfl ?_
      refine sw_dup dX3_weighBy_65 rfl ?_
      refine sw_getI dX3_weighBy_66 flX3_18 ⟨by decide, _, rfl, rfl⟩ ?_
      refine sw_iconst (v := nI 1) dX3_weighBy_69 (by decide) ?_
      first | refine sw_iaddN dX3_weighBy_70 ?_ | refine sw_iadd dX3_weighBy_70 ?_
      refine sw_put dX3_weighBy_71 fpX3_18 ⟨by decide, _, rfl, rfl⟩ rfl rfl ?_
      refine sw_vret dX3_weighBy_74 rfl rfl rfl ?_
      refine ⟨rfl, fun k h1 h4 => ?_, ?_, ?_, ?_, fun k hk => ?_⟩
      · rw [hset_off k h1]; exact hS k h4
      · rw [hset_i (by decide), hS 1 (by decide)]
      · rw [hset_i (by decide), hS 1 (by decide)]
      · rw [hset_at, hS 1 (by decide)]
      · rw [hset_k (by decide)]; exact hg k hk
    · omega
  · intro i hi ih g v3 hS hg
    have T' := hS.T (by decide) T
    refine sw_iload_n dX3_weighBy_10 rfl ?_
    refine sw_aload_n dX3_weighBy_11 rfl ?_
    refine sw_cvi (i := 0) (c_hiddenCount T'.1.2.2.1 T'.1.1) dX3_weighBy_12 lkX3_60 (by decide) ⟨by decide, _, rfl, rfl⟩ rfl rfl rfl (Nat.le_of_ble_eq_true rfl) ?_
    refine sw_icmpN_ge (tgt := 64) dX3_weighBy_15 (by decide) (by omega) (by omega) (fun hc => ?_) (fun hc => ?_)
    · omega
    · clear hc
      refine sw_iload_n dX3_weighBy_18 rfl ?_
      refine sw_iload_n dX3_weighBy_19 rfl ?_
      first | refine sw_ishrN dX3_weighBy_20 (by omega) (by omega) ?_ | refine sw_ishr dX3_weighBy_20 ?_
      refine sw_iconst (v := nI 1) dX3_weighBy_21 (by decide) ?_
      first | refine sw_iand1 dX3_weighBy_22 ?_ | refine sw_iand dX3_weighBy_22 ?_
      refine sw_iconst (v := nI 1) dX3_weighBy_23 (by decide) ?_
      refine sw_icmpN_ne (tgt := 58) dX3_weighBy_24 (by decide) (by omega) (by omega) (fun hc => ?_) (fun hc => ?_)
      · first | refine sw_iincN (b := 1) dX3_weighBy_58 rfl (by decide) rfl ?_ | refine sw_iinc dX3_weighBy_58 rfl rfl (by decide) rfl ?_
        refine sw_goto (tgt := 10) dX3_weighBy_61 (by decide) ?_
        refine ih g _ hS (fun k hk => ?_)
        simp only [mixW]
        rw [if_neg (fun q => hc q.1), hg k hk]
        simp
      · have hb := hc
        clear hc
        refine sw_iconst (v := nI 0) dX3_weighBy_27 (by decide) ?_
        refine sw_istore_n dX3_weighBy_28 (by decide) rfl ?_
        have key2 := lp_up (n := z) (S := fun c => ∀ g, Sam 4 h g → (∀ k, k < 64 → g 4 k = mixW sm m z i k + (if k / 8 < c ∧ jnt (sm (k / 8)) i = k % 8 then nI 1 else 0)) → SW jX3_weighBy E0 (Zm (fun v g => v = none ∧ (∀ k, k ≠ 1 → k ≠ 4 → g k = h k) ∧ g 1 0 = h 1 0 ∧ g 1 1 = h 1 1 ∧ g 1 2 = h 1 2 + nI 1 ∧ ∀ k, k < 64 → g 4 k = mixW sm m z (2 ^ n) k)) 29 [some (.ref 1), some (.int (nI m)), some (.int (nI i)), some (.int (nI c))] [] g) ?_ ?_ 0 (Nat.zero_le _) g hS (fun k hk => by rw [if_neg (fun q => Nat.not_lt_zero _ q.1), hg k hk]; simp)
        · exact key2
        · intro g hS hg
          have hz := (hS.T (by decide) T).1.2.2.2
          refine sw_iload_n dX3_weighBy_29 rfl ?_
          refine sw_aload_n dX3_weighBy_30 rfl ?_
          refine sw_getI dX3_weighBy_31 flX3_15 ⟨by decide, _, rfl, rfl⟩ ?_
          rw [hz]
          refine sw_icmpN_ge (tgt := 58) dX3_weighBy_34 (by decide) (by omega) (by omega) (fun hc => ?_) (fun hc => ?_)
          · first | refine sw_iincN (b := 1) dX3_weighBy_58 rfl (by decide) rfl ?_ | refine sw_iinc dX3_weighBy_58 rfl rfl (by decide) rfl ?_
            refine sw_goto (tgt := 10) dX3_weighBy_61 (by decide) ?_
            refine ih g _ hS (fun k hk => ?_)
            simp only [mixW]
            rw [hg k hk]
            congr 1
            by_cases q : k / 8 < z ∧ jnt (sm (k / 8)) i = k % 8
            · rw [if_pos q, if_pos ⟨hb, q⟩]
            · rw [if_neg q, if_neg (fun r => q r.2)]
          · omega
        · intro c hcz ih2 g hS hg
          have T' := hS.T (by decide) T
          have hz := T'.1.2.2.2
          have hj := T.j8 hcz i
          refine sw_iload_n dX3_weighBy_29 rfl ?_
          refine sw_aload_n dX3_weighBy_30 rfl ?_
          refine sw_getI dX3_weighBy_31 flX3_15 ⟨by decide, _, rfl, rfl⟩ ?_
          rw [hz]
          refine sw_icmpN_ge (tgt := 58) dX3_weighBy_34 (by decide) (by omega) (by omega) (fun hc => ?_) (fun hc => ?_)
          · omega
          · clear hc
            refine sw_aload_n dX3_weighBy_37 rfl ?_
            refine sw_getR dX3_weighBy_38 flX3_28 ⟨by decide, _, rfl, rfl⟩ ?_
            refine sw_aload_n dX3_weighBy_41 rfl ?_
            refine sw_iload_n dX3_weighBy_42 rfl ?_
            refine sw_iload_n dX3_weighBy_43 rfl ?_
            refine sw_cvi (i := 0) (c_placeBy T' hcz hi) dX3_weighBy_44 lkX3_74 (by decide) ⟨by decide, _, rfl, rfl⟩ rfl rfl rfl (Nat.le_of_ble_eq_true rfl) ?_
            refine sw_dup2 dX3_weighBy_47 rfl rfl ?_
            refine sw_iald dX3_weighBy_48 rfl (by simp only [plA]; omega) ?_
            refine sw_iconst (v := nI 1) dX3_weighBy_49 (by decide) ?_
            first | refine sw_iaddN dX3_weighBy_50 ?_ | refine sw_iadd dX3_weighBy_50 ?_
            refine sw_iast dX3_weighBy_51 rfl (by simp only [plA]; omega) ?_
            first | refine sw_iincN (b := 1) dX3_weighBy_52 rfl (by decide) rfl ?_ | refine sw_iinc dX3_weighBy_52 rfl rfl (by decide) rfl ?_
            refine sw_goto (tgt := 29) dX3_weighBy_55 (by decide) ?_
            refine ih2 _ hS.set (fun k hk => ?_)
            rw [hset_eq]
            by_cases q : k = 8 * c + jnt (sm c) i
            · have e1 : k / 8 = c := by omega
              have e2 : k % 8 = jnt (sm c) i := by omega
              rw [if_pos ⟨rfl, q⟩, if_pos ⟨by omega, by rw [e1, e2]⟩, ← q, hg k hk, if_neg (fun r => by omega)]
              simp
            · rw [if_neg (fun r => q r.2), hg k hk]
              congr 1
              by_cases r : k / 8 < c ∧ jnt (sm (k / 8)) i = k % 8
              · rw [if_pos r, if_pos ⟨by omega, r.2⟩]
              · rw [if_neg r, if_neg]
                rintro ⟨r1, r2⟩
                by_cases e : k / 8 = c
                · rw [e] at r2
                  omega
                · exact r ⟨by omega, r2⟩
theorem c_weightsAboveZero (T : TX h n z sm) (hw : ∀ c j, c < z → 2 ^ pop (sm c) ≤ j → j < 8 → h 4 (8 * c + j) = 0) : Ctr jX3_weightsAboveZero [.ref 1] h (Ret (nI (fa_cnt (fun k => decide (0 < h 4 k)) (8 * z))) h) := by
  have hz8 := T.1.2.1
  have hz := T.1.2.2.2
  refine ctr_start (by decide) (Nat.le_of_ble_eq_true rfl) rfl rfl ?_
  show SW jX3_weightsAboveZero E0 _ 0 [some (.ref 1), none, none, none] [] _
  refine sw_iconst (v := nI 0) dX3_weightsAboveZero_0 (by decide) ?_
  refine sw_istore_n dX3_weightsAboveZero_1 (by decide) rfl ?_
  refine sw_iconst (v := nI 0) dX3_weightsAboveZero_2 (by decide) ?_
  refine sw_istore_n dX3_weightsAboveZero_3 (by decide) rfl ?_
  have key := lp_up (n := z) (S := fun i => ∀ v3, SW jX3_weightsAboveZero E0 (Zm (Ret (nI (fa_cnt (fun k => decide (0 < h 4 k)) (8 * z))) h)) 4 [some (.ref 1), some (.int (nI (fa_cnt (fun k => decide (0 < h 4 k)) (8 * i)))), some (.int (nI i)), v3] [] h) ?_ ?_ 0 (Nat.zero_le _) none
  · exact key
  · intro v3
    refine sw_iload_n dX3_weightsAboveZero_4 rfl ?_
    refine sw_aload_n dX3_weightsAboveZero_5 rfl ?_
    refine sw_getI dX3_weightsAboveZero_6 flX3_15 ⟨by decide, _, rfl, rfl⟩ ?_
    rw [hz]
    refine sw_icmpN_ge (tgt := 52) dX3_weightsAboveZero_9 (by decide) (by omega) (by omega) (fun hc => ?_) (fun hc => ?_)
    · refine sw_iload_n dX3_weightsAboveZero_52 rfl ?_
      refine sw_iret dX3_weightsAboveZero_53 rfl rfl rfl ?_
      exact ⟨rfl, rfl⟩
    · omega
  · intro i hi ih v3
    have hp := pow3 (T.2.1 i hi).2.2.2
    refine sw_iload_n dX3_weightsAboveZero_4 rfl ?_
    refine sw_aload_n dX3_weightsAboveZero_5 rfl ?_
    refine sw_getI dX3_weightsAboveZero_6 flX3_15 ⟨by decide, _, rfl, rfl⟩ ?_
    rw [hz]
    refine sw_icmpN_ge (tgt := 52) dX3_weightsAboveZero_9 (by decide) (by omega) (by omega) (fun hc => ?_) (fun hc => ?_)
    · omega
    · clear hc
      refine sw_iconst (v := nI 0) dX3_weightsAboveZero_12 (by decide) ?_
      refine sw_istore_n dX3_weightsAboveZero_13 (by decide) rfl ?_
      have key2 := lp_up (n := 2 ^ pop (sm i)) (S := fun j => SW jX3_weightsAboveZero E0 (Zm (Ret (nI (fa_cnt (fun k => decide (0 < h 4 k)) (8 * z))) h)) 14 [some (.ref 1), some (.int (nI (fa_cnt (fun k => decide (0 < h 4 k)) (8 * i + j)))), some (.int (nI i)), some (.int (nI j))] [] h) ?_ ?_ 0 (Nat.zero_le _)
      · exact key2
      · have e : ∀ m, m ≤ 8 - 2 ^ pop (sm i) → fa_cnt (fun k => decide (0 < h 4 k)) (8 * i + 2 ^ pop (sm i) + m) = fa_cnt (fun k => decide (0 < h 4 k)) (8 * i + 2 ^ pop (sm i)) := by
          intro m
          induction m with
          | zero => intro _; rfl
          | succ m ihm =>
            intro hm
            rw [← ihm (by omega), ← Nat.add_assoc]
            refine fa_cnt_no (decide_eq_false ?_)
            have := hw i (2 ^ pop (sm i) + m) hi (by omega) (by omega)
            rw [← Nat.add_assoc] at this
            rw [this]
            decide
        have e2 := e (8 - 2 ^ pop (sm i)) (Nat.le_refl _)
        rw [show 8 * i + 2 ^ pop (sm i) + (8 - 2 ^ pop (sm i)) = 8 * (i + 1) by omega] at e2
        rw [e2] at ih
        refine sw_iload_n dX3_weightsAboveZero_14 rfl ?_
        refine sw_aload_n dX3_weightsAboveZero_15 rfl ?_
        refine sw_iload_n dX3_weightsAboveZero_16 rfl ?_
        refine sw_cvi (i := 0) (c_jointCount T hi) dX3_weightsAboveZero_17 lkX3_51 (by decide) ⟨by decide, _, rfl, rfl⟩ rfl rfl rfl (Nat.le_of_ble_eq_true rfl) ?_
        refine sw_icmpN_ge (tgt := 46) dX3_weightsAboveZero_20 (by decide) (by omega) (by omega) (fun hc => ?_) (fun hc => ?_)
        · first | refine sw_iincN (b := 1) dX3_weightsAboveZero_46 rfl (by decide) rfl ?_ | refine sw_iinc dX3_weightsAboveZero_46 rfl rfl (by decide) rfl ?_
          refine sw_goto (tgt := 4) dX3_weightsAboveZero_49 (by decide) ?_
          exact ih _
        · omega
      · intro j hj ih2
        refine sw_iload_n dX3_weightsAboveZero_14 rfl ?_
        refine sw_aload_n dX3_weightsAboveZero_15 rfl ?_
        refine sw_iload_n dX3_weightsAboveZero_16 rfl ?_
        refine sw_cvi (i := 0) (c_jointCount T hi) dX3_weightsAboveZero_17 lkX3_51 (by decide) ⟨by decide, _, rfl, rfl⟩ rfl rfl rfl (Nat.le_of_ble_eq_true rfl) ?_
        refine sw_icmpN_ge (tgt := 46) dX3_weightsAboveZero_20 (by decide) (by omega) (by omega) (fun hc => ?_) (fun hc => ?_)
        · omega
        · clear hc
          refine sw_aload_n dX3_weightsAboveZero_23 rfl ?_
          refine sw_getR dX3_weightsAboveZero_24 flX3_28 ⟨by decide, _, rfl, rfl⟩ ?_
          refine sw_bipush (v := nI 8) dX3_weightsAboveZero_27 (by decide) ?_
          refine sw_iload_n dX3_weightsAboveZero_29 rfl ?_
          first | refine sw_imulN dX3_weightsAboveZero_30 ?_ | refine sw_imul dX3_weightsAboveZero_30 ?_
          refine sw_iload_n dX3_weightsAboveZero_31 rfl ?_
          first | refine sw_iaddN dX3_weightsAboveZero_32 ?_ | refine sw_iadd dX3_weightsAboveZero_32 ?_
          refine sw_iald dX3_weightsAboveZero_33 rfl (by simp only [plA]; omega) ?_
          refine sw_if_le (tgt := 40) dX3_weightsAboveZero_34 (by decide) (fun hc => ?_) (fun hc => ?_)
          · have e : fa_cnt (fun k => decide (0 < h 4 k)) (8 * i + j + 1) = fa_cnt (fun k => decide (0 < h 4 k)) (8 * i + j) := fa_cnt_no (decide_eq_false (Int32.not_lt.mpr hc))
            rw [← Nat.add_assoc, e] at ih2
            first | refine sw_iincN (b := 1) dX3_weightsAboveZero_40 rfl (by decide) rfl ?_ | refine sw_iinc dX3_weightsAboveZero_40 rfl rfl (by decide) rfl ?_
            refine sw_goto (tgt := 14) dX3_weightsAboveZero_43 (by decide) ?_
            exact ih2
          · have e : fa_cnt (fun k => decide (0 < h 4 k)) (8 * i + j + 1) = fa_cnt (fun k => decide (0 < h 4 k)) (8 * i + j) + 1 := fa_cnt_yes (decide_eq_true (Int32.not_le.mp hc))
            rw [← Nat.add_assoc, e] at ih2
            first | refine sw_iincN (b := 1) dX3_weightsAboveZero_37 rfl (by decide) rfl ?_ | refine sw_iinc dX3_weightsAboveZero_37 rfl rfl (by decide) rfl ?_
            first | refine sw_iincN (b := 1) dX3_weightsAboveZero_40 rfl (by decide) rfl ?_ | refine sw_iinc dX3_weightsAboveZero_40 rfl rfl (by decide) rfl ?_
            refine sw_goto (tgt := 14) dX3_weightsAboveZero_43 (by decide) ?_
            exact ih2
end TAB
