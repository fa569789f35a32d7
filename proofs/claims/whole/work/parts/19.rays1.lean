/-! rays: the class's -/
def ort (X Y Z : Nat → Int32) (i j : Nat) : Bool := decide (i ≠ j) && decide (X i * X j + Y i * Y j + Z i * Z j = 0)
theorem ort_symm (X Y Z : Nat → Int32) (i j : Nat) : ort X Y Z i j = ort X Y Z j i := by
  unfold ort
  rw [Int32.mul_comm (X i), Int32.mul_comm (Y i), Int32.mul_comm (Z i)]
  congr 1
  simp only [ne_eq, eq_comm]
theorem ort_self (X Y Z : Nat → Int32) (i : Nat) : ort X Y Z i i = false := by simp [ort]
/-- bits of a truth below k -/
def bm (p : Nat → Bool) : Nat → Nat
  | 0 => 0
  | k + 1 => bm p k + (if p k then 2 ^ k else 0)
theorem bm_lt (p : Nat → Bool) : ∀ k, bm p k < 2 ^ k
  | 0 => by simp [bm]
  | k + 1 => by
    have := bm_lt p k
    simp only [bm]
    rw [Nat.pow_succ]
    split <;> omega
theorem bm_cong {p q : Nat → Bool} : ∀ {k : Nat}, (∀ j, j < k → p j = q j) → bm p k = bm q k
  | 0, _ => rfl
  | k + 1, h => by simp only [bm]; rw [bm_cong (fun j hj => h j (by omega)), h k (by omega)]
theorem bm_bit (p : Nat → Bool) : ∀ {k j : Nat}, j < k → bm p k / 2 ^ j % 2 = if p j then 1 else 0
  | 0, j, h => absurd h (Nat.not_lt_zero _)
  | k + 1, j, h => by
    have hl := bm_lt p k
    simp only [bm]
    by_cases e : j = k
    · subst e
      by_cases hp : p j
      · rw [if_pos hp, if_pos hp, Nat.add_div_right _ (Nat.two_pow_pos j), Nat.div_eq_of_lt hl]
      · rw [if_neg hp, if_neg hp, Nat.add_zero, Nat.div_eq_of_lt hl]
    · have hjk : j < k := by omega
      rw [← bm_bit p hjk]
      by_cases hp : p k
      · rw [if_pos hp]
        obtain ⟨d, rfl⟩ : ∃ d, k = j + (d + 1) := ⟨k - j - 1, by omega⟩
        rw [Nat.pow_add, Nat.mul_comm (2 ^ j), Nat.add_mul_div_right _ _ (Nat.two_pow_pos j), Nat.pow_succ]
        omega
      · rw [if_neg hp, Nat.add_zero]
theorem bm_or (p : Nat → Bool) (k : Nat) (hp : p k = true) : bm p k ||| 2 ^ k = bm p (k + 1) := by
  have h := bm_lt p k
  simp only [bm, hp, if_true]
  have := Nat.two_pow_add_eq_or_of_lt h 1
  rw [Nat.mul_one] at this
  rw [Nat.or_comm, ← this, Nat.add_comm]
theorem bm_no (p : Nat → Bool) (k : Nat) (hp : p k = false) : bm p (k + 1) = bm p k := by
  simp only [bm, hp]
  rfl
theorem cut_nat : ∀ s, s < 12 → ∀ a, a < 64 → ∀ b, b < 64 → 64 * a + b < 2 ^ (s + 1) → (64 * a + b) &&& (2 ^ s ^^^ 4294967295) = (64 * a + b) % 2 ^ s := by decide +kernel
theorem cut_bit (s : Nat) (hs : s < 12) (x : Nat) (hx : x < 2 ^ (s + 1)) : nI x &&& (nI (2 ^ s) ^^^ (-1)) = nI (x % 2 ^ s) := by
  have h12 : 2 ^ (s + 1) ≤ 2 ^ 12 := Nat.pow_le_pow_right (by omega) (by omega)
  rw [show (-1 : Int32) = nI 4294967295 by decide, fb_xorI, fa_and]
  congr 1
  have := cut_nat s hs (x / 64) (by omega) (x % 64) (by omega)
  rw [Nat.div_add_mod] at this
  exact this hx
theorem bm_mod (p : Nat → Bool) (k : Nat) : bm p (k + 1) % 2 ^ k = bm p k := by
  have h := bm_lt p k
  simp only [bm]
  split
  · rw [Nat.add_mod_right, Nat.mod_eq_of_lt h]
  · rw [Nat.add_zero, Nat.mod_eq_of_lt h]
abbrev ox (h : Hp) (i j : Nat) : Bool := ort (h 14) (h 15) (h 16) i j
def RV (h : Hp) (r : Nat) : Prop := r ≤ 12 ∧ h 13 0 = nI r ∧ ∀ i, i < r → h 17 i = nI (bm (ox h i) r)
theorem pow12 {r : Nat} (h : r ≤ 12) : 2 ^ r ≤ 4096 := Nat.pow_le_pow_right (n := 2) (by omega) h
theorem RV.lt {h : Hp} {r : Nat} (V : RV h r) (i : Nat) : bm (ox h i) r < 4096 := Nat.lt_of_lt_of_le (bm_lt _ r) (pow12 V.1)
def parB (X Y Z : Nat → Int32) (x y z : Int32) (i : Nat) : Bool := decide (X i * y = Y i * x ∧ X i * z = Z i * x ∧ Y i * z = Z i * y)
section RAYS
variable {h : Hp} {r : Nat}
theorem c_hasMultipleOf (hr : r ≤ 12) (hz : h 13 0 = nI r) (x y w : Int32) : Ctr jX1_hasMultipleOf [.ref 13, .int x, .int y, .int w] h (Ret (bI (!allB (fun i => !parB (h 14) (h 15) (h 16) x y w i) r)) h) := by
  refine ctr_start (by decide) (Nat.le_of_ble_eq_true rfl) rfl rfl ?_
  show SW jX1_hasMultipleOf E0 _ 0 [some (.ref 13), some (.int x), some (.int y), some (.int w), none] [] _
  refine sw_iconst (v := nI 0) dX1_hasMultipleOf_0 (by decide) ?_
  refine sw_istore dX1_hasMultipleOf_1 (by decide) rfl ?_
  refine lp_up (n := r) (S := fun i => allB (fun i => !parB (h 14) (h 15) (h 16) x y w i) i = true → SW jX1_hasMultipleOf E0 (Zm (Ret (bI (!allB (fun i => !parB (h 14) (h 15) (h 16) x y w i) r)) h)) 3 [some (.ref 13), some (.int x), some (.int y), some (.int w), some (.int (nI i))] [] h) ?_ ?_ 0 (Nat.zero_le _) rfl
  · intro ha
    refine sw_iload dX1_hasMultipleOf_3 rfl ?_
    refine sw_aload_n dX1_hasMultipleOf_5 rfl ?_
    refine sw_getI dX1_hasMultipleOf_6 flX1_9 ⟨by decide, _, rfl, rfl⟩ ?_
    rw [hz]
    refine sw_icmpN_ge (tgt := 83) dX1_hasMultipleOf_9 (by decide) (by omega) (by omega) (fun hc => ?_) (fun hc => ?_)
    · refine sw_iconst (v := nI 0) dX1_hasMultipleOf_83 (by decide) ?_
      refine sw_zret dX1_hasMultipleOf_84 rfl rfl rfl rfl ?_
      exact ⟨by rw [ha]; rfl, rfl⟩
    · omega
  · intro i hi ih ha
    have nx : parB (h 14) (h 15) (h 16) x y w i = false → SW jX1_hasMultipleOf E0 (Zm (Ret (bI (!allB (fun i => !parB (h 14) (h 15) (h 16) x y w i) r)) h)) 77 [some (.ref 13), some (.int x), some (.int y), some (.int w), some (.int (nI i))] [] h := fun hp => by
      first | refine sw_iincN (b := 1) dX1_hasMultipleOf_77 rfl (by decide) rfl ?_ | refine sw_iinc dX1_hasMultipleOf_77 rfl rfl (by decide) rfl ?_
      refine sw_goto (tgt := 3) dX1_hasMultipleOf_80 (by decide) ?_
      exact ih (by simp only [allB, ha, Bool.true_and, hp]; rfl)
    refine sw_iload dX1_hasMultipleOf_3 rfl ?_
    refine sw_aload_n dX1_hasMultipleOf_5 rfl ?_
    refine sw_getI dX1_hasMultipleOf_6 flX1_9 ⟨by decide, _, rfl, rfl⟩ ?_
    rw [hz]
    refine sw_icmpN_ge (tgt := 83) dX1_hasMultipleOf_9 (by decide) (by omega) (by omega) (fun hc => ?_) (fun hc => ?_)
    · omega
    · clear hc
      refine sw_aload_n dX1_hasMultipleOf_12 rfl ?_
      refine sw_getR dX1_hasMultipleOf_13 flX1_15 ⟨by decide, _, rfl, rfl⟩ ?_
      refine sw_iload dX1_hasMultipleOf_16 rfl ?_
      refine sw_iald dX1_hasMultipleOf_18 rfl (by simp only [plA]; omega) ?_
      refine sw_iload_n dX1_hasMultipleOf_19 rfl ?_
      refine sw_imul dX1_hasMultipleOf_20 ?_
      refine sw_aload_n dX1_hasMultipleOf_21 rfl ?_
      refine sw_getR dX1_hasMultipleOf_22 flX1_19 ⟨by decide, _, rfl, rfl⟩ ?_
      refine sw_iload dX1_hasMultipleOf_25 rfl ?_
      refine sw_iald dX1_hasMultipleOf_27 rfl (by simp only [plA]; omega) ?_
      refine sw_iload_n dX1_hasMultipleOf_28 rfl ?_
      refine sw_imul dX1_hasMultipleOf_29 ?_
      refine sw_icmp_ne (tgt := 77) dX1_hasMultipleOf_30 (by decide) (fun hc => ?_) (fun hc => ?_)
      · exact nx (decide_eq_false (fun q => hc q.1))
      · have h1 := hc
        clear hc
        refine sw_aload_n dX1_hasMultipleOf_33 rfl ?_
        refine sw_getR dX1_hasMultipleOf_34 flX1_15 ⟨by decide, _, rfl, rfl⟩ ?_
        refine sw_iload dX1_hasMultipleOf_37 rfl ?_
        refine sw_iald dX1_hasMultipleOf_39 rfl (by simp only [plA]; omega) ?_
        refine sw_iload_n dX1_hasMultipleOf_40 rfl ?_
        refine sw_imul dX1_hasMultipleOf_41 ?_
        refine sw_aload_n dX1_hasMultipleOf_42 rfl ?_
        refine sw_getR dX1_hasMultipleOf_43 flX1_22 ⟨by decide, _, rfl, rfl⟩ ?_
        refine sw_iload dX1_hasMultipleOf_46 rfl ?_
        refine sw_iald dX1_hasMultipleOf_48 rfl (by simp only [plA]; omega) ?_
        refine sw_iload_n dX1_hasMultipleOf_49 rfl ?_
        refine sw_imul dX1_hasMultipleOf_50 ?_
        refine sw_icmp_ne (tgt := 77) dX1_hasMultipleOf_51 (by decide) (fun hc => ?_) (fun hc => ?_)
        · exact nx (decide_eq_false (fun q => hc q.2.1))
        · have h2 := hc
          clear hc
          refine sw_aload_n dX1_hasMultipleOf_54 rfl ?_
          refine sw_getR dX1_hasMultipleOf_55 flX1_19 ⟨by decide, _, rfl, rfl⟩ ?_
          refine sw_iload dX1_hasMultipleOf_58 rfl ?_
          refine sw_iald dX1_hasMultipleOf_60 rfl (by simp only [plA]; omega) ?_
          refine sw_iload_n dX1_hasMultipleOf_61 rfl ?_
          refine sw_imul dX1_hasMultipleOf_62 ?_
          refine sw_aload_n dX1_hasMultipleOf_63 rfl ?_
          refine sw_getR dX1_hasMultipleOf_64 flX1_22 ⟨by decide, _, rfl, rfl⟩ ?_
          refine sw_iload dX1_hasMultipleOf_67 rfl ?_
          refine sw_iald dX1_hasMultipleOf_69 rfl (by simp only [plA]; omega) ?_
          refine sw_iload_n dX1_hasMultipleOf_70 rfl ?_
          refine sw_imul dX1_hasMultipleOf_71 ?_
          refine sw_icmp_ne (tgt := 77) dX1_hasMultipleOf_72 (by decide) (fun hc => ?_) (fun hc => ?_)
          · exact nx (decide_eq_false (fun q => hc q.2.2))
          · have hp : parB (h 14) (h 15) (h 16) x y w i = true := decide_eq_true ⟨h1, h2, hc⟩
            refine sw_iconst (v := nI 1) dX1_hasMultipleOf_75 (by decide) ?_
            refine sw_zret dX1_hasMultipleOf_76 rfl rfl rfl rfl ?_
            exact ⟨by rw [allB_f hi (by rw [hp]; rfl)]; rfl, rfl⟩
/-- what add leaves -/
theorem c_add1 (V : RV h r) (hr : r < 12) (x y w : Int32) : Ctr jX1_add [.ref 13, .int x, .int y, .int w] h (fun v g => v = some (.int (nI r)) ∧ (∀ k, k ≠ 13 → k ≠ 14 → k ≠ 15 → k ≠ 16 → k ≠ 17 → g k = h k) ∧ g 14 = upd (h 14) r x ∧ g 15 = upd (h 15) r y ∧ g 16 = upd (h 16) r w ∧ RV g (r + 1) ∧ g 13 6 = nI 0) := by
  obtain ⟨hr12, hz, hs⟩ := V
  refine ctr_start (by decide) (Nat.le_of_ble_eq_true rfl) rfl rfl ?_
  show SW jX1_add E0 _ 0 [some (.ref 13), some (.int x), some (.int y), some (.int w), none, none] [] _
  refine sw_aload_n dX1_add_0 rfl ?_
  refine sw_getI dX1_add_1 flX1_9 ⟨by decide, _, rfl, rfl⟩ ?_
  rw [hz]
  refine sw_istore dX1_add_4 (by decide) rfl ?_
  refine sw_aload_n dX1_add_6 rfl ?_
  refine sw_getR dX1_add_7 flX1_15 ⟨by decide, _, rfl, rfl⟩ ?_
  refine sw_iload dX1_add_10 rfl ?_
  refine sw_iload_n dX1_add_12 rfl ?_
  refine sw_iast dX1_add_13 rfl (by simp only [plA]; omega) ?_
  refine sw_aload_n dX1_add_14 rfl ?_
  refine sw_getR dX1_add_15 flX1_19 ⟨by decide, _, rfl, rfl⟩ ?_
  refine sw_iload dX1_add_18 rfl ?_
  refine sw_iload_n dX1_add_20 rfl ?_
  refine sw_iast dX1_add_21 rfl (by simp only [plA]; omega) ?_
  refine sw_aload_n dX1_add_22 rfl ?_
  refine sw_getR dX1_add_23 flX1_22 ⟨by decide, _, rfl, rfl⟩ ?_
  refine sw_iload dX1_add_26 rfl ?_
  refine sw_iload_n dX1_add_28 rfl ?_
  refine sw_iast dX1_add_29 rfl (by simp only [plA]; omega) ?_
  refine sw_aload_n dX1_add_30 rfl ?_
  refine sw_getR dX1_add_31 flX1_25 ⟨by decide, _, rfl, rfl⟩ ?_
  refine sw_iload dX1_add_34 rfl ?_
  refine sw_iconst (v := nI 0) dX1_add_36 (by decide) ?_
  refine sw_iast dX1_add_37 rfl (by simp only [plA]; omega) ?_
  refine sw_iconst (v := nI 0) dX1_add_38 (by decide) ?_
  refine sw_istore dX1_add_39 (by decide) rfl ?_
  generalize hge : hset (hset (hset (hset h 14 r x) 15 r y) 16 r w) 17 r (nI 0) = g0
  have e0 : ∀ k, k ≠ 14 → k ≠ 15 → k ≠ 16 → k ≠ 17 → g0 k = h k := fun k k1 k2 k3 k4 => by rw [← hge, hset_off k k4, hset_off k k3, hset_off k k2, hset_off k k1]
  have e14 : g0 14 = upd (h 14) r x := by rw [← hge, hset_off 14 (by decide), hset_off 14 (by decide), hset_off 14 (by decide), hset_same]
  have e15 : g0 15 = upd (h 15) r y := by rw [← hge, hset_off 15 (by decide), hset_off 15 (by decide), hset_same, hset_off 15 (by decide)]
  have e16 : g0 16 = upd (h 16) r w := by rw [← hge, hset_off 16 (by decide), hset_same, hset_off 16 (by decide), hset_off 16 (by decide)]
  have e17 : g0 17 = upd (h 17) r (nI 0) := by rw [← hge, hset_same, hset_off 17 (by decide), hset_off 17 (by decide), hset_off 17 (by decide)]
  have hold : ∀ i j, i < r → j < r → ox g0 i j = ox h i j := fun i j hi hj => by
    unfold ox ort
    rw [e14, e15, e16, pk_un (show i ≠ r by omega), pk_un (show j ≠ r by omega), pk_un (show i ≠ r by omega), pk_un (show j ≠ r by omega), pk_un (show i ≠ r by omega), pk_un (show j ≠ r by omega)]
  have key := lp_up (n := r) (S := fun i => ∀ g, Sam 17 g0 g → (∀ j, j < i → g 17 j = nI (bm (ox g0 j) (r + 1))) → (∀ j, i ≤ j → j < r → g 17 j = nI (bm (ox g0 j) r)) → g 17 r = nI (bm (ox g0 r) i) → SW jX1_add E0 (Zm (fun v g => v = some (.int (nI r)) ∧ (∀ k, k ≠ 13 → k ≠ 14 → k ≠ 15 → k ≠ 16 → k ≠ 17 → g k = h k) ∧ g 14 = upd (h 14) r x ∧ g 15 = upd (h 15) r y ∧ g 16 = upd (h 16) r w ∧ RV g (r + 1) ∧ g 13 6 = nI 0)) 41 [some (.ref 13), some (.int x), some (.int y), some (.int w), some (.int (nI r)), some (.int (nI i))] [] g) ?_ ?_ 0 (Nat.zero_le _) g0 Sam.rf (fun j hj => absurd hj (Nat.not_lt_zero _)) (fun j _ hj => by rw [e17, pk_un (by omega), hs j hj]; congr 1; exact bm_cong (fun i hi => (hold j i hj hi).symm)) (by rw [e17, pk_us]; rfl)
  · exact key
  · intro g hS h1 h2 h3
    refine sw_iload dX1_add_41 rfl ?_
    refine sw_iload dX1_add_43 rfl ?_
    refine sw_icmpN_ge (tgt := 114) dX1_add_45 (by decide) (by omega) (by omega) (fun hc => ?_) (fun hc => ?_)
    · refine sw_aload_n dX1_add_114 rfl ?_
      refine sw_dup dX1_add_115 rfl ?_
      refine sw_getI dX1_add_116 flX1_9 ⟨by decide, _, rfl, rfl⟩ ?_
      refine sw_iconst (v := nI 1) dX1_add_119 (by decide) ?_
      rw [show g 13 0 = nI r by rw [hS 13 (by decide), e0 13 (by decide) (by decide) (by decide) (by decide)]; exact hz]
      first | refine sw_iaddN dX1_add_120 ?_ | refine sw_iadd dX1_add_120 ?_
      refine sw_put dX1_add_121 fpX1_9 ⟨by decide, _, rfl, rfl⟩ rfl rfl ?_
      refine sw_aload_n dX1_add_124 rfl ?_
      refine sw_iconst (v := nI 0) dX1_add_125 (by decide) ?_
      refine sw_put dX1_add_126 fpX1_31 ⟨by decide, _, rfl, rfl⟩ rfl rfl ?_
      refine sw_iload dX1_add_129 rfl ?_
      refine sw_iret dX1_add_131 rfl rfl rfl ?_
      have off : ∀ k, k ≠ 13 → hset (hset g 13 0 (nI (r + 1))) 13 6 (nI 0) k = g k := fun k hk => by rw [hset_off k hk, hset_off k hk]
      refine ⟨rfl, fun k k1 k2 k3 k4 k5 => ?_, ?_, ?_, ?_, ⟨by omega, ?_, fun i hi => ?_⟩, hset_at⟩
      · rw [off k k1, hS k k5, e0 k k2 k3 k4 k5]
      · rw [off 14 (by decide), hS 14 (by decide), e14]
      · rw [off 15 (by decide), hS 15 (by decide), e15]
      · rw [off 16 (by decide), hS 16 (by decide), e16]
      · rw [hset_i (by decide), hset_at]
      · have eo : ox (hset (hset g 13 0 (nI (r + 1))) 13 6 (nI 0)) i = ox g0 i := by
          funext j
          unfold ox
          rw [off 14 (by decide), off 15 (by decide), off 16 (by decide), hS 14 (by decide), hS 15 (by decide), hS 16 (by decide)]
        rw [off 17 (by decide), eo]
        by_cases q : i = r
        · subst q
          rw [h3, bm_no _ _ (ort_self _ _ _ _)]
        · exact h1 i (by omega)
    · omega
  · intro i hi ih g hS h1 h2 h3
    have f14 : g 14 = upd (h 14) r x := by rw [hS 14 (by decide), e14]
    have f15 : g 15 = upd (h 15) r y := by rw [hS 15 (by decide), e15]
    have f16 : g 16 = upd (h 16) r w := by rw [hS 16 (by decide), e16]
    have eor : ox g0 r i = decide (g 14 i * x + g 15 i * y + g 16 i * w = 0) := by
      rw [show ox g0 r i = ox g0 i r from ort_symm _ _ _ _ _]
      unfold ox ort
      rw [f14, f15, f16, e14, e15, e16, pk_us, pk_us, pk_us, decide_eq_true (show i ≠ r by omega), Bool.true_and]
    have h12 : ∀ j, bm (ox g0 j) r < 4096 := fun j => Nat.lt_of_lt_of_le (bm_lt _ r) (pow12 (by omega))
    refine sw_iload dX1_add_41 rfl ?_
    refine sw_iload dX1_add_43 rfl ?_
    refine sw_icmpN_ge (tgt := 114) dX1_add_45 (by decide) (by omega) (by omega) (fun hc => ?_) (fun hc => ?_)
    · omega
    · clear hc
      refine sw_aload_n dX1_add_48 rfl ?_
      refine sw_getR dX1_add_49 flX1_15 ⟨by decide, _, rfl, rfl⟩ ?_
      refine sw_iload dX1_add_52 rfl ?_
      refine sw_iald dX1_add_54 rfl (by simp only [plA]; omega) ?_
      refine sw_iload_n dX1_add_55 rfl ?_
      refine sw_imul dX1_add_56 ?_
      refine sw_aload_n dX1_add_57 rfl ?_
      refine sw_getR dX1_add_58 flX1_19 ⟨by decide, _, rfl, rfl⟩ ?_
      refine sw_iload dX1_add_61 rfl ?_
      refine sw_iald dX1_add_63 rfl (by simp only [plA]; omega) ?_
      refine sw_iload_n dX1_add_64 rfl ?_
      refine sw_imul dX1_add_65 ?_
      refine sw_iadd dX1_add_66 ?_
      refine sw_aload_n dX1_add_67 rfl ?_
      refine sw_getR dX1_add_68 flX1_22 ⟨by decide, _, rfl, rfl⟩ ?_
      refine sw_iload dX1_add_71 rfl ?_
      refine sw_iald dX1_add_73 rfl (by simp only [plA]; omega) ?_
      refine sw_iload_n dX1_add_74 rfl ?_
      refine sw_imul dX1_add_75 ?_
      refine sw_iadd dX1_add_76 ?_
      refine sw_if_ne (tgt := 108) dX1_add_77 (by decide) (fun hc => ?_) (fun hc => ?_)
      · have hno : ox g0 r i = false := by rw [eor]; exact decide_eq_false hc
        have hno2 : ox g0 i r = false := by rw [← hno]; exact ort_symm _ _ _ _ _
        first | refine sw_iincN (b := 1) dX1_add_108 rfl (by decide) rfl ?_ | refine sw_iinc dX1_add_108 rfl rfl (by decide) rfl ?_
        refine sw_goto (tgt := 41) dX1_add_111 (by decide) ?_
        refine ih g hS (fun j hj => ?_) (fun j hj1 hj2 => h2 j (by omega) hj2) (by rw [h3, bm_no _ _ hno])
        by_cases q : j = i
        · subst q
          rw [bm_no _ _ hno2]
          exact h2 j (by omega) hi
        · exact h1 j (by omega)
      · have hyes : ox g0 r i = true := by rw [eor]; exact decide_eq_true hc
        have hyes2 : ox g0 i r = true := by rw [← hyes]; exact ort_symm _ _ _ _ _
        clear hc
        have p1 : 1 * 2 ^ i < 2 ^ 32 := by
          have := pow12 (show i ≤ 12 by omega)
          omega
        have p2 : 1 * 2 ^ r < 2 ^ 32 := by
          have := pow12 (show r ≤ 12 by omega)
          omega
        refine sw_aload_n dX1_add_80 rfl ?_
        refine sw_getR dX1_add_81 flX1_25 ⟨by decide, _, rfl, rfl⟩ ?_
        refine sw_iload dX1_add_84 rfl ?_
        refine sw_dup2 dX1_add_86 rfl rfl ?_
        refine sw_iald dX1_add_87 rfl (by simp only [plA]; omega) ?_
        rw [h3]
        refine sw_iconst (v := nI 1) dX1_add_88 (by decide) ?_
        refine sw_iload dX1_add_89 rfl ?_
        first | refine sw_ishlN dX1_add_91 (by omega) p1 ?_ | refine sw_ishl dX1_add_91 ?_
        refine sw_iorN dX1_add_92 ?_
        rw [Nat.one_mul, bm_or _ _ hyes]
        refine sw_iast dX1_add_93 rfl (by simp only [plA]; omega) ?_
        refine sw_aload_n dX1_add_94 rfl ?_
        refine sw_getR dX1_add_95 flX1_25 ⟨by decide, _, rfl, rfl⟩ ?_
        refine sw_iload dX1_add_98 rfl ?_
        refine sw_dup2 dX1_add_100 rfl rfl ?_
        refine sw_iald dX1_add_101 rfl (by simp only [plA]; omega) ?_
        rw [show hset g 17 r (nI (bm (ox g0 r) (i + 1))) 17 i = nI (bm (ox g0 i) r) by rw [hset_i (by omega)]; exact h2 i (by omega) hi]
        refine sw_iconst (v := nI 1) dX1_add_102 (by decide) ?_
        refine sw_iload dX1_add_103 rfl ?_
        first | refine sw_ishlN dX1_add_105 (by omega) p2 ?_ | refine sw_ishl dX1_add_105 ?_
        refine sw_iorN dX1_add_106 ?_
        rw [Nat.one_mul, bm_or _ _ hyes2]
        refine sw_iast dX1_add_107 rfl (by simp only [plA]; omega) ?_
        first | refine sw_iincN (b := 1) dX1_add_108 rfl (by decide) rfl ?_ | refine sw_iinc dX1_add_108 rfl rfl (by decide) rfl ?_
        refine sw_goto (tgt := 41) dX1_add_111 (by decide) ?_
        refine ih _ hS.set.set (fun j hj => ?_) (fun j hj1 hj2 => ?_) ?_
        · by_cases q : j = i
          · rw [q, hset_at]
          · rw [hset_i q, hset_i (by omega)]
            exact h1 j (by omega)
        · rw [hset_i (by omega), hset_i (by omega)]
          exact h2 j (by omega) hj2
        · rw [hset_i (by omega), hset_at]
theorem c_removeLatest1 (V : RV h (r + 1)) : Ctr jX1_removeLatest [.ref 13] h (fun v g => v = some (.int (nI r)) ∧ (∀ k, k ≠ 13 → k ≠ 17 → g k = h k) ∧ RV g r ∧ g 13 6 = nI 0) := by
  obtain ⟨hr12, hz, hs⟩ := V
  refine ctr_start (by decide) (Nat.le_of_ble_eq_true rfl) rfl rfl ?_
  show SW jX1_removeLatest E0 _ 0 [some (.ref 13), none] [] _
  refine sw_aload_n dX1_removeLatest_0 rfl ?_
  refine sw_dup dX1_removeLatest_1 rfl ?_
  refine sw_getI dX1_removeLatest_2 flX1_9 ⟨by decide, _, rfl, rfl⟩ ?_
  refine sw_iconst (v := nI 1) dX1_removeLatest_5 (by decide) ?_
  rw [hz]
  first | refine sw_isubN dX1_removeLatest_6 (by omega) ?_ | refine sw_isub dX1_removeLatest_6 ?_
  rw [show r + 1 - 1 = r by omega]
  refine sw_put dX1_removeLatest_7 fpX1_9 ⟨by decide, _, rfl, rfl⟩ rfl rfl ?_
  refine sw_iconst (v := nI 0) dX1_removeLatest_10 (by decide) ?_
  refine sw_istore_n dX1_removeLatest_11 (by decide) rfl ?_
  generalize hge : hset h 13 0 (nI r) = g0
  have e0 : ∀ k, k ≠ 13 → g0 k = h k := fun k hk => by rw [← hge, hset_off k hk]
  have ez : g0 13 0 = nI r := by rw [← hge, hset_at]
  have hox : ∀ i, ox g0 i = ox h i := fun i => by
    funext j
    unfold ox
    rw [e0 14 (by decide), e0 15 (by decide), e0 16 (by decide)]
  have key := lp_up (n := r) (S := fun i => ∀ g, Sam 17 g0 g → (∀ j, j < i → g 17 j = nI (bm (ox h j) r)) → (∀ j, i ≤ j → j < r + 1 → g 17 j = nI (bm (ox h j) (r + 1))) → SW jX1_removeLatest E0 (Zm (fun v g => v = some (.int (nI r)) ∧ (∀ k, k ≠ 13 → k ≠ 17 → g k = h k) ∧ RV g r ∧ g 13 6 = nI 0)) 12 [some (.ref 13), some (.int (nI i))] [] g) ?_ ?_ 0 (Nat.zero_le _) g0 Sam.rf (fun j hj => absurd hj (Nat.not_lt_zero _)) (fun j _ hj => by rw [e0 17 (by decide)]; exact hs j hj)
  · exact key
  · intro g hS h1 h2
    have gz : g 13 0 = nI r := by rw [hS 13 (by decide)]; exact ez
    refine sw_iload_n dX1_removeLatest_12 rfl ?_
    refine sw_aload_n dX1_removeLatest_13 rfl ?_
    refine sw_getI dX1_removeLatest_14 flX1_9 ⟨by decide, _, rfl, rfl⟩ ?_
    rw [gz]
    refine sw_icmpN_ge (tgt := 43) dX1_removeLatest_17 (by decide) (by omega) (by omega) (fun hc => ?_) (fun hc => ?_)
    · refine sw_aload_n dX1_removeLatest_43 rfl ?_
      refine sw_iconst (v := nI 0) dX1_removeLatest_44 (by decide) ?_
      refine sw_put dX1_removeLatest_45 fpX1_31 ⟨by decide, _, rfl, rfl⟩ rfl rfl ?_
      refine sw_aload_n dX1_removeLatest_48 rfl ?_
      refine sw_getI dX1_removeLatest_49 flX1_9 ⟨by decide, _, rfl, rfl⟩ ?_
      rw [show hset g 13 6 (nI 0) 13 0 = nI r by rw [hset_i (by decide)]; exact gz]
      refine sw_iret dX1_removeLatest_52 rfl rfl rfl ?_
      refine ⟨rfl, fun k k1 k2 => ?_, ⟨by omega, by rw [hset_i (by decide)]; exact gz, fun i hi => ?_⟩, hset_at⟩
      · rw [hset_off k k1, hS k k2, e0 k k1]
      · have eo : ox (hset g 13 6 (nI 0)) i = ox h i := by
          rw [← hox i]
          funext j
          unfold ox
          rw [hset_off 14 (by decide), hset_off 15 (by decide), hset_off 16 (by decide), hS 14 (by decide), hS 15 (by decide), hS 16 (by decide)]
        rw [eo, hset_k (by decide)]
        exact h1 i hi
    · omega
  · intro i hi ih g hS h1 h2
    have gz : g 13 0 = nI r := by rw [hS 13 (by decide)]; exact ez
    have p2 : 1 * 2 ^ r < 2 ^ 32 := by
      have := pow12 (show r ≤ 12 by omega)
      omega
    refine sw_iload_n dX1_removeLatest_12 rfl ?_
    refine sw_aload_n dX1_removeLatest_13 rfl ?_
    refine sw_getI dX1_removeLatest_14 flX1_9 ⟨by decide, _, rfl, rfl⟩ ?_
    rw [gz]
    refine sw_icmpN_ge (tgt := 43) dX1_removeLatest_17 (by decide) (by omega) (by omega) (fun hc => ?_) (fun hc => ?_)
    · omega
    · clear hc
      refine sw_aload_n dX1_removeLatest_20 rfl ?_
      refine sw_getR dX1_removeLatest_21 flX1_25 ⟨by decide, _, rfl, rfl⟩ ?_
      refine sw_iload_n dX1_removeLatest_24 rfl ?_
      refine sw_dup2 dX1_removeLatest_25 rfl rfl ?_
      refine sw_iald dX1_removeLatest_26 rfl (by simp only [plA]; omega) ?_
      rw [h2 i (by omega) (by omega)]
      refine sw_iconst (v := nI 1) dX1_removeLatest_27 (by decide) ?_
      refine sw_aload_n dX1_removeLatest_28 rfl ?_
      refine sw_getI dX1_removeLatest_29 flX1_9 ⟨by decide, _, rfl, rfl⟩ ?_
      rw [gz]
      first | refine sw_ishlN dX1_removeLatest_32 (by omega) p2 ?_ | refine sw_ishl dX1_removeLatest_32 ?_
      rw [Nat.one_mul]
      refine sw_iconst (v := (-1)) dX1_removeLatest_33 (by decide) ?_
      refine sw_ixor dX1_removeLatest_34 ?_
      refine sw_iand dX1_removeLatest_35 ?_
      rw [cut_bit r (by omega) _ (bm_lt _ _), bm_mod]
      refine sw_iast dX1_removeLatest_36 rfl (by simp only [plA]; omega) ?_
      first | refine sw_iincN (b := 1) dX1_removeLatest_37 rfl (by decide) rfl ?_ | refine sw_iinc dX1_removeLatest_37 rfl rfl (by decide) rfl ?_
      refine sw_goto (tgt := 12) dX1_removeLatest_40 (by decide) ?_
      refine ih _ hS.set (fun j hj => ?_) (fun j hj1 hj2 => ?_)
      · by_cases q : j = i
        · rw [q, hset_at]
        · rw [hset_i q]
          exact h1 j (by omega)
      · rw [hset_i (by omega)]
        exact h2 j (by omega) hj2
end RAYS
