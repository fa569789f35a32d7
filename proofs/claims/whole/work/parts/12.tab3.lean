/-- a row filled below i -/
def hfl (h : Hp) (q : Nat) (v : Int32) (i : Nat) : Hp := fun k => if k = q then (fun j => if j < i then v else h q j) else h k
theorem hfl_0 (h : Hp) (q : Nat) (v : Int32) : hfl h q v 0 = h := by
  funext k
  by_cases hk : k = q
  · subst hk; funext j; simp [hfl]
  · simp [hfl, hk]
theorem hfl_s (h : Hp) (q : Nat) (v : Int32) (i : Nat) : hset (hfl h q v i) q i v = hfl h q v (i + 1) := by
  funext k
  by_cases hk : k = q
  · subst hk
    funext j
    rw [hset_eq]
    by_cases hj : j = i
    · subst hj; simp [hfl]
    · by_cases h1 : j < i
      · simp [hfl, hj, h1, show j < i + 1 by omega]
      · simp [hfl, hj, h1, show ¬ j < i + 1 by omega]
  · rw [hset_off k hk]
    simp [hfl, hk]
theorem hfl_off {h : Hp} {q : Nat} {v : Int32} {i k : Nat} (hk : k ≠ q) : hfl h q v i k = h k := by simp [hfl, hk]
theorem hfl_in {h : Hp} {q : Nat} {v : Int32} {i j : Nat} (hj : j < i) : hfl h q v i q j = v := by simp [hfl, hj]
theorem c_fill {h : Hp} {q : Nat} (hq : isI q = true) (v : Int32) : Ctr jJ7_fill_53178 [.ref q, .int v] h (RetV (hfl h q v (plA q))) := by
  have hA := plA_le q
  refine ctr_start (by decide) (Nat.le_of_ble_eq_true rfl) rfl rfl ?_
  show SW jJ7_fill_53178 E0 _ 0 [some (.ref q), some (.int v), none, none] [] _
  refine sw_iconst (v := nI 0) dJ7_fill_53178_0 (by decide) ?_
  refine sw_istore_n dJ7_fill_53178_1 (by decide) rfl ?_
  refine sw_aload_n dJ7_fill_53178_2 rfl ?_
  refine sw_alen dJ7_fill_53178_3 hq rfl ?_
  refine sw_istore_n dJ7_fill_53178_4 (by decide) rfl ?_
  have key := lp_up (n := plA q) (S := fun i => SW jJ7_fill_53178 E0 (Zm (RetV (hfl h q v (plA q)))) 5 [some (.ref q), some (.int v), some (.int (nI i)), some (.int (nI (plA q)))] [] (hfl h q v i)) ?_ ?_ 0 (by omega)
  · rw [hfl_0] at key
    exact key
  · refine sw_iload_n dJ7_fill_53178_5 rfl ?_
    refine sw_iload_n dJ7_fill_53178_6 rfl ?_
    refine sw_icmpN_ge (tgt := 20) dJ7_fill_53178_7 (by decide) (by omega) (by omega) (fun hc => ?_) (fun hc => ?_)
    · refine sw_vret dJ7_fill_53178_20 rfl rfl rfl ?_
      exact ⟨rfl, rfl⟩
    · omega
  · intro i hi ih
    refine sw_iload_n dJ7_fill_53178_5 rfl ?_
    refine sw_iload_n dJ7_fill_53178_6 rfl ?_
    refine sw_icmpN_ge (tgt := 20) dJ7_fill_53178_7 (by decide) (by omega) (by omega) (fun hc => ?_) (fun hc => ?_)
    · omega
    · refine sw_aload_n dJ7_fill_53178_10 rfl ?_
      refine sw_iload_n dJ7_fill_53178_11 rfl ?_
      refine sw_iload_n dJ7_fill_53178_12 rfl ?_
      refine sw_iast dJ7_fill_53178_13 hq hi ?_
      rw [hfl_s]
      first | refine sw_iincN (b := 1) dJ7_fill_53178_14 rfl (by decide) rfl ?_ | refine sw_iinc dJ7_fill_53178_14 rfl rfl (by decide) rfl ?_
      refine sw_goto (tgt := 5) dJ7_fill_53178_17 (by decide) ?_
      exact ih
/-- the best of 0 to k -/
def bst (f : Nat → Int32) : Nat → Nat
  | 0 => 0
  | k + 1 => if f (bst f k) < f (k + 1) then k + 1 else bst f k
theorem bst_le (f : Nat → Int32) : ∀ k, bst f k ≤ k
  | 0 => Nat.le_refl _
  | k + 1 => by
    have := bst_le f k
    simp only [bst]
    split <;> omega
theorem bst_cong {f g : Nat → Int32} : ∀ {k : Nat}, (∀ i, i ≤ k → f i = g i) → bst f k = bst g k
  | 0, _ => rfl
  | k + 1, hq => by
    have ih := bst_cong (f := f) (g := g) (k := k) (fun i hi => hq i (by omega))
    have hb := bst_le g k
    simp only [bst]
    rw [ih, hq _ (show bst g k ≤ k + 1 by omega), hq (k + 1) (by omega)]
section TAB
variable {h : Hp} {n z : Nat} {sm : Nat → Nat}
abbrev stX (h : Hp) (z : Nat) (sm : Nat → Nat) (x : Nat) : Int32 := sI (fun c => h 5 (8 * c + jnt (sm c) x)) z
theorem c_bestHidden (T : TX h n z sm) : Ctr jX3_bestHidden [.ref 1] h (Ret (nI (bst (stX h z sm) (2 ^ n - 1))) h) := by
  have h64 := pow6 T.1.1
  have hpos : 0 < 2 ^ n := Nat.two_pow_pos n
  refine ctr_start (by decide) (Nat.le_of_ble_eq_true rfl) rfl rfl ?_
  show SW jX3_bestHidden E0 _ 0 [some (.ref 1), none, none, none, none] [] _
  refine sw_iconst (v := nI 0) dX3_bestHidden_0 (by decide) ?_
  refine sw_istore_n dX3_bestHidden_1 (by decide) rfl ?_
  refine sw_aload_n dX3_bestHidden_2 rfl ?_
  refine sw_iconst (v := nI 0) dX3_bestHidden_3 (by decide) ?_
  refine sw_cvi (i := 0) (c_stakeSum T hpos) dX3_bestHidden_4 lkX3_88 (by decide) ⟨by decide, _, rfl, rfl⟩ rfl rfl rfl (Nat.le_of_ble_eq_true rfl) ?_
  refine sw_istore_n dX3_bestHidden_7 (by decide) rfl ?_
  refine sw_iconst (v := nI 1) dX3_bestHidden_8 (by decide) ?_
  refine sw_istore_n dX3_bestHidden_9 (by decide) rfl ?_
  have key := lp_up (n := 2 ^ n - 1) (S := fun i => ∀ v4, SW jX3_bestHidden E0 (Zm (Ret (nI (bst (stX h z sm) (2 ^ n - 1))) h)) 10 [some (.ref 1), some (.int (nI (bst (stX h z sm) i))), some (.int (stX h z sm (bst (stX h z sm) i))), some (.int (nI (i + 1))), v4] [] h) ?_ ?_ 0 (Nat.zero_le _)
  · exact key none
  · intro v4
    refine sw_iload_n dX3_bestHidden_10 rfl ?_
    refine sw_aload_n dX3_bestHidden_11 rfl ?_
    refine sw_cvi (i := 0) (c_hiddenCount T.1.2.2.1 T.1.1) dX3_bestHidden_12 lkX3_60 (by decide) ⟨by decide, _, rfl, rfl⟩ rfl rfl rfl (Nat.le_of_ble_eq_true rfl) ?_
    refine sw_icmpN_ge (tgt := 42) dX3_bestHidden_15 (by decide) (by omega) (by omega) (fun hc => ?_) (fun hc => ?_)
    · refine sw_iload_n dX3_bestHidden_42 rfl ?_
      refine sw_iret dX3_bestHidden_43 rfl rfl rfl ?_
      exact ⟨rfl, rfl⟩
    · omega
  · intro i hi ih v4
    refine sw_iload_n dX3_bestHidden_10 rfl ?_
    refine sw_aload_n dX3_bestHidden_11 rfl ?_
    refine sw_cvi (i := 0) (c_hiddenCount T.1.2.2.1 T.1.1) dX3_bestHidden_12 lkX3_60 (by decide) ⟨by decide, _, rfl, rfl⟩ rfl rfl rfl (Nat.le_of_ble_eq_true rfl) ?_
    refine sw_icmpN_ge (tgt := 42) dX3_bestHidden_15 (by decide) (by omega) (by omega) (fun hc => ?_) (fun hc => ?_)
    · omega
    · refine sw_aload_n dX3_bestHidden_18 rfl ?_
      refine sw_iload_n dX3_bestHidden_19 rfl ?_
      refine sw_cvi (i := 0) (c_stakeSum T (x := i + 1) (by omega)) dX3_bestHidden_20 lkX3_88 (by decide) ⟨by decide, _, rfl, rfl⟩ rfl rfl rfl (Nat.le_of_ble_eq_true rfl) ?_
      have hk : okS [some (.ref 1), some (.int (nI (bst (stX h z sm) i))), some (.int (stX h z sm (bst (stX h z sm) i))), some (.int (nI (i + 1))), v4] 4 = true := rfl
      refine sw_istore dX3_bestHidden_23 (by decide) rfl ?_
      refine sw_iload dX3_bestHidden_25 rfl ?_
      refine sw_iload_n dX3_bestHidden_27 rfl ?_
      clear hc
      refine sw_icmp_le (tgt := 36) dX3_bestHidden_28 (by decide) (fun hc => ?_) (fun hc => ?_)
      · have e : bst (stX h z sm) (i + 1) = bst (stX h z sm) i := by
          simp only [bst]
          rw [if_neg (Int32.not_lt.mpr hc)]
        rw [e] at ih
        first | refine sw_iincN (b := 1) dX3_bestHidden_36 rfl (by decide) rfl ?_ | refine sw_iinc dX3_bestHidden_36 rfl rfl (by decide) rfl ?_
        refine sw_goto (tgt := 10) dX3_bestHidden_39 (by decide) ?_
        exact ih _
      · have e : bst (stX h z sm) (i + 1) = i + 1 := by
          simp only [bst]
          rw [if_pos (Int32.not_le.mp hc)]
        rw [e] at ih
        refine sw_iload_n dX3_bestHidden_31 rfl ?_
        refine sw_istore_n dX3_bestHidden_32 (by decide) rfl ?_
        refine sw_iload dX3_bestHidden_33 rfl ?_
        refine sw_istore_n dX3_bestHidden_35 (by decide) rfl ?_
        first | refine sw_iincN (b := 1) dX3_bestHidden_36 rfl (by decide) rfl ?_ | refine sw_iinc dX3_bestHidden_36 rfl rfl (by decide) rfl ?_
        refine sw_goto (tgt := 10) dX3_bestHidden_39 (by decide) ?_
        exact ih _
def ffB (h : Hp) (z : Nat) (sm : Nat → Nat) (x : Nat) : Bool := allB (fun c => decide (h 3 c = -4 ∨ nI (pop (x &&& sm c) % 2) = h 3 c)) z
theorem c_isFulfilledBy (T : TX h n z sm) {x : Nat} (hx : x < 2 ^ n) : Ctr jX3_isFulfilledBy [.ref 1, .int (nI x)] h (Ret (bI (ffB h z sm x)) h) := by
  have hz8 := T.1.2.1
  have hz := T.1.2.2.2
  have h64 := pow6 T.1.1
  refine ctr_start (by decide) (Nat.le_of_ble_eq_true rfl) rfl rfl ?_
  show SW jX3_isFulfilledBy E0 _ 0 [some (.ref 1), some (.int (nI x)), none] [] _
  refine sw_iconst (v := nI 0) dX3_isFulfilledBy_0 (by decide) ?_
  refine sw_istore_n dX3_isFulfilledBy_1 (by decide) rfl ?_
  refine lp_up (n := z) (S := fun i => ffB h i sm x = true → SW jX3_isFulfilledBy E0 (Zm (Ret (bI (ffB h z sm x)) h)) 2 [some (.ref 1), some (.int (nI x)), some (.int (nI i))] [] h) ?_ ?_ 0 (by omega) rfl
  · intro ha
    refine sw_iload_n dX3_isFulfilledBy_2 rfl ?_
    refine sw_aload_n dX3_isFulfilledBy_3 rfl ?_
    refine sw_getI dX3_isFulfilledBy_4 flX3_15 ⟨by decide, _, rfl, rfl⟩ ?_
    rw [hz]
    refine sw_icmpN_ge (tgt := 51) dX3_isFulfilledBy_7 (by decide) (by omega) (by omega) (fun hc => ?_) (fun hc => ?_)
    · refine sw_iconst (v := nI 1) dX3_isFulfilledBy_51 (by decide) ?_
      refine sw_zret dX3_isFulfilledBy_52 rfl rfl rfl rfl ?_
      exact ⟨by rw [ha]; rfl, rfl⟩
    · omega
  · intro i hi ih ha
    have hs := (T.2.1 i hi).1
    have hand : x &&& sm i ≤ x := Nat.and_le_left
    refine sw_iload_n dX3_isFulfilledBy_2 rfl ?_
    refine sw_aload_n dX3_isFulfilledBy_3 rfl ?_
    refine sw_getI dX3_isFulfilledBy_4 flX3_15 ⟨by decide, _, rfl, rfl⟩ ?_
    rw [hz]
    refine sw_icmpN_ge (tgt := 51) dX3_isFulfilledBy_7 (by decide) (by omega) (by omega) (fun hc => ?_) (fun hc => ?_)
    · omega
    · refine sw_aload_n dX3_isFulfilledBy_10 rfl ?_
      refine sw_getR dX3_isFulfilledBy_11 flX3_25 ⟨by decide, _, rfl, rfl⟩ ?_
      refine sw_iload_n dX3_isFulfilledBy_14 rfl ?_
      refine sw_iald dX3_isFulfilledBy_15 rfl (by simp only [plA]; omega) ?_
      refine sw_bipush (v := (-4)) dX3_isFulfilledBy_16 (by decide) ?_
      clear hc
      refine sw_icmp_eq (tgt := 45) dX3_isFulfilledBy_18 (by decide) (fun hc => ?_) (fun hc => ?_)
      · first | refine sw_iincN (b := 1) dX3_isFulfilledBy_45 rfl (by decide) rfl ?_ | refine sw_iinc dX3_isFulfilledBy_45 rfl rfl (by decide) rfl ?_
        refine sw_goto (tgt := 2) dX3_isFulfilledBy_48 (by decide) ?_
        exact ih (by unfold ffB at ha ⊢; simp only [allB, ha, Bool.true_and]; exact decide_eq_true (Or.inl hc))
      · have hc0 := hc
        clear hc
        refine sw_iload_n dX3_isFulfilledBy_21 rfl ?_
        refine sw_aload_n dX3_isFulfilledBy_22 rfl ?_
        refine sw_getR dX3_isFulfilledBy_23 flX3_21 ⟨by decide, _, rfl, rfl⟩ ?_
        refine sw_iload_n dX3_isFulfilledBy_26 rfl ?_
        refine sw_iald dX3_isFulfilledBy_27 rfl (by simp only [plA]; omega) ?_
        rw [hs]
        first | refine sw_iandN dX3_isFulfilledBy_28 ?_ | refine sw_iand dX3_isFulfilledBy_28 ?_
        refine sw_csi (c_bitCount (by omega)) dX3_isFulfilledBy_29 lkX3_55 (by decide) rfl rfl (Nat.le_of_ble_eq_true rfl) ?_
        refine sw_iconst (v := nI 1) dX3_isFulfilledBy_32 (by decide) ?_
        first | refine sw_iand1 dX3_isFulfilledBy_33 ?_ | refine sw_iand dX3_isFulfilledBy_33 ?_
        refine sw_aload_n dX3_isFulfilledBy_34 rfl ?_
        refine sw_getR dX3_isFulfilledBy_35 flX3_25 ⟨by decide, _, rfl, rfl⟩ ?_
        refine sw_iload_n dX3_isFulfilledBy_38 rfl ?_
        refine sw_iald dX3_isFulfilledBy_39 rfl (by simp only [plA]; omega) ?_
        refine sw_icmp_eq (tgt := 45) dX3_isFulfilledBy_40 (by decide) (fun hc => ?_) (fun hc => ?_)
        · first | refine sw_iincN (b := 1) dX3_isFulfilledBy_45 rfl (by decide) rfl ?_ | refine sw_iinc dX3_isFulfilledBy_45 rfl rfl (by decide) rfl ?_
          refine sw_goto (tgt := 2) dX3_isFulfilledBy_48 (by decide) ?_
          exact ih (by unfold ffB at ha ⊢; simp only [allB, ha, Bool.true_and]; exact decide_eq_true (Or.inr hc))
        · refine sw_iconst (v := nI 0) dX3_isFulfilledBy_43 (by decide) ?_
          refine sw_zret dX3_isFulfilledBy_44 rfl rfl rfl rfl ?_
          exact ⟨by unfold ffB; rw [allB_f hi (decide_eq_false (fun q => q.elim hc0 hc))]; rfl, rfl⟩
/-- a place's PARITY as a number, where there is one -/
def pN (v : Int32) : Nat := if v = 1 then 1 else 0
def okP (v : Int32) : Prop := v = 0 ∨ v = 1 ∨ v = -4
theorem pN_of {v : Int32} (h : okP v) (h4 : ¬ v = -4) : v = nI (pN v) := by
  rcases h with rfl | rfl | rfl
  · decide
  · decide
  · exact absurd rfl h4
theorem pN_le (v : Int32) : pN v ≤ 1 := by unfold pN; split <;> omega
def xrN (sm : Nat → Nat) (m : Nat) : Nat → Nat
  | 0 => 0
  | c + 1 => if m / 2 ^ c % 2 = 1 then xrN sm m c ^^^ sm c else xrN sm m c
def psN (p : Nat → Int32) (m : Nat) : Nat → Nat
  | 0 => 0
  | c + 1 => if m / 2 ^ c % 2 = 1 then psN p m c + pN (p c) else psN p m c
theorem psN_le (p : Nat → Int32) (m : Nat) : ∀ c, psN p m c ≤ c
  | 0 => Nat.le_refl _
  | c + 1 => by
    have := psN_le p m c
    have h2 := pN_le (p c)
    simp only [psN]
    split <;> omega
def okN (p : Nat → Int32) (m z : Nat) : Bool := allB (fun c => decide (m / 2 ^ c % 2 = 1 → ¬ p c = -4)) z
def prB (p : Nat → Int32) (sm : Nat → Nat) (m z : Nat) : Bool := okN p m z && decide (xrN sm m z = 0) && decide (psN p m z % 2 = 1)
theorem xrN_lt {sm : Nat → Nat} {m : Nat} : ∀ {z : Nat}, (∀ c, c < z → sm c < 64) → xrN sm m z < 64
  | 0, _ => by simp [xrN]
  | c + 1, hs => by
    have ih := xrN_lt (sm := sm) (m := m) (z := c) (fun k hk => hs k (by omega))
    simp only [xrN]
    split
    · exact Nat.xor_lt_two_pow (n := 6) ih (hs c (by omega))
    · exact ih
theorem c_isProof (T : TX h n z sm) (hP : ∀ c, c < z → okP (h 3 c)) {m : Nat} (hm : m < 256) : Ctr jX3_isProof [.ref 1, .int (nI m)] h (Ret (bI (prB (h 3) sm m z)) h) := by
  have hz8 := T.1.2.1
  have hz := T.1.2.2.2
  refine ctr_start (by decide) (Nat.le_of_ble_eq_true rfl) rfl rfl ?_
  show SW jX3_isProof E0 _ 0 [some (.ref 1), some (.int (nI m)), none, none, none] [] _
  refine sw_iconst (v := nI 0) dX3_isProof_0 (by decide) ?_
  refine sw_istore_n dX3_isProof_1 (by decide) rfl ?_
  refine sw_iconst (v := nI 0) dX3_isProof_2 (by decide) ?_
  refine sw_istore_n dX3_isProof_3 (by decide) rfl ?_
  refine sw_iconst (v := nI 0) dX3_isProof_4 (by decide) ?_
  refine sw_istore dX3_isProof_5 (by decide) rfl ?_
  refine lp_up (n := z) (S := fun i => okN (h 3) m i = true → SW jX3_isProof E0 (Zm (Ret (bI (prB (h 3) sm m z)) h)) 7 [some (.ref 1), some (.int (nI m)), some (.int (nI (xrN sm m i))), some (.int (nI (psN (h 3) m i))), some (.int (nI i))] [] h) ?_ ?_ 0 (by omega) rfl
  · intro ha
    have hxr := xrN_lt (sm := sm) (m := m) (z := z) (fun c hc => T.s64 hc)
    have hps := psN_le (h 3) m z
    refine sw_iload dX3_isProof_7 rfl ?_
    refine sw_aload_n dX3_isProof_9 rfl ?_
    refine sw_getI dX3_isProof_10 flX3_15 ⟨by decide, _, rfl, rfl⟩ ?_
    rw [hz]
    refine sw_icmpN_ge (tgt := 66) dX3_isProof_13 (by decide) (by omega) (by omega) (fun hc => ?_) (fun hc => ?_)
    · refine sw_iload_n dX3_isProof_66 rfl ?_
      clear hc
      refine sw_if_ne (tgt := 81) dX3_isProof_67 (by decide) (fun hc => ?_) (fun hc => ?_)
      · have hx : ¬ xrN sm m z = 0 := fun q => hc (by rw [q]; rfl)
        refine sw_iconst (v := nI 0) dX3_isProof_81 (by decide) ?_
        refine sw_zret dX3_isProof_82 rfl rfl rfl rfl ?_
        exact ⟨by unfold prB; rw [decide_eq_false hx, Bool.and_false, Bool.false_and]; rfl, rfl⟩
      · have hx : xrN sm m z = 0 := by
          have := (nI_eq (a := xrN sm m z) (b := 0) (by omega) (by omega)).mp hc
          exact this
        clear hc
        refine sw_iload_n dX3_isProof_70 rfl ?_
        refine sw_iconst (v := nI 1) dX3_isProof_71 (by decide) ?_
        first | refine sw_iand1 dX3_isProof_72 ?_ | refine sw_iand dX3_isProof_72 ?_
        refine sw_iconst (v := nI 1) dX3_isProof_73 (by decide) ?_
        refine sw_icmpN_ne (tgt := 81) dX3_isProof_74 (by decide) (by omega) (by omega) (fun hc => ?_) (fun hc => ?_)
        · refine sw_iconst (v := nI 0) dX3_isProof_81 (by decide) ?_
          refine sw_zret dX3_isProof_82 rfl rfl rfl rfl ?_
          exact ⟨by unfold prB; rw [decide_eq_false hc, Bool.and_false]; rfl, rfl⟩
        · refine sw_iconst (v := nI 1) dX3_isProof_77 (by decide) ?_
          refine sw_goto (tgt := 82) dX3_isProof_78 (by decide) ?_
          refine sw_zret dX3_isProof_82 rfl rfl rfl rfl ?_
          exact ⟨by unfold prB; rw [ha, decide_eq_true hx, decide_eq_true hc]; rfl, rfl⟩
    · omega
  · intro i hi ih ha
    have hs := (T.2.1 i hi).1
    refine sw_iload dX3_isProof_7 rfl ?_
    refine sw_aload_n dX3_isProof_9 rfl ?_
    refine sw_getI dX3_isProof_10 flX3_15 ⟨by decide, _, rfl, rfl⟩ ?_
    rw [hz]
    refine sw_icmpN_ge (tgt := 66) dX3_isProof_13 (by decide) (by omega) (by omega) (fun hc => ?_) (fun hc => ?_)
    · omega
    · clear hc
      refine sw_iload_n dX3_isProof_16 rfl ?_
      refine sw_iload dX3_isProof_17 rfl ?_
      first | refine sw_ishrN dX3_isProof_19 (by omega) (by omega) ?_ | refine sw_ishr dX3_isProof_19 ?_
      refine sw_iconst (v := nI 1) dX3_isProof_20 (by decide) ?_
      first | refine sw_iand1 dX3_isProof_21 ?_ | refine sw_iand dX3_isProof_21 ?_
      refine sw_iconst (v := nI 1) dX3_isProof_22 (by decide) ?_
      refine sw_icmpN_ne (tgt := 60) dX3_isProof_23 (by decide) (by omega) (by omega) (fun hc => ?_) (fun hc => ?_)
      · have e1 : xrN sm m (i + 1) = xrN sm m i := by simp only [xrN, if_neg hc]
        have e2 : psN (h 3) m (i + 1) = psN (h 3) m i := by simp only [psN, if_neg hc]
        rw [e1, e2] at ih
        first | refine sw_iincN (b := 1) dX3_isProof_60 rfl (by decide) rfl ?_ | refine sw_iinc dX3_isProof_60 rfl rfl (by decide) rfl ?_
        refine sw_goto (tgt := 7) dX3_isProof_63 (by decide) ?_
        exact ih (by unfold okN at ha ⊢; simp only [allB, ha, Bool.true_and]; exact decide_eq_true (fun q => absurd q hc))
      · have hb := hc
        clear hc
        refine sw_aload_n dX3_isProof_26 rfl ?_
        refine sw_getR dX3_isProof_27 flX3_25 ⟨by decide, _, rfl, rfl⟩ ?_
        refine sw_iload dX3_isProof_30 rfl ?_
        refine sw_iald dX3_isProof_32 rfl (by simp only [plA]; omega) ?_
        refine sw_bipush (v := (-4)) dX3_isProof_33 (by decide) ?_
        refine sw_icmp_ne (tgt := 40) dX3_isProof_35 (by decide) (fun hc => ?_) (fun hc => ?_)
        · have e1 : xrN sm m (i + 1) = xrN sm m i ^^^ sm i := by simp only [xrN, if_pos hb]
          have e2 : psN (h 3) m (i + 1) = psN (h 3) m i + pN (h 3 i) := by simp only [psN, if_pos hb]
          rw [e1, e2] at ih
          have hpv := pN_of (hP i hi) hc
          refine sw_iload_n dX3_isProof_40 rfl ?_
          refine sw_aload_n dX3_isProof_41 rfl ?_
          refine sw_getR dX3_isProof_42 flX3_21 ⟨by decide, _, rfl, rfl⟩ ?_
          refine sw_iload dX3_isProof_45 rfl ?_
          refine sw_iald dX3_isProof_47 rfl (by simp only [plA]; omega) ?_
          rw [hs]
          first | refine sw_ixorN dX3_isProof_48 ?_ | refine sw_ixor dX3_isProof_48 ?_
          refine sw_istore_n dX3_isProof_49 (by decide) rfl ?_
          refine sw_iload_n dX3_isProof_50 rfl ?_
          refine sw_aload_n dX3_isProof_51 rfl ?_
          refine sw_getR dX3_isProof_52 flX3_25 ⟨by decide, _, rfl, rfl⟩ ?_
          refine sw_iload dX3_isProof_55 rfl ?_
          refine sw_iald dX3_isProof_57 rfl (by simp only [plA]; omega) ?_
          rw [hpv]
          first | refine sw_iaddN dX3_isProof_58 ?_ | refine sw_iadd dX3_isProof_58 ?_
          refine sw_istore_n dX3_isProof_59 (by decide) rfl ?_
          first | refine sw_iincN (b := 1) dX3_isProof_60 rfl (by decide) rfl ?_ | refine sw_iinc dX3_isProof_60 rfl rfl (by decide) rfl ?_
          refine sw_goto (tgt := 7) dX3_isProof_63 (by decide) ?_
          exact ih (by unfold okN at ha ⊢; simp only [allB, ha, Bool.true_and]; exact decide_eq_true (fun _ => hc))
        · refine sw_iconst (v := nI 0) dX3_isProof_38 (by decide) ?_
          refine sw_zret dX3_isProof_39 rfl rfl rfl rfl ?_
          exact ⟨by unfold prB okN; rw [allB_f hi (decide_eq_false (fun q => q hb hc)), Bool.false_and, Bool.false_and]; rfl, rfl⟩
end TAB
