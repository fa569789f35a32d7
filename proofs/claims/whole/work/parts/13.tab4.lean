theorem dp_lt (s j : Nat) : ∀ k, dp s j k < 2 ^ k
  | 0 => by simp [dp]
  | k + 1 => by
    have ih := dp_lt s j k
    have h2 : j / 2 ^ bs s k % 2 < 2 := Nat.mod_lt _ (by omega)
    simp only [dp]
    rw [Nat.pow_succ]
    split
    · have : j / 2 ^ bs s k % 2 * 2 ^ k ≤ 1 * 2 ^ k := Nat.mul_le_mul_right _ (by omega)
      omega
    · omega
theorem hset_sw {h : Hp} {k i : Nat} {v : Int32} {a : Nat} (ha : a ≠ k) : hset h k i v a = h a := hset_off a ha
/-- what the sums get of a set's weights, at a, of its first m joints -/
def sA (w : Nat → Int32) (sg : Int32) (s b c a : Nat) (m : Nat) : Int32 := sI (fun j => if dp s j 6 &&& b = a then sg * w (8 * c + j) else 0) m
theorem TX_keep {h g : Hp} {n z : Nat} {sm : Nat → Nat} (T : TX h n z sm) (e1 : g 1 = h 1) (e2 : g 2 = h 2) (e6 : g 6 = h 6) (e7 : g 7 = h 7) : TX g n z sm := by
  unfold TX at T ⊢
  rw [e1, e2, e6, e7]
  exact T
section TAB
variable {h : Hp} {n z : Nat} {sm : Nat → Nat}
/-- all but cell q is as it was -/
def Sam (q : Nat) (h g : Hp) : Prop := ∀ k, k ≠ q → g k = h k
theorem Sam.rf {q : Nat} {h : Hp} : Sam q h h := fun _ _ => rfl
theorem Sam.set {q : Nat} {h g : Hp} {i : Nat} {v : Int32} (s : Sam q h g) : Sam q h (hset g q i v) := fun k hk => by rw [hset_off k hk]; exact s k hk
theorem Sam.tr {q : Nat} {h g f : Hp} (s : Sam q h g) (s2 : Sam q g f) : Sam q h f := fun k hk => (s2 k hk).trans (s k hk)
theorem Sam.T {q : Nat} {g : Hp} (s : Sam q h g) (hq : q ≠ 1 ∧ q ≠ 2 ∧ q ≠ 6 ∧ q ≠ 7) (T : TX h n z sm) : TX g n z sm := TX_keep T (s 1 (Ne.symm hq.1)) (s 2 (Ne.symm hq.2.1)) (s 6 (Ne.symm hq.2.2.1)) (s 7 (Ne.symm hq.2.2.2))
theorem c_addToSums (T : TX h n z sm) {c b : Nat} (hc : c < z) (hb : b < 64) (sg : Int32) : Ctr jX3_addToSums [.ref 1, .int (nI c), .int (nI b), .int sg] h (fun v g => v = none ∧ Sam 8 h g ∧ ∀ a, g 8 a = h 8 a + sA (h 4) sg (sm c) b c a (2 ^ pop (sm c))) := by
  have hz8 := T.1.2.1
  have hp := pow3 (T.2.1 c hc).2.2.2
  have hcc := hc
  clear hc
  refine ctr_start (by decide) (Nat.le_of_ble_eq_true rfl) rfl rfl ?_
  show SW jX3_addToSums E0 _ 0 [some (.ref 1), some (.int (nI c)), some (.int (nI b)), some (.int sg), none, none] [] _
  refine sw_iconst (v := nI 0) dX3_addToSums_0 (by decide) ?_
  refine sw_istore dX3_addToSums_1 (by decide) rfl ?_
  have key := lp_up (n := 2 ^ pop (sm c)) (S := fun i => ∀ (g : Hp) (v5 : Option Value), Sam 8 h g → (∀ a, g 8 a = h 8 a + sA (h 4) sg (sm c) b c a i) → SW jX3_addToSums E0 (Zm (fun v g => v = none ∧ Sam 8 h g ∧ ∀ a, g 8 a = h 8 a + sA (h 4) sg (sm c) b c a (2 ^ pop (sm c)))) 3 [some (.ref 1), some (.int (nI c)), some (.int (nI b)), some (.int sg), some (.int (nI i)), v5] [] g) ?_ ?_ 0 (Nat.zero_le _)
  · exact key h none Sam.rf (fun a => by simp [sA, sI])
  · intro g v5 hS hg
    refine sw_iload dX3_addToSums_3 rfl ?_
    refine sw_aload_n dX3_addToSums_5 rfl ?_
    refine sw_iload_n dX3_addToSums_6 rfl ?_
    refine sw_cvi (i := 0) (c_jointCount (hS.T (by decide) T) hcc) dX3_addToSums_7 lkX3_51 (by decide) ⟨by decide, _, rfl, rfl⟩ rfl rfl rfl (Nat.le_of_ble_eq_true rfl) ?_
    refine sw_icmpN_ge (tgt := 54) dX3_addToSums_10 (by decide) (by omega) (by omega) (fun hc => ?_) (fun hc => ?_)
    · refine sw_vret dX3_addToSums_54 rfl rfl rfl ?_
      exact ⟨rfl, hS, hg⟩
    · omega
  · intro i hi ih g v5 hS hg
    have T' := hS.T (by decide) T
    refine sw_iload dX3_addToSums_3 rfl ?_
    refine sw_aload_n dX3_addToSums_5 rfl ?_
    refine sw_iload_n dX3_addToSums_6 rfl ?_
    refine sw_cvi (i := 0) (c_jointCount T' hcc) dX3_addToSums_7 lkX3_51 (by decide) ⟨by decide, _, rfl, rfl⟩ rfl rfl rfl (Nat.le_of_ble_eq_true rfl) ?_
    refine sw_icmpN_ge (tgt := 54) dX3_addToSums_10 (by decide) (by omega) (by omega) (fun hc => ?_) (fun hc => ?_)
    · omega
    · have hd := dp_lt (sm c) i 6
      have hda : dp (sm c) i 6 &&& b ≤ b := Nat.and_le_right
      refine sw_bipush (v := nI 8) dX3_addToSums_13 (by decide) ?_
      refine sw_iload_n dX3_addToSums_15 rfl ?_
      first | refine sw_imulN dX3_addToSums_16 ?_ | refine sw_imul dX3_addToSums_16 ?_
      refine sw_iload dX3_addToSums_17 rfl ?_
      first | refine sw_iaddN dX3_addToSums_19 ?_ | refine sw_iadd dX3_addToSums_19 ?_
      refine sw_istore dX3_addToSums_20 (by decide) rfl ?_
      refine sw_aload_n dX3_addToSums_22 rfl ?_
      refine sw_getR dX3_addToSums_23 flX3_40 ⟨by decide, _, rfl, rfl⟩ ?_
      refine sw_aload_n dX3_addToSums_26 rfl ?_
      refine sw_getR dX3_addToSums_27 flX3_34 ⟨by decide, _, rfl, rfl⟩ ?_
      refine sw_iload dX3_addToSums_30 rfl ?_
      refine sw_iald dX3_addToSums_32 rfl (by simp only [plA]; omega) ?_
      rw [T'.2.2.2 c i hcc hi]
      refine sw_iload_n dX3_addToSums_33 rfl ?_
      first | refine sw_iandN dX3_addToSums_34 ?_ | refine sw_iand dX3_addToSums_34 ?_
      refine sw_dup2 dX3_addToSums_35 rfl rfl ?_
      refine sw_iald dX3_addToSums_36 rfl (by simp only [plA]; omega) ?_
      refine sw_iload_n dX3_addToSums_37 rfl ?_
      refine sw_aload_n dX3_addToSums_38 rfl ?_
      refine sw_getR dX3_addToSums_39 flX3_28 ⟨by decide, _, rfl, rfl⟩ ?_
      refine sw_iload dX3_addToSums_42 rfl ?_
      refine sw_iald dX3_addToSums_44 rfl (by simp only [plA]; omega) ?_
      rw [hS 4 (by decide)]
      first | refine sw_imulN dX3_addToSums_45 ?_ | refine sw_imul dX3_addToSums_45 ?_
      first | refine sw_iaddN dX3_addToSums_46 ?_ | refine sw_iadd dX3_addToSums_46 ?_
      refine sw_iast dX3_addToSums_47 rfl (by simp only [plA]; omega) ?_
      first | refine sw_iincN (b := 1) dX3_addToSums_48 rfl (by decide) rfl ?_ | refine sw_iinc dX3_addToSums_48 rfl rfl (by decide) rfl ?_
      refine sw_goto (tgt := 3) dX3_addToSums_51 (by decide) ?_
      refine ih _ _ hS.set (fun a => ?_)
      simp only [sA, sI]
      rw [hset_eq]
      by_cases ha : dp (sm c) i 6 &&& b = a
      · rw [if_pos ⟨rfl, ha.symm⟩, if_pos ha, hg, ha]
        simp only [sA]
        rw [Int32.add_assoc]
      · rw [if_neg (fun q => ha q.2.symm), if_neg ha, hg]
        simp [sA]
abbrev SAf (h : Hp) (sm : Nat → Nat) (c d a : Nat) : Int32 := 0 + sA (h 4) 1 (sm c) (sm c &&& sm d) c a (2 ^ pop (sm c)) + sA (h 4) (-1) (sm d) (sm c &&& sm d) d a (2 ^ pop (sm d))
def uX (h : Hp) (sm : Nat → Nat) (c d : Nat) : Bool := !allB (fun a => decide (SAf h sm c d a = 0)) 64
theorem c_areUnlike (T : TX h n z sm) {c d : Nat} (hc : c < z) (hd : d < z) : Ctr jX3_areUnlike [.ref 1, .int (nI c), .int (nI d)] h (fun v g => v = some (.int (bI (uX h sm c d))) ∧ Sam 8 h g) := by
  have hz8 := T.1.2.1
  have hb : sm c &&& sm d < 64 := Nat.lt_of_le_of_lt Nat.and_le_left (T.s64 hc)
  have s1 := (T.2.1 c hc).1
  have s2 := (T.2.1 d hd).1
  refine ctr_start (by decide) (Nat.le_of_ble_eq_true rfl) rfl rfl ?_
  show SW jX3_areUnlike E0 _ 0 [some (.ref 1), some (.int (nI c)), some (.int (nI d)), none, none, none, none, none] [] _
  refine sw_aload_n dX3_areUnlike_0 rfl ?_
  refine sw_getR dX3_areUnlike_1 flX3_21 ⟨by decide, _, rfl, rfl⟩ ?_
  refine sw_iload_n dX3_areUnlike_4 rfl ?_
  refine sw_iald dX3_areUnlike_5 rfl (by simp only [plA]; omega) ?_
  rw [s1]
  refine sw_aload_n dX3_areUnlike_6 rfl ?_
  refine sw_getR dX3_areUnlike_7 flX3_21 ⟨by decide, _, rfl, rfl⟩ ?_
  refine sw_iload_n dX3_areUnlike_10 rfl ?_
  refine sw_iald dX3_areUnlike_11 rfl (by simp only [plA]; omega) ?_
  rw [s2]
  first | refine sw_iandN dX3_areUnlike_12 ?_ | refine sw_iand dX3_areUnlike_12 ?_
  refine sw_istore_n dX3_areUnlike_13 (by decide) rfl ?_
  refine sw_aload_n dX3_areUnlike_14 rfl ?_
  refine sw_getR dX3_areUnlike_15 flX3_40 ⟨by decide, _, rfl, rfl⟩ ?_
  refine sw_iconst (v := nI 0) dX3_areUnlike_18 (by decide) ?_
  refine sw_csv (c_fill (q := 8) rfl (nI 0)) dX3_areUnlike_19 lkX3_68 (by decide) rfl rfl (Nat.le_of_ble_eq_true rfl) ?_
  have hS1 : Sam 8 h (hfl h 8 (nI 0) (plA 8)) := fun k hk => hfl_off hk
  have T1 := hS1.T (by decide) T
  refine sw_aload_n dX3_areUnlike_22 rfl ?_
  refine sw_iload_n dX3_areUnlike_23 rfl ?_
  refine sw_iload_n dX3_areUnlike_24 rfl ?_
  refine sw_iconst (v := nI 1) dX3_areUnlike_25 (by decide) ?_
  refine sw_callV (i := 0) (c_addToSums T1 hc hb (nI 1)) dX3_areUnlike_26 lkX3_81 (by decide) ⟨by decide, _, rfl, rfl⟩ rfl rfl rfl (Nat.le_of_ble_eq_true rfl) (fun v h1 hq => ?_)
  obtain ⟨rfl, hS2, hg2⟩ := hq
  have T2 := hS2.T (by decide) T1
  refine sw_aload_n dX3_areUnlike_29 rfl ?_
  refine sw_iload_n dX3_areUnlike_30 rfl ?_
  refine sw_iload_n dX3_areUnlike_31 rfl ?_
  refine sw_iconst (v := (-1)) dX3_areUnlike_32 (by decide) ?_
  refine sw_callV (i := 0) (c_addToSums T2 hd hb (-1)) dX3_areUnlike_33 lkX3_81 (by decide) ⟨by decide, _, rfl, rfl⟩ rfl rfl rfl (Nat.le_of_ble_eq_true rfl) (fun v h1 hq => ?_)
  obtain ⟨rfl, hS3, hg3⟩ := hq
  have hfin : ∀ a, a < 64 → h1 8 a = SAf h sm c d a := fun a ha => by
    rw [hg3, hg2, hfl_in (show a < plA 8 from ha), hS2 4 (by decide), hS1 4 (by decide)]
    rfl
  have hSf : Sam 8 h h1 := (hS1.tr hS2).tr hS3
  clear hg3 hg2 hS3 hS2
  refine sw_aload_n dX3_areUnlike_36 rfl ?_
  refine sw_getR dX3_areUnlike_37 flX3_40 ⟨by decide, _, rfl, rfl⟩ ?_
  refine sw_astore dX3_areUnlike_40 (by decide) rfl ?_
  refine sw_aload dX3_areUnlike_42 rfl ?_
  refine sw_alen dX3_areUnlike_44 rfl rfl ?_
  refine sw_istore dX3_areUnlike_45 (by decide) rfl ?_
  refine sw_iconst (v := nI 0) dX3_areUnlike_47 (by decide) ?_
  refine sw_istore dX3_areUnlike_48 (by decide) rfl ?_
  have key := lp_up (n := 64) (S := fun i => allB (fun a => decide (SAf h sm c d a = 0)) i = true → ∀ v7, SW jX3_areUnlike E0 (Zm (fun v g => v = some (.int (bI (uX h sm c d))) ∧ Sam 8 h g)) 50 [some (.ref 1), some (.int (nI c)), some (.int (nI d)), some (.int (nI (sm c &&& sm d))), some (.ref 8), some (.int (nI 64)), some (.int (nI i)), v7] [] h1) ?_ ?_ 0 (by omega) rfl none
  · exact key
  · intro ha v7
    refine sw_iload dX3_areUnlike_50 rfl ?_
    refine sw_iload dX3_areUnlike_52 rfl ?_
    refine sw_icmpN_ge (tgt := 77) dX3_areUnlike_54 (by decide) (by omega) (by omega) (fun hc => ?_) (fun hc => ?_)
    · refine sw_iconst (v := nI 0) dX3_areUnlike_77 (by decide) ?_
      refine sw_zret dX3_areUnlike_78 rfl rfl rfl rfl ?_
      exact ⟨by unfold uX; rw [ha]; rfl, hSf⟩
    · omega
  · intro i hi ih ha v7
    refine sw_iload dX3_areUnlike_50 rfl ?_
    refine sw_iload dX3_areUnlike_52 rfl ?_
    refine sw_icmpN_ge (tgt := 77) dX3_areUnlike_54 (by decide) (by omega) (by omega) (fun hc => ?_) (fun hc => ?_)
    · omega
    · clear hc
      refine sw_aload dX3_areUnlike_57 rfl ?_
      refine sw_iload dX3_areUnlike_59 rfl ?_
      refine sw_iald dX3_areUnlike_61 rfl (by simp only [plA]; omega) ?_
      rw [hfin i hi]
      refine sw_istore dX3_areUnlike_62 (by decide) rfl ?_
      refine sw_iload dX3_areUnlike_64 rfl ?_
      refine sw_if_eq (tgt := 71) dX3_areUnlike_66 (by decide) (fun hc => ?_) (fun hc => ?_)
      · first | refine sw_iincN (b := 1) dX3_areUnlike_71 rfl (by decide) rfl ?_ | refine sw_iinc dX3_areUnlike_71 rfl rfl (by decide) rfl ?_
        refine sw_goto (tgt := 50) dX3_areUnlike_74 (by decide) ?_
        exact ih (by simp only [allB, ha, Bool.true_and]; exact decide_eq_true hc) _
      · refine sw_iconst (v := nI 1) dX3_areUnlike_69 (by decide) ?_
        refine sw_zret dX3_areUnlike_70 rfl rfl rfl rfl ?_
        exact ⟨by unfold uX; rw [allB_f hi (decide_eq_false hc)]; rfl, hSf⟩
/-- the first pair, row by row -/
def fqI (u : Nat → Nat → Bool) (c : Nat) : Nat → Nat → Option Int32
  | 0, _ => none
  | m + 1, d => if u c d then some (nI (8 * c + d)) else fqI u c m (d + 1)
def fqO (u : Nat → Nat → Bool) (z : Nat) : Nat → Nat → Int32
  | 0, _ => -4
  | m + 1, c => match fqI u c (z - (c + 1)) (c + 1) with
    | some v => v
    | none => fqO u z m (c + 1)
def fq (u : Nat → Nat → Bool) (z : Nat) : Int32 := fqO u z z 0
theorem fqI_cong {u w : Nat → Nat → Bool} {c z : Nat} : ∀ (m d : Nat), (∀ k, d ≤ k → k < d + m → u c k = w c k) → fqI u c m d = fqI w c m d
  | 0, _, _ => rfl
  | m + 1, d, hh => by
    simp only [fqI]
    rw [hh d (by omega) (by omega), fqI_cong (z := z) m (d + 1) (fun k h1 h2 => hh k (by omega) (by omega))]
theorem fqO_cong {u w : Nat → Nat → Bool} {z : Nat} (hu : ∀ c d, c < z → d < z → c < d → u c d = w c d) : ∀ (m c : Nat), m + c ≤ z → fqO u z m c = fqO w z m c
  | 0, _, _ => rfl
  | m + 1, c, h => by
    simp only [fqO]
    rw [fqI_cong (z := z) (z - (c + 1)) (c + 1) (fun k h1 h2 => hu c k (by omega) (by omega) (by omega)), fqO_cong hu m (c + 1) (by omega)]
theorem fq_cong {u w : Nat → Nat → Bool} {z : Nat} (hu : ∀ c d, c < z → d < z → c < d → u c d = w c d) : fq u z = fq w z := fqO_cong hu z 0 (by omega)
theorem uX_keep {g : Hp} (hS : Sam 8 h g) (c d : Nat) : uX g sm c d = uX h sm c d := by
  unfold uX SAf
  rw [hS 4 (by decide)]
theorem c_firstQuarrel (T : TX h n z sm) : Ctr jX3_firstQuarrel [.ref 1] h (fun v g => v = some (.int (fq (uX h sm) z)) ∧ Sam 8 h g) := by
  have hz8 := T.1.2.1
  refine ctr_start (by decide) (Nat.le_of_ble_eq_true rfl) rfl rfl ?_
  show SW jX3_firstQuarrel E0 _ 0 [some (.ref 1), none, none] [] _
  refine sw_iconst (v := nI 0) dX3_firstQuarrel_0 (by decide) ?_
  refine sw_istore_n dX3_firstQuarrel_1 (by decide) rfl ?_
  have key := lp_up (n := z) (S := fun i => fqO (uX h sm) z (z - i) i = fq (uX h sm) z → ∀ g v2, Sam 8 h g → SW jX3_firstQuarrel E0 (Zm (fun v g => v = some (.int (fq (uX h sm) z)) ∧ Sam 8 h g)) 2 [some (.ref 1), some (.int (nI i)), v2] [] g) ?_ ?_ 0 (by omega) rfl h none Sam.rf
  · exact key
  · intro he g v2 hS
    have hz := (hS.T (by decide) T).1.2.2.2
    refine sw_iload_n dX3_firstQuarrel_2 rfl ?_
    refine sw_aload_n dX3_firstQuarrel_3 rfl ?_
    refine sw_getI dX3_firstQuarrel_4 flX3_15 ⟨by decide, _, rfl, rfl⟩ ?_
    rw [hz]
    refine sw_icmpN_ge (tgt := 50) dX3_firstQuarrel_7 (by decide) (by omega) (by omega) (fun hc => ?_) (fun hc => ?_)
    · refine sw_bipush (v := (-4)) dX3_firstQuarrel_50 (by decide) ?_
      refine sw_iret dX3_firstQuarrel_52 rfl rfl rfl ?_
      exact ⟨by rw [← he, Nat.sub_self]; rfl, hS⟩
    · omega
  · intro i hi ih he g v2 hS
    have hz := (hS.T (by decide) T).1.2.2.2
    refine sw_iload_n dX3_firstQuarrel_2 rfl ?_
    refine sw_aload_n dX3_firstQuarrel_3 rfl ?_
    refine sw_getI dX3_firstQuarrel_4 flX3_15 ⟨by decide, _, rfl, rfl⟩ ?_
    rw [hz]
    refine sw_icmpN_ge (tgt := 50) dX3_firstQuarrel_7 (by decide) (by omega) (by omega) (fun hc => ?_) (fun hc => ?_)
    · omega
    · clear hc
      have e1 : z - i = (z - (i + 1)) + 1 := by omega
      rw [e1] at he
      simp only [fqO] at he
      refine sw_iload_n dX3_firstQuarrel_10 rfl ?_
      refine sw_iconst (v := nI 1) dX3_firstQuarrel_11 (by decide) ?_
      first | refine sw_iaddN dX3_firstQuarrel_12 ?_ | refine sw_iadd dX3_firstQuarrel_12 ?_
      refine sw_istore_n dX3_firstQuarrel_13 (by decide) rfl ?_
      have key2 := lp_up (n := z) (S := fun d => i + 1 ≤ d → fqI (uX h sm) i (z - d) d = fqI (uX h sm) i (z - (i + 1)) (i + 1) → ∀ g, Sam 8 h g → SW jX3_firstQuarrel E0 (Zm (fun v g => v = some (.int (fq (uX h sm) z)) ∧ Sam 8 h g)) 14 [some (.ref 1), some (.int (nI i)), some (.int (nI d))] [] g) ?_ ?_ (i + 1) (by omega) (by omega) rfl g hS
      · exact key2
      · intro hid hf g hS
        have hz := (hS.T (by decide) T).1.2.2.2
        refine sw_iload_n dX3_firstQuarrel_14 rfl ?_
        refine sw_aload_n dX3_firstQuarrel_15 rfl ?_
        refine sw_getI dX3_firstQuarrel_16 flX3_15 ⟨by decide, _, rfl, rfl⟩ ?_
        rw [hz]
        refine sw_icmpN_ge (tgt := 44) dX3_firstQuarrel_19 (by decide) (by omega) (by omega) (fun hc => ?_) (fun hc => ?_)
        · first | refine sw_iincN (b := 1) dX3_firstQuarrel_44 rfl (by decide) rfl ?_ | refine sw_iinc dX3_firstQuarrel_44 rfl rfl (by decide) rfl ?_
          refine sw_goto (tgt := 2) dX3_firstQuarrel_47 (by decide) ?_
          refine ih ?_ g _ hS
          rw [← he, ← hf, Nat.sub_self]
          rfl
        · omega
      · intro d hd ih2 hid hf g hS
        have T' := hS.T (by decide) T
        have hz := T'.1.2.2.2
        refine sw_iload_n dX3_firstQuarrel_14 rfl ?_
        refine sw_aload_n dX3_firstQuarrel_15 rfl ?_
        refine sw_getI dX3_firstQuarrel_16 flX3_15 ⟨by decide, _, rfl, rfl⟩ ?_
        rw [hz]
        refine sw_icmpN_ge (tgt := 44) dX3_firstQuarrel_19 (by decide) (by omega) (by omega) (fun hc => ?_) (fun hc => ?_)
        · omega
        · clear hc
          refine sw_aload_n dX3_firstQuarrel_22 rfl ?_
          refine sw_iload_n dX3_firstQuarrel_23 rfl ?_
          refine sw_iload_n dX3_firstQuarrel_24 rfl ?_
          refine sw_callV (i := 0) (c_areUnlike T' hi hd) dX3_firstQuarrel_25 lkX3_77 (by decide) ⟨by decide, _, rfl, rfl⟩ rfl rfl rfl (Nat.le_of_ble_eq_true rfl) (fun v h1 hq => ?_)
          obtain ⟨rfl, hS2⟩ := hq
          rw [uX_keep hS]
          have e2 : z - d = (z - (d + 1)) + 1 := by omega
          rw [e2] at hf
          simp only [fqI] at hf
          show SW jX3_firstQuarrel E0 _ 28 _ [.int (bI (uX h sm i d))] _
          refine sw_if_eq (tgt := 38) dX3_firstQuarrel_28 (by decide) (fun hc => ?_) (fun hc => ?_)
          · have hu := bI_0 hc
            rw [hu] at hf
            first | refine sw_iincN (b := 1) dX3_firstQuarrel_38 rfl (by decide) rfl ?_ | refine sw_iinc dX3_firstQuarrel_38 rfl rfl (by decide) rfl ?_
            refine sw_goto (tgt := 14) dX3_firstQuarrel_41 (by decide) ?_
            exact ih2 (by omega) hf _ (hS.tr hS2)
          · have hu := bI_1 hc
            rw [hu] at hf
            rw [← hf] at he
            refine sw_bipush (v := nI 8) dX3_firstQuarrel_31 (by decide) ?_
            refine sw_iload_n dX3_firstQuarrel_33 rfl ?_
            first | refine sw_imulN dX3_firstQuarrel_34 ?_ | refine sw_imul dX3_firstQuarrel_34 ?_
            refine sw_iload_n dX3_firstQuarrel_35 rfl ?_
            first | refine sw_iaddN dX3_firstQuarrel_36 ?_ | refine sw_iadd dX3_firstQuarrel_36 ?_
            refine sw_iret dX3_firstQuarrel_37 rfl rfl rfl ?_
            exact ⟨by rw [← he]; rfl, hS.tr hS2⟩
end TAB
