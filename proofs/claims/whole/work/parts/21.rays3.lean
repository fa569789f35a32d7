def c2 : Nat → Nat
  | 0 => 0
  | m + 1 => c2 m + m
def c3 : Nat → Nat
  | 0 => 0
  | m + 1 => c3 m + c2 m
theorem c3_le : ∀ r, r < 13 → c3 r ≤ 220 := by decide
def S2 (e : Nat → Nat → Bool) (R a : Nat) : Nat := fb_sm (f2 e a) R
def S3 (e : Nat → Nat → Bool) (R a : Nat) : Nat := fb_sm (fun b => fb_sm (f3 e a b) R) R
theorem f2_le (e : Nat → Nat → Bool) (a b : Nat) : f2 e a b ≤ 1 := by unfold f2; split <;> omega
section RAYS
variable {h : Hp} {r : Nat}
/-- pairs and threes told -/
def PT (h g : Hp) (r : Nat) : Prop := KR h g ∧ (∀ i, i ≠ 7 → i ≠ 8 → g 13 i = h 13 i) ∧ g 13 7 = nI (fb_sm (S2 (ox h) r) r) ∧ g 13 8 = nI (fb_sm (S3 (ox h) r) r) ∧ fb_sm (S3 (ox h) r) r ≤ 220 ∧ TLs (g 18) (fb_sm (S3 (ox h) r) r) (ox h) r (fun _ _ _ => True)
theorem c_findPairsAndThrees (V : RV h r) : Ctr jX1_findPairsAndThrees [.ref 13] h (fun v g => v = none ∧ PT h g r) := by
  have hr := V.1
  refine ctr_start (by decide) (Nat.le_of_ble_eq_true rfl) rfl rfl ?_
  show SW jX1_findPairsAndThrees E0 _ 0 [some (.ref 13), none, none] [] _
  refine sw_aload_n dX1_findPairsAndThrees_0 rfl ?_
  refine sw_iconst (v := nI 0) dX1_findPairsAndThrees_1 (by decide) ?_
  refine sw_put dX1_findPairsAndThrees_2 fpX1_35 ⟨by decide, _, rfl, rfl⟩ rfl rfl ?_
  refine sw_aload_n dX1_findPairsAndThrees_5 rfl ?_
  refine sw_iconst (v := nI 0) dX1_findPairsAndThrees_6 (by decide) ?_
  refine sw_put dX1_findPairsAndThrees_7 fpX1_38 ⟨by decide, _, rfl, rfl⟩ rfl rfl ?_
  refine sw_iconst (v := nI 0) dX1_findPairsAndThrees_10 (by decide) ?_
  refine sw_istore_n dX1_findPairsAndThrees_11 (by decide) rfl ?_
  generalize hge : hset (hset h 13 7 (nI 0)) 13 8 (nI 0) = g0
  have k0 : KR h g0 := fun k k1 k2 => by rw [← hge, hset_off k k1, hset_off k k1]
  have i0 : ∀ i, i ≠ 7 → i ≠ 8 → g0 13 i = h 13 i := fun i h7 h8 => by rw [← hge, hset_i h8, hset_i h7]
  have g7 : g0 13 7 = nI 0 := by rw [← hge, hset_i (by decide), hset_at]
  have g8 : g0 13 8 = nI 0 := by rw [← hge, hset_at]
  have key := lp_up (n := r) (S := fun a => ∀ g v2, KR h g → (∀ i, i ≠ 7 → i ≠ 8 → g 13 i = h 13 i) → g 13 7 = nI (fb_sm (S2 (ox h) r) a) → g 13 8 = nI (fb_sm (S3 (ox h) r) a) → fb_sm (S3 (ox h) r) a + c3 (r - a) ≤ 220 → TLs (g 18) (fb_sm (S3 (ox h) r) a) (ox h) r (fun x _ _ => x < a) → SW jX1_findPairsAndThrees E0 (Zm (fun v g => v = none ∧ PT h g r)) 12 [some (.ref 13), some (.int (nI a)), v2] [] g) ?_ ?_ 0 (Nat.zero_le _) g0 none k0 i0 g7 g8 (by have := c3_le r (by omega); rw [Nat.sub_zero]; simp only [fb_sm]; omega) ⟨fun i hi => absurd hi (Nat.not_lt_zero _), fun x y z _ _ _ hD => absurd hD (Nat.not_lt_zero _)⟩
  · exact key
  · intro g v2 K hi q7 q8 hle hTL
    refine sw_iload_n dX1_findPairsAndThrees_12 rfl ?_
    refine sw_aload_n dX1_findPairsAndThrees_13 rfl ?_
    refine sw_getI dX1_findPairsAndThrees_14 flX1_9 ⟨by decide, _, rfl, rfl⟩ ?_
    rw [hi 0 (by decide) (by decide), V.2.1]
    refine sw_icmpN_ge (tgt := 74) dX1_findPairsAndThrees_17 (by decide) (by omega) (by omega) (fun hc => ?_) (fun hc => ?_)
    · refine sw_vret dX1_findPairsAndThrees_74 rfl rfl rfl ?_
      exact ⟨rfl, K, hi, q7, q8, by omega, hTL.1, fun x y z h1 h2 h3 _ ht => hTL.2 x y z h1 h2 h3 (by omega) ht⟩
    · omega
  · intro a ha ih g v2 K hi q7 q8 hle hTL
    refine sw_iload_n dX1_findPairsAndThrees_12 rfl ?_
    refine sw_aload_n dX1_findPairsAndThrees_13 rfl ?_
    refine sw_getI dX1_findPairsAndThrees_14 flX1_9 ⟨by decide, _, rfl, rfl⟩ ?_
    rw [hi 0 (by decide) (by decide), V.2.1]
    refine sw_icmpN_ge (tgt := 74) dX1_findPairsAndThrees_17 (by decide) (by omega) (by omega) (fun hc => ?_) (fun hc => ?_)
    · omega
    · clear hc
      have z2 : fb_sm (f2 (ox h) a) (a + 1) = 0 := fb_sm_0 (fun k hk => by unfold f2; rw [if_neg (fun q => by omega)])
      have z3 : fb_sm (fun b => fb_sm (f3 (ox h) a b) r) (a + 1) = 0 := fb_sm_0 (fun k hk => fb_sm_0 (fun c _ => by unfold f3; rw [if_neg (fun q => by omega)]))
      have ec3 : c3 (r - a) = c3 (r - (a + 1)) + c2 (r - (a + 1)) := by
        rw [show r - a = (r - (a + 1)) + 1 by omega]
        rfl
      refine sw_iload_n dX1_findPairsAndThrees_20 rfl ?_
      refine sw_iconst (v := nI 1) dX1_findPairsAndThrees_21 (by decide) ?_
      first | refine sw_iaddN dX1_findPairsAndThrees_22 ?_ | refine sw_iadd dX1_findPairsAndThrees_22 ?_
      refine sw_istore_n dX1_findPairsAndThrees_23 (by decide) rfl ?_
      have key2 := lp_up (n := r) (S := fun b => a + 1 ≤ b → ∀ g, KR h g → (∀ i, i ≠ 7 → i ≠ 8 → g 13 i = h 13 i) → g 13 7 = nI (fb_sm (S2 (ox h) r) a + fb_sm (f2 (ox h) a) b) → g 13 8 = nI (fb_sm (S3 (ox h) r) a + fb_sm (fun b => fb_sm (f3 (ox h) a b) r) b) → fb_sm (S3 (ox h) r) a + fb_sm (fun b => fb_sm (f3 (ox h) a b) r) b + c2 (r - b) + c3 (r - (a + 1)) ≤ 220 → TLs (g 18) (fb_sm (S3 (ox h) r) a + fb_sm (fun b => fb_sm (f3 (ox h) a b) r) b) (ox h) r (fun x y _ => x < a ∨ (x = a ∧ y < b)) → SW jX1_findPairsAndThrees E0 (Zm (fun v g => v = none ∧ PT h g r)) 24 [some (.ref 13), some (.int (nI a)), some (.int (nI b))] [] g) ?_ ?_ (a + 1) (by omega) (Nat.le_refl _) g K hi (by rw [z2]; exact q7) (by rw [z3]; exact q8) (by rw [z3]; omega) (by
        rw [z3]
        refine ⟨hTL.1, fun x y z h1 h2 h3 hD ht => hTL.2 x y z h1 h2 h3 ?_ ht⟩
        rcases hD with q | q <;> omega)
      · exact key2
      · intro _ g K hi q7 q8 hle hTL
        refine sw_iload_n dX1_findPairsAndThrees_24 rfl ?_
        refine sw_aload_n dX1_findPairsAndThrees_25 rfl ?_
        refine sw_getI dX1_findPairsAndThrees_26 flX1_9 ⟨by decide, _, rfl, rfl⟩ ?_
        rw [hi 0 (by decide) (by decide), V.2.1]
        refine sw_icmpN_ge (tgt := 68) dX1_findPairsAndThrees_29 (by decide) (by omega) (by omega) (fun hc => ?_) (fun hc => ?_)
        · first | refine sw_iincN (b := 1) dX1_findPairsAndThrees_68 rfl (by decide) rfl ?_ | refine sw_iinc dX1_findPairsAndThrees_68 rfl rfl (by decide) rfl ?_
          refine sw_goto (tgt := 12) dX1_findPairsAndThrees_71 (by decide) ?_
          refine ih g _ K hi q7 q8 ?_ ?_
          · rw [Nat.sub_self] at hle
            exact hle
          · refine ⟨hTL.1, fun x y z h1 h2 h3 hD ht => hTL.2 x y z h1 h2 h3 ?_ ht⟩
            rcases (show x < a ∨ x = a by omega) with q | q
            · exact Or.inl q
            · exact Or.inr ⟨q, by omega⟩
        · omega
      · intro b hb ih2 hab g K hi q7 q8 hle hTL
        have VG := K.rv (hi 0 (by decide) (by decide)) V
        have hbit := bm_bit (ox h a) hb
        have la := V.lt a
        have ec2 : c2 (r - b) = c2 (r - (b + 1)) + (r - (b + 1)) := by
          rw [show r - b = (r - (b + 1)) + 1 by omega]
          rfl
        refine sw_iload_n dX1_findPairsAndThrees_24 rfl ?_
        refine sw_aload_n dX1_findPairsAndThrees_25 rfl ?_
        refine sw_getI dX1_findPairsAndThrees_26 flX1_9 ⟨by decide, _, rfl, rfl⟩ ?_
        rw [hi 0 (by decide) (by decide), V.2.1]
        refine sw_icmpN_ge (tgt := 68) dX1_findPairsAndThrees_29 (by decide) (by omega) (by omega) (fun hc => ?_) (fun hc => ?_)
        · omega
        · clear hc
          refine sw_aload_n dX1_findPairsAndThrees_32 rfl ?_
          refine sw_getR dX1_findPairsAndThrees_33 flX1_25 ⟨by decide, _, rfl, rfl⟩ ?_
          refine sw_iload_n dX1_findPairsAndThrees_36 rfl ?_
          refine sw_iald dX1_findPairsAndThrees_37 rfl (by simp only [plA]; omega) ?_
          rw [show g 17 a = nI (bm (ox h a) r) by rw [K 17 (by decide) (by decide)]; exact V.2.2 a ha]
          refine sw_iload_n dX1_findPairsAndThrees_38 rfl ?_
          first | refine sw_ishrN dX1_findPairsAndThrees_39 (by omega) (by omega) ?_ | refine sw_ishr dX1_findPairsAndThrees_39 ?_
          refine sw_iconst (v := nI 1) dX1_findPairsAndThrees_40 (by decide) ?_
          first | refine sw_iand1 dX1_findPairsAndThrees_41 ?_ | refine sw_iand dX1_findPairsAndThrees_41 ?_
          refine sw_iconst (v := nI 1) dX1_findPairsAndThrees_42 (by decide) ?_
          refine sw_icmpN_ne (tgt := 62) dX1_findPairsAndThrees_43 (by decide) (by omega) (by omega) (fun hc => ?_) (fun hc => ?_)
          · have hno : ox h a b = false := by
              cases hq : ox h a b with
              | false => rfl
              | true => rw [hq] at hbit; exact absurd hbit hc
            have ef2 : fb_sm (f2 (ox h) a) (b + 1) = fb_sm (f2 (ox h) a) b := by
              have : f2 (ox h) a b = 0 := by unfold f2; rw [if_neg (fun q => by rw [hno] at q; exact absurd q.2 (by decide))]
              simp only [fb_sm]
              omega
            have ef3 : fb_sm (fun b => fb_sm (f3 (ox h) a b) r) (b + 1) = fb_sm (fun b => fb_sm (f3 (ox h) a b) r) b := by
              have : fb_sm (f3 (ox h) a b) r = 0 := fb_sm_0 (fun c _ => by
                unfold f3 trS
                rw [if_neg (fun q => by rw [hno, Bool.false_and] at q; exact absurd q.2.2 (by decide))])
              simp only [fb_sm]
              omega
            first | refine sw_iincN (b := 1) dX1_findPairsAndThrees_62 rfl (by decide) rfl ?_ | refine sw_iinc dX1_findPairsAndThrees_62 rfl rfl (by decide) rfl ?_
            refine sw_goto (tgt := 24) dX1_findPairsAndThrees_65 (by decide) ?_
            refine ih2 (by omega) g K hi (by rw [ef2]; exact q7) (by rw [ef3]; exact q8) (by rw [ef3]; omega) ?_
            rw [ef3]
            refine ⟨hTL.1, fun x y z h1 h2 h3 hD ht => hTL.2 x y z h1 h2 h3 ?_ ht⟩
            rcases hD with q | ⟨qa, qb⟩
            · exact Or.inl q
            · refine Or.inr ⟨qa, ?_⟩
              rcases (show y < b ∨ y = b by omega) with q | q
              · exact q
              · subst qa q
                unfold trS at ht
                rw [hno, Bool.false_and] at ht
                exact absurd ht (by decide)
          · have hyes : ox h a b = true := by
              cases hq : ox h a b with
              | true => rfl
              | false => rw [hq] at hbit; rw [hbit] at hc; exact absurd hc (by decide)
            clear hc
            have ef2 : fb_sm (f2 (ox h) a) (b + 1) = fb_sm (f2 (ox h) a) b + 1 := by
              have : f2 (ox h) a b = 1 := by unfold f2; rw [if_pos ⟨by omega, hyes⟩]
              simp only [fb_sm]
              omega
            have ef3 : fb_sm (fun b => fb_sm (f3 (ox h) a b) r) (b + 1) = fb_sm (fun b => fb_sm (f3 (ox h) a b) r) b + fb_sm (f3 (ox h) a b) r := rfl
            refine sw_aload_n dX1_findPairsAndThrees_46 rfl ?_
            refine sw_dup dX1_findPairsAndThrees_47 rfl ?_
            refine sw_getI dX1_findPairsAndThrees_48 flX1_35 ⟨by decide, _, rfl, rfl⟩ ?_
            rw [q7]
            refine sw_iconst (v := nI 1) dX1_findPairsAndThrees_51 (by decide) ?_
            first | refine sw_iaddN dX1_findPairsAndThrees_52 ?_ | refine sw_iadd dX1_findPairsAndThrees_52 ?_
            refine sw_put dX1_findPairsAndThrees_53 fpX1_35 ⟨by decide, _, rfl, rfl⟩ rfl rfl ?_
            generalize hgf : hset g 13 7 (nI (fb_sm (S2 (ox h) r) a + fb_sm (f2 (ox h) a) b + 1)) = f
            have Kf : KR h f := fun k k1 k2 => by rw [← hgf, hset_off k k1]; exact K k k1 k2
            have hif : ∀ i, i ≠ 7 → i ≠ 8 → f 13 i = h 13 i := fun i h7 h8 => by rw [← hgf, hset_i h7]; exact hi i h7 h8
            have f7 : f 13 7 = nI (fb_sm (S2 (ox h) r) a + fb_sm (f2 (ox h) a) b + 1) := by rw [← hgf, hset_at]
            have f8 : f 13 8 = nI (fb_sm (S3 (ox h) r) a + fb_sm (fun b => fb_sm (f3 (ox h) a b) r) b) := by rw [← hgf, hset_i (by decide)]; exact q8
            have f18 : f 18 = g 18 := by rw [← hgf, hset_off 18 (by decide)]
            have Vf := Kf.rv (hif 0 (by decide) (by decide)) V
            refine sw_aload_n dX1_findPairsAndThrees_56 rfl ?_
            refine sw_iload_n dX1_findPairsAndThrees_57 rfl ?_
            refine sw_iload_n dX1_findPairsAndThrees_58 rfl ?_
            refine sw_callV (i := 0) (c_findThreesOf Vf (a := a) (b := b) (by omega) hb f8 (by omega) (by rw [Kf.oxe]; exact hyes) (by rw [Kf.oxe, f18]; exact hTL)) dX1_findPairsAndThrees_59 lkX1_69 (by decide) ⟨by decide, _, rfl, rfl⟩ rfl rfl rfl (Nat.le_of_ble_eq_true rfl) (fun v h1 hq => ?_)
            obtain ⟨rfl, Kq, hiq, q8q, hleq, hTLq⟩ := hq
            rw [Kf.oxe] at q8q hleq hTLq
            first | refine sw_iincN (b := 1) dX1_findPairsAndThrees_62 rfl (by decide) rfl ?_ | refine sw_iinc dX1_findPairsAndThrees_62 rfl rfl (by decide) rfl ?_
            refine sw_goto (tgt := 24) dX1_findPairsAndThrees_65 (by decide) ?_
            refine ih2 (by omega) h1 (fun k k1 k2 => by rw [Kq k k1 k2]; exact Kf k k1 k2) (fun i h7 h8 => by rw [hiq i h8]; exact hif i h7 h8) ?_ ?_ ?_ ?_
            · rw [hiq 7 (by decide), f7, ef2, Nat.add_assoc]
            · rw [q8q, ef3, Nat.add_assoc]
            · rw [ef3]
              omega
            · rw [ef3, ← Nat.add_assoc]
              exact hTLq
/-- the red ones of m are COLOURS of R rays -/
def triOk (e : Nat → Nat → Bool) (R m : Nat) : Prop := ∀ a b c, a < b → b < c → c < R → trS e a b c = true → pop (m &&& mk3 a b c) = 1
def sqB (e : Nat → Nat → Bool) (R m : Nat) : Bool := allB (fun i => decide (m / 2 ^ i % 2 = 1 → bm (e i) R &&& m = 0)) R
def triB (e : Nat → Nat → Bool) (R m : Nat) : Bool := allB (fun a => allB (fun b => allB (fun c => decide (a < b → b < c → trS e a b c = true → pop (m &&& mk3 a b c) = 1)) R) R) R
theorem triB_t {e : Nat → Nat → Bool} {R m : Nat} : triB e R m = true ↔ triOk e R m := by
  unfold triB triOk
  rw [allB_t]
  constructor
  · intro h a b c h1 h2 h3 ht
    have q := allB_t.mp (allB_t.mp (h a (by omega)) b (by omega)) c h3
    exact of_decide_eq_true q h1 h2 ht
  · intro h a ha
    exact allB_t.mpr (fun b hb => allB_t.mpr (fun c hc => decide_eq_true (fun h1 h2 ht => h a b c h1 h2 hc ht)))
def colB (e : Nat → Nat → Bool) (R m : Nat) : Bool := triB e R m && sqB e R m
theorem mk3_lt : ∀ a, a < 12 → ∀ b, b < 12 → ∀ c, c < 12 → mk3 a b c < 4096 := by decide +kernel
theorem c_areColours (V : RV h r) {n : Nat} (hn : h 13 8 = nI n) (hn2 : n ≤ 220) (hT : TLs (h 18) n (ox h) r (fun _ _ _ => True)) {m : Nat} (hm : m < 4096) : Ctr jX1_areColours [.ref 13, .int (nI m)] h (Ret (bI (colB (ox h) r m)) h) := by
  have hr := V.1
  have hmk : ∀ i, i < n → ∃ a b c, a < b ∧ b < c ∧ c < r ∧ trS (ox h) a b c = true ∧ h 18 i = nI (mk3 a b c) := hT.1
  refine ctr_start (by decide) (Nat.le_of_ble_eq_true rfl) rfl rfl ?_
  show SW jX1_areColours E0 _ 0 [some (.ref 13), some (.int (nI m)), none] [] _
  refine sw_iconst (v := nI 0) dX1_areColours_0 (by decide) ?_
  refine sw_istore_n dX1_areColours_1 (by decide) rfl ?_
  have key := lp_up (n := n) (S := fun i => (∀ j a b c, j < i → h 18 j = nI (mk3 a b c) → a < 12 → b < 12 → c < 12 → pop (m &&& mk3 a b c) = 1) → SW jX1_areColours E0 (Zm (Ret (bI (colB (ox h) r m)) h)) 2 [some (.ref 13), some (.int (nI m)), some (.int (nI i))] [] h) ?_ ?_ 0 (Nat.zero_le _) (fun j a b c hj => absurd hj (Nat.not_lt_zero _))
  · exact key
  · intro hall
    have htri : triB (ox h) r m = true := triB_t.mpr (fun a b c h1 h2 h3 ht => by
      obtain ⟨i, hi, hie⟩ := hT.2 a b c h1 h2 h3 trivial ht
      exact hall i a b c hi hie (by omega) (by omega) (by omega))
    refine sw_iload_n dX1_areColours_2 rfl ?_
    refine sw_aload_n dX1_areColours_3 rfl ?_
    refine sw_getI dX1_areColours_4 flX1_38 ⟨by decide, _, rfl, rfl⟩ ?_
    rw [hn]
    refine sw_icmpN_ge (tgt := 33) dX1_areColours_7 (by decide) (by omega) (by omega) (fun hc => ?_) (fun hc => ?_)
    · clear hc
      refine sw_iconst (v := nI 0) dX1_areColours_33 (by decide) ?_
      refine sw_istore_n dX1_areColours_34 (by decide) rfl ?_
      have key2 := lp_up (n := r) (S := fun i => allB (fun i => decide (m / 2 ^ i % 2 = 1 → bm (ox h i) r &&& m = 0)) i = true → SW jX1_areColours E0 (Zm (Ret (bI (colB (ox h) r m)) h)) 35 [some (.ref 13), some (.int (nI m)), some (.int (nI i))] [] h) ?_ ?_ 0 (Nat.zero_le _) rfl
      · exact key2
      · intro ha
        refine sw_iload_n dX1_areColours_35 rfl ?_
        refine sw_aload_n dX1_areColours_36 rfl ?_
        refine sw_getI dX1_areColours_37 flX1_9 ⟨by decide, _, rfl, rfl⟩ ?_
        rw [V.2.1]
        refine sw_icmpN_ge (tgt := 71) dX1_areColours_40 (by decide) (by omega) (by omega) (fun hc => ?_) (fun hc => ?_)
        · refine sw_iconst (v := nI 1) dX1_areColours_71 (by decide) ?_
          refine sw_zret dX1_areColours_72 rfl rfl rfl rfl ?_
          exact ⟨by unfold colB sqB; rw [htri, ha]; rfl, rfl⟩
        · omega
      · intro i hi ih ha
        have hand : bm (ox h i) r &&& m < 4096 := Nat.lt_of_le_of_lt Nat.and_le_right hm
        have nx : (m / 2 ^ i % 2 = 1 → bm (ox h i) r &&& m = 0) → SW jX1_areColours E0 (Zm (Ret (bI (colB (ox h) r m)) h)) 65 [some (.ref 13), some (.int (nI m)), some (.int (nI i))] [] h := fun q => by
          first | refine sw_iincN (b := 1) dX1_areColours_65 rfl (by decide) rfl ?_ | refine sw_iinc dX1_areColours_65 rfl rfl (by decide) rfl ?_
          refine sw_goto (tgt := 35) dX1_areColours_68 (by decide) ?_
          exact ih (by simp only [allB, ha, Bool.true_and]; exact decide_eq_true q)
        refine sw_iload_n dX1_areColours_35 rfl ?_
        refine sw_aload_n dX1_areColours_36 rfl ?_
        refine sw_getI dX1_areColours_37 flX1_9 ⟨by decide, _, rfl, rfl⟩ ?_
        rw [V.2.1]
        refine sw_icmpN_ge (tgt := 71) dX1_areColours_40 (by decide) (by omega) (by omega) (fun hc => ?_) (fun hc => ?_)
        · omega
        · clear hc
          refine sw_iload_n dX1_areColours_43 rfl ?_
          refine sw_iload_n dX1_areColours_44 rfl ?_
          first | refine sw_ishrN dX1_areColours_45 (by omega) (by omega) ?_ | refine sw_ishr dX1_areColours_45 ?_
          refine sw_iconst (v := nI 1) dX1_areColours_46 (by decide) ?_
          first | refine sw_iand1 dX1_areColours_47 ?_ | refine sw_iand dX1_areColours_47 ?_
          refine sw_iconst (v := nI 1) dX1_areColours_48 (by decide) ?_
          refine sw_icmpN_ne (tgt := 65) dX1_areColours_49 (by decide) (by omega) (by omega) (fun hc => ?_) (fun hc => ?_)
          · exact nx (fun q => absurd q hc)
          · have hb := hc
            clear hc
            refine sw_aload_n dX1_areColours_52 rfl ?_
            refine sw_getR dX1_areColours_53 flX1_25 ⟨by decide, _, rfl, rfl⟩ ?_
            refine sw_iload_n dX1_areColours_56 rfl ?_
            refine sw_iald dX1_areColours_57 rfl (by simp only [plA]; omega) ?_
            rw [V.2.2 i hi]
            refine sw_iload_n dX1_areColours_58 rfl ?_
            first | refine sw_iandN dX1_areColours_59 ?_ | refine sw_iand dX1_areColours_59 ?_
            refine sw_if_eq (tgt := 65) dX1_areColours_60 (by decide) (fun hc => ?_) (fun hc => ?_)
            · exact nx (fun _ => (nI_eq (by omega) (by omega)).mp hc)
            · refine sw_iconst (v := nI 0) dX1_areColours_63 (by decide) ?_
              refine sw_zret dX1_areColours_64 rfl rfl rfl rfl ?_
              exact ⟨by unfold colB sqB; rw [allB_f hi (decide_eq_false (fun q => hc (by rw [q hb]; rfl))), Bool.and_false]; rfl, rfl⟩
    · omega
  · intro i hi ih hall
    obtain ⟨a, b, c, h1, h2, h3, htr, hie⟩ := hmk i hi
    have hl := mk3_lt a (by omega) b (by omega) c (by omega)
    have hand : m &&& mk3 a b c < 4096 := Nat.lt_of_le_of_lt Nat.and_le_left hm
    refine sw_iload_n dX1_areColours_2 rfl ?_
    refine sw_aload_n dX1_areColours_3 rfl ?_
    refine sw_getI dX1_areColours_4 flX1_38 ⟨by decide, _, rfl, rfl⟩ ?_
    rw [hn]
    refine sw_icmpN_ge (tgt := 33) dX1_areColours_7 (by decide) (by omega) (by omega) (fun hc => ?_) (fun hc => ?_)
    · omega
    · clear hc
      refine sw_iload_n dX1_areColours_10 rfl ?_
      refine sw_aload_n dX1_areColours_11 rfl ?_
      refine sw_getR dX1_areColours_12 flX1_28 ⟨by decide, _, rfl, rfl⟩ ?_
      refine sw_iload_n dX1_areColours_15 rfl ?_
      refine sw_iald dX1_areColours_16 rfl (by simp only [plA]; omega) ?_
      rw [hie]
      refine sw_iandN dX1_areColours_17 ?_
      refine sw_csi (c_bitCount (by omega)) dX1_areColours_18 lkX1_57 (by decide) rfl rfl (Nat.le_of_ble_eq_true rfl) ?_
      refine sw_iconst (v := nI 1) dX1_areColours_21 (by decide) ?_
      have hpop : pop (m &&& mk3 a b c) ≤ 16 := bs_le _ 16
      refine sw_icmpN_eq (tgt := 27) dX1_areColours_22 (by decide) (by omega) (by omega) (fun hc => ?_) (fun hc => ?_)
      · first | refine sw_iincN (b := 1) dX1_areColours_27 rfl (by decide) rfl ?_ | refine sw_iinc dX1_areColours_27 rfl rfl (by decide) rfl ?_
        refine sw_goto (tgt := 2) dX1_areColours_30 (by decide) ?_
        refine ih (fun j a' b' c' hj hje ha' hb' hc' => ?_)
        rcases (show j < i ∨ j = i by omega) with q | q
        · exact hall j a' b' c' q hje ha' hb' hc'
        · subst q
          have e := hie.symm.trans hje
          have hl2 := mk3_lt a' ha' b' hb' c' hc'
          rw [← (nI_eq (by omega) (by omega)).mp e]
          exact hc
      · refine sw_iconst (v := nI 0) dX1_areColours_25 (by decide) ?_
        refine sw_zret dX1_areColours_26 rfl rfl rfl rfl ?_
        have hf : triB (ox h) r m = false := by
          cases q : triB (ox h) r m with
          | false => rfl
          | true => exact absurd (triB_t.mp q a b c h1 h2 h3 htr) hc
        exact ⟨by unfold colB; rw [hf, Bool.false_and]; rfl, rfl⟩
end RAYS
