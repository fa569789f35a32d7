/-! rays: pairs, threes, colours -/
def trS (e : Nat → Nat → Bool) (a b c : Nat) : Bool := e a b && (e a c && e b c)
def mk3 (a b c : Nat) : Nat := 2 ^ a ||| 2 ^ b ||| 2 ^ c
def f2 (e : Nat → Nat → Bool) (a b : Nat) : Nat := if a < b ∧ e a b = true then 1 else 0
def f3 (e : Nat → Nat → Bool) (a b c : Nat) : Nat := if a < b ∧ b < c ∧ trS e a b c = true then 1 else 0
/-- the row th holds, below n, just the threes of R rays that D tells -/
def TLs (th : Nat → Int32) (n : Nat) (e : Nat → Nat → Bool) (R : Nat) (D : Nat → Nat → Nat → Prop) : Prop := (∀ i, i < n → ∃ a b c, a < b ∧ b < c ∧ c < R ∧ trS e a b c = true ∧ th i = nI (mk3 a b c)) ∧ ∀ a b c, a < b → b < c → c < R → D a b c → trS e a b c = true → ∃ i, i < n ∧ th i = nI (mk3 a b c)
theorem fb_sm_0 {f : Nat → Nat} : ∀ {n : Nat}, (∀ k, k < n → f k = 0) → fb_sm f n = 0
  | 0, _ => rfl
  | n + 1, h => by simp only [fb_sm]; rw [fb_sm_0 (fun k hk => h k (by omega)), h n (by omega)]
theorem p32 {i : Nat} (h : i < 12) : 1 * 2 ^ i < 2 ^ 32 := by
  have := pow12 (show i ≤ 12 by omega)
  omega
section RAYS
variable {h : Hp} {r : Nat}
/-- cells that a walk over the rays leaves alone -/
def KR (h g : Hp) : Prop := ∀ k, k ≠ 13 → k ≠ 18 → g k = h k
theorem KR.oxe {h g : Hp} (K : KR h g) : ox g = ox h := by
  funext i j
  unfold ox
  rw [K 14 (by decide) (by decide), K 15 (by decide) (by decide), K 16 (by decide) (by decide)]
theorem KR.rv {h g : Hp} (K : KR h g) (hz : g 13 0 = h 13 0) (V : RV h r) : RV g r := by
  refine ⟨V.1, by rw [hz]; exact V.2.1, fun i hi => ?_⟩
  rw [K.oxe, K 17 (by decide) (by decide)]
  exact V.2.2 i hi
theorem c_findThreesOf (V : RV h r) {a b n : Nat} (hab : a < b) (hb : b < r) (hn : h 13 8 = nI n) (hn2 : n + (r - (b + 1)) ≤ 220) (he : ox h a b = true) (hT : TLs (h 18) n (ox h) r (fun x y _ => x < a ∨ (x = a ∧ y < b))) : Ctr jX1_findThreesOf [.ref 13, .int (nI a), .int (nI b)] h (fun v g => v = none ∧ KR h g ∧ (∀ i, i ≠ 8 → g 13 i = h 13 i) ∧ g 13 8 = nI (n + fb_sm (f3 (ox h) a b) r) ∧ n + fb_sm (f3 (ox h) a b) r ≤ n + (r - (b + 1)) ∧ TLs (g 18) (n + fb_sm (f3 (ox h) a b) r) (ox h) r (fun x y _ => x < a ∨ (x = a ∧ y < b + 1))) := by
  have hr := V.1
  have e1 := V.2.2 a (by omega)
  have e2 := V.2.2 b hb
  have l1 := V.lt a
  have l2 := V.lt b
  have hand : bm (ox h a) r &&& bm (ox h b) r < 4096 := Nat.lt_of_le_of_lt Nat.and_le_left l1
  have hbit : ∀ t, t < r → (bm (ox h a) r &&& bm (ox h b) r) / 2 ^ t % 2 = if ox h a t && ox h b t then 1 else 0 := fun t ht => by
    have q1 := bm_bit (ox h a) ht
    have q2 := bm_bit (ox h b) ht
    rw [← Nat.shiftRight_eq_div_pow, Nat.shiftRight_and_distrib, ← Nat.and_one_is_mod, Nat.shiftRight_eq_div_pow, Nat.shiftRight_eq_div_pow, Nat.and_one_is_mod]
    have q3 : ∀ x y : Nat, (x &&& y) % 2 = (x % 2) &&& (y % 2) := fun x y => by
      have := Nat.and_mod_two_pow (a := x) (b := y) (n := 1)
      simpa using this
    rw [q3, q1, q2]
    cases ox h a t <;> cases ox h b t <;> rfl
  have hstart : fb_sm (f3 (ox h) a b) (b + 1) = 0 := fb_sm_0 (fun k hk => by unfold f3; rw [if_neg (fun q => by omega)])
  refine ctr_start (by decide) (Nat.le_of_ble_eq_true rfl) rfl rfl ?_
  show SW jX1_findThreesOf E0 _ 0 [some (.ref 13), some (.int (nI a)), some (.int (nI b)), none, none] [] _
  refine sw_aload_n dX1_findThreesOf_0 rfl ?_
  refine sw_getR dX1_findThreesOf_1 flX1_25 ⟨by decide, _, rfl, rfl⟩ ?_
  refine sw_iload_n dX1_findThreesOf_4 rfl ?_
  refine sw_iald dX1_findThreesOf_5 rfl (by simp only [plA]; omega) ?_
  rw [e1]
  refine sw_aload_n dX1_findThreesOf_6 rfl ?_
  refine sw_getR dX1_findThreesOf_7 flX1_25 ⟨by decide, _, rfl, rfl⟩ ?_
  refine sw_iload_n dX1_findThreesOf_10 rfl ?_
  refine sw_iald dX1_findThreesOf_11 rfl (by simp only [plA]; omega) ?_
  rw [e2]
  refine sw_iandN dX1_findThreesOf_12 ?_
  refine sw_istore_n dX1_findThreesOf_13 (by decide) rfl ?_
  refine sw_iload_n dX1_findThreesOf_14 rfl ?_
  refine sw_iconst (v := nI 1) dX1_findThreesOf_15 (by decide) ?_
  first | refine sw_iaddN dX1_findThreesOf_16 ?_ | refine sw_iadd dX1_findThreesOf_16 ?_
  refine sw_istore dX1_findThreesOf_17 (by decide) rfl ?_
  have key := lp_up (n := r) (S := fun t => b + 1 ≤ t → ∀ g, KR h g → (∀ i, i ≠ 8 → g 13 i = h 13 i) → g 13 8 = nI (n + fb_sm (f3 (ox h) a b) t) → fb_sm (f3 (ox h) a b) t ≤ t - (b + 1) → TLs (g 18) (n + fb_sm (f3 (ox h) a b) t) (ox h) r (fun x y z => x < a ∨ (x = a ∧ (y < b ∨ (y = b ∧ z < t)))) → SW jX1_findThreesOf E0 (Zm (fun v g => v = none ∧ KR h g ∧ (∀ i, i ≠ 8 → g 13 i = h 13 i) ∧ g 13 8 = nI (n + fb_sm (f3 (ox h) a b) r) ∧ n + fb_sm (f3 (ox h) a b) r ≤ n + (r - (b + 1)) ∧ TLs (g 18) (n + fb_sm (f3 (ox h) a b) r) (ox h) r (fun x y _ => x < a ∨ (x = a ∧ y < b + 1)))) 19 [some (.ref 13), some (.int (nI a)), some (.int (nI b)), some (.int (nI (bm (ox h a) r &&& bm (ox h b) r))), some (.int (nI t))] [] g) ?_ ?_ (b + 1) (by omega) (Nat.le_refl _) h (fun _ _ _ => rfl) (fun _ _ => rfl) (by rw [hstart]; exact hn) (by rw [hstart]; omega) (by
    rw [hstart]
    refine ⟨hT.1, fun x y z h1 h2 h3 hD ht => hT.2 x y z h1 h2 h3 ?_ ht⟩
    rcases hD with q | ⟨q1, q2 | ⟨q2, q3⟩⟩
    · exact Or.inl q
    · exact Or.inr ⟨q1, q2⟩
    · omega)
  · exact key
  · intro _ g K hi g8 hle hTL
    refine sw_iload dX1_findThreesOf_19 rfl ?_
    refine sw_aload_n dX1_findThreesOf_21 rfl ?_
    refine sw_getI dX1_findThreesOf_22 flX1_9 ⟨by decide, _, rfl, rfl⟩ ?_
    rw [hi 0 (by decide), V.2.1]
    refine sw_icmpN_ge (tgt := 85) dX1_findThreesOf_25 (by decide) (by omega) (by omega) (fun hc => ?_) (fun hc => ?_)
    · refine sw_vret dX1_findThreesOf_85 rfl rfl rfl ?_
      refine ⟨rfl, K, hi, g8, by omega, hTL.1, fun x y z h1 h2 h3 hD ht => hTL.2 x y z h1 h2 h3 ?_ ht⟩
      rcases hD with q | ⟨q1, q2⟩
      · exact Or.inl q
      · refine Or.inr ⟨q1, ?_⟩
        rcases (show y < b ∨ y = b by omega) with q | q
        · exact Or.inl q
        · exact Or.inr ⟨q, h3⟩
    · omega
  · intro t ht ih hbt g K hi g8 hle hTL
    have hb2 := hbit t ht
    refine sw_iload dX1_findThreesOf_19 rfl ?_
    refine sw_aload_n dX1_findThreesOf_21 rfl ?_
    refine sw_getI dX1_findThreesOf_22 flX1_9 ⟨by decide, _, rfl, rfl⟩ ?_
    rw [hi 0 (by decide), V.2.1]
    refine sw_icmpN_ge (tgt := 85) dX1_findThreesOf_25 (by decide) (by omega) (by omega) (fun hc => ?_) (fun hc => ?_)
    · omega
    · clear hc
      refine sw_iload_n dX1_findThreesOf_28 rfl ?_
      refine sw_iload dX1_findThreesOf_29 rfl ?_
      first | refine sw_ishrN dX1_findThreesOf_31 (by omega) (by omega) ?_ | refine sw_ishr dX1_findThreesOf_31 ?_
      refine sw_iconst (v := nI 1) dX1_findThreesOf_32 (by decide) ?_
      first | refine sw_iand1 dX1_findThreesOf_33 ?_ | refine sw_iand dX1_findThreesOf_33 ?_
      refine sw_iconst (v := nI 1) dX1_findThreesOf_34 (by decide) ?_
      refine sw_icmpN_ne (tgt := 79) dX1_findThreesOf_35 (by decide) (by omega) (by omega) (fun hc => ?_) (fun hc => ?_)
      · have hno : (ox h a t && ox h b t) = false := by
          cases hq : (ox h a t && ox h b t) with
          | false => rfl
          | true => rw [hq] at hb2; exact absurd hb2 hc
        have ef : fb_sm (f3 (ox h) a b) (t + 1) = fb_sm (f3 (ox h) a b) t := by
          have : f3 (ox h) a b t = 0 := by
            unfold f3 trS
            rw [if_neg (fun q => by rw [hno, Bool.and_false] at q; exact absurd q.2.2 (by decide))]
          simp only [fb_sm]
          omega
        first | refine sw_iincN (b := 1) dX1_findThreesOf_79 rfl (by decide) rfl ?_ | refine sw_iinc dX1_findThreesOf_79 rfl rfl (by decide) rfl ?_
        refine sw_goto (tgt := 19) dX1_findThreesOf_82 (by decide) ?_
        refine ih (by omega) g K hi (by rw [ef]; exact g8) (by rw [ef]; omega) ?_
        rw [ef]
        refine ⟨hTL.1, fun x y z h1 h2 h3 hD htr => hTL.2 x y z h1 h2 h3 ?_ htr⟩
        rcases hD with q | ⟨q1, q2 | ⟨q2, q3⟩⟩
        · exact Or.inl q
        · exact Or.inr ⟨q1, Or.inl q2⟩
        · refine Or.inr ⟨q1, Or.inr ⟨q2, ?_⟩⟩
          rcases (show z < t ∨ z = t by omega) with q | q
          · exact q
          · subst q1 q2 q
            unfold trS at htr
            rw [hno, Bool.and_false] at htr
            exact absurd htr (by decide)
      · have hyes : (ox h a t && ox h b t) = true := by
          cases hq : (ox h a t && ox h b t) with
          | true => rfl
          | false => rw [hq] at hb2; rw [hb2] at hc; exact absurd hc (by decide)
        have htr : trS (ox h) a b t = true := by unfold trS; rw [he, hyes]; rfl
        have ef : fb_sm (f3 (ox h) a b) (t + 1) = fb_sm (f3 (ox h) a b) t + 1 := by
          have : f3 (ox h) a b t = 1 := by
            unfold f3
            rw [if_pos ⟨hab, by omega, htr⟩]
          simp only [fb_sm]
          omega
        clear hc
        have p1 := p32 (show a < 12 by omega)
        have p2 := p32 (show b < 12 by omega)
        have p3 := p32 (show t < 12 by omega)
        refine sw_aload_n dX1_findThreesOf_38 rfl ?_
        refine sw_getI dX1_findThreesOf_39 flX1_38 ⟨by decide, _, rfl, rfl⟩ ?_
        rw [g8]
        refine sw_sipush (v := nI 220) dX1_findThreesOf_42 (by decide) ?_
        refine sw_icmpN_ge (tgt := 79) dX1_findThreesOf_45 (by decide) (by omega) (by omega) (fun hc => ?_) (fun hc => ?_)
        · omega
        · clear hc
          refine sw_aload_n dX1_findThreesOf_48 rfl ?_
          refine sw_getR dX1_findThreesOf_49 flX1_28 ⟨by decide, _, rfl, rfl⟩ ?_
          refine sw_aload_n dX1_findThreesOf_52 rfl ?_
          refine sw_getI dX1_findThreesOf_53 flX1_38 ⟨by decide, _, rfl, rfl⟩ ?_
          rw [g8]
          refine sw_iconst (v := nI 1) dX1_findThreesOf_56 (by decide) ?_
          refine sw_iload_n dX1_findThreesOf_57 rfl ?_
          first | refine sw_ishlN dX1_findThreesOf_58 (by omega) p1 ?_ | refine sw_ishl dX1_findThreesOf_58 ?_
          refine sw_iconst (v := nI 1) dX1_findThreesOf_59 (by decide) ?_
          refine sw_iload_n dX1_findThreesOf_60 rfl ?_
          first | refine sw_ishlN dX1_findThreesOf_61 (by omega) p2 ?_ | refine sw_ishl dX1_findThreesOf_61 ?_
          refine sw_iorN dX1_findThreesOf_62 ?_
          refine sw_iconst (v := nI 1) dX1_findThreesOf_63 (by decide) ?_
          refine sw_iload dX1_findThreesOf_64 rfl ?_
          first | refine sw_ishlN dX1_findThreesOf_66 (by omega) p3 ?_ | refine sw_ishl dX1_findThreesOf_66 ?_
          refine sw_iorN dX1_findThreesOf_67 ?_
          rw [Nat.one_mul, Nat.one_mul, Nat.one_mul]
          show SW jX1_findThreesOf E0 _ 68 _ [.int (nI (mk3 a b t)), _, _] _
          refine sw_iast dX1_findThreesOf_68 rfl (by simp only [plA]; omega) ?_
          refine sw_aload_n dX1_findThreesOf_69 rfl ?_
          refine sw_dup dX1_findThreesOf_70 rfl ?_
          refine sw_getI dX1_findThreesOf_71 flX1_38 ⟨by decide, _, rfl, rfl⟩ ?_
          rw [show hset g 18 (n + fb_sm (f3 (ox h) a b) t) (nI (mk3 a b t)) 13 8 = nI (n + fb_sm (f3 (ox h) a b) t) by rw [hset_k (by decide)]; exact g8]
          refine sw_iconst (v := nI 1) dX1_findThreesOf_74 (by decide) ?_
          first | refine sw_iaddN dX1_findThreesOf_75 ?_ | refine sw_iadd dX1_findThreesOf_75 ?_
          refine sw_put dX1_findThreesOf_76 fpX1_38 ⟨by decide, _, rfl, rfl⟩ rfl rfl ?_
          first | refine sw_iincN (b := 1) dX1_findThreesOf_79 rfl (by decide) rfl ?_ | refine sw_iinc dX1_findThreesOf_79 rfl rfl (by decide) rfl ?_
          refine sw_goto (tgt := 19) dX1_findThreesOf_82 (by decide) ?_
          refine ih (by omega) _ (fun k k1 k2 => ?_) (fun i hi8 => ?_) ?_ (by omega) ?_
          · rw [hset_off k k1, hset_off k k2]; exact K k k1 k2
          · rw [hset_i hi8, hset_k (by decide)]; exact hi i hi8
          · rw [hset_at, ef, Nat.add_assoc]
          · rw [hset_off 18 (by decide), hset_same, ef]
            refine ⟨fun i hin => ?_, fun x y z h1 h2 h3 hD htr2 => ?_⟩
            · by_cases q : i = n + fb_sm (f3 (ox h) a b) t
              · exact ⟨a, b, t, hab, by omega, ht, htr, by rw [q, pk_us]⟩
              · rw [pk_un q]
                exact hTL.1 i (by omega)
            · by_cases q : x = a ∧ y = b ∧ z = t
              · obtain ⟨rfl, rfl, rfl⟩ := q
                exact ⟨_, by omega, pk_us⟩
              · obtain ⟨i, hin, hie⟩ := hTL.2 x y z h1 h2 h3 (by
                  rcases hD with q0 | ⟨q1, q2 | ⟨q2, q3⟩⟩
                  · exact Or.inl q0
                  · exact Or.inr ⟨q1, Or.inl q2⟩
                  · exact Or.inr ⟨q1, Or.inr ⟨q2, by omega⟩⟩) htr2
                exact ⟨i, by omega, by rw [pk_un (by omega)]; exact hie⟩
end RAYS
