/-! the reference: rays, sheets -/
abbrev om (h : Hp) (i j : Nat) : Bool := ort (h 35) (h 36) (h 37) i j
section MOD
variable {h : Hp} {r : Nat}
theorem c_areSquare {i j : Nat} (hi : i < 12) (hj : j < 12) : Ctr jX5_areSquare [.ref 28, .int (nI i), .int (nI j)] h (Ret (bI (om h i j)) h) := by
  refine ctr_start (by decide) (Nat.le_of_ble_eq_true rfl) rfl rfl ?_
  show SW jX5_areSquare E0 _ 0 [some (.ref 28), some (.int (nI i)), some (.int (nI j))] [] _
  refine sw_iload_n dX5_areSquare_0 rfl ?_
  refine sw_iload_n dX5_areSquare_1 rfl ?_
  refine sw_icmpN_eq (tgt := 53) dX5_areSquare_2 (by decide) (by omega) (by omega) (fun hc => ?_) (fun hc => ?_)
  · subst hc
    refine sw_iconst (v := nI 0) dX5_areSquare_53 (by decide) ?_
    refine sw_zret dX5_areSquare_54 rfl rfl rfl rfl ?_
    exact ⟨by rw [show om h i i = false from ort_self _ _ _ _]; rfl, rfl⟩
  · have hij := hc
    clear hc
    refine sw_aload_n dX5_areSquare_5 rfl ?_
    refine sw_getR dX5_areSquare_6 flX5_32 ⟨by decide, _, rfl, rfl⟩ ?_
    refine sw_iload_n dX5_areSquare_9 rfl ?_
    refine sw_iald dX5_areSquare_10 rfl (by simp only [plA]; omega) ?_
    refine sw_aload_n dX5_areSquare_11 rfl ?_
    refine sw_getR dX5_areSquare_12 flX5_32 ⟨by decide, _, rfl, rfl⟩ ?_
    refine sw_iload_n dX5_areSquare_15 rfl ?_
    refine sw_iald dX5_areSquare_16 rfl (by simp only [plA]; omega) ?_
    refine sw_imul dX5_areSquare_17 ?_
    refine sw_aload_n dX5_areSquare_18 rfl ?_
    refine sw_getR dX5_areSquare_19 flX5_35 ⟨by decide, _, rfl, rfl⟩ ?_
    refine sw_iload_n dX5_areSquare_22 rfl ?_
    refine sw_iald dX5_areSquare_23 rfl (by simp only [plA]; omega) ?_
    refine sw_aload_n dX5_areSquare_24 rfl ?_
    refine sw_getR dX5_areSquare_25 flX5_35 ⟨by decide, _, rfl, rfl⟩ ?_
    refine sw_iload_n dX5_areSquare_28 rfl ?_
    refine sw_iald dX5_areSquare_29 rfl (by simp only [plA]; omega) ?_
    refine sw_imul dX5_areSquare_30 ?_
    refine sw_iadd dX5_areSquare_31 ?_
    refine sw_aload_n dX5_areSquare_32 rfl ?_
    refine sw_getR dX5_areSquare_33 flX5_38 ⟨by decide, _, rfl, rfl⟩ ?_
    refine sw_iload_n dX5_areSquare_36 rfl ?_
    refine sw_iald dX5_areSquare_37 rfl (by simp only [plA]; omega) ?_
    refine sw_aload_n dX5_areSquare_38 rfl ?_
    refine sw_getR dX5_areSquare_39 flX5_38 ⟨by decide, _, rfl, rfl⟩ ?_
    refine sw_iload_n dX5_areSquare_42 rfl ?_
    refine sw_iald dX5_areSquare_43 rfl (by simp only [plA]; omega) ?_
    refine sw_imul dX5_areSquare_44 ?_
    refine sw_iadd dX5_areSquare_45 ?_
    refine sw_if_ne (tgt := 53) dX5_areSquare_46 (by decide) (fun hc => ?_) (fun hc => ?_)
    · have e : om h i j = false := by unfold om ort; rw [decide_eq_false hc, Bool.and_false]
      refine sw_iconst (v := nI 0) dX5_areSquare_53 (by decide) ?_
      refine sw_zret dX5_areSquare_54 rfl rfl rfl rfl ?_
      exact ⟨by rw [e]; rfl, rfl⟩
    · have e : om h i j = true := by unfold om ort; rw [decide_eq_true hij, decide_eq_true hc]; rfl
      refine sw_iconst (v := nI 1) dX5_areSquare_49 (by decide) ?_
      refine sw_goto (tgt := 54) dX5_areSquare_50 (by decide) ?_
      refine sw_zret dX5_areSquare_54 rfl rfl rfl rfl ?_
      exact ⟨by rw [e]; rfl, rfl⟩
theorem c_squareOf (hr : r ≤ 12) (hz : h 28 9 = nI r) {i : Nat} (hi : i < 12) : Ctr jX5_squareOf [.ref 28, .int (nI i)] h (Ret (nI (bm (om h i) r)) h) := by
  refine ctr_start (by decide) (Nat.le_of_ble_eq_true rfl) rfl rfl ?_
  show SW jX5_squareOf E0 _ 0 [some (.ref 28), some (.int (nI i)), none, none] [] _
  refine sw_iconst (v := nI 0) dX5_squareOf_0 (by decide) ?_
  refine sw_istore_n dX5_squareOf_1 (by decide) rfl ?_
  refine sw_iconst (v := nI 0) dX5_squareOf_2 (by decide) ?_
  refine sw_istore_n dX5_squareOf_3 (by decide) rfl ?_
  refine lp_up (n := r) (S := fun j => SW jX5_squareOf E0 (Zm (Ret (nI (bm (om h i) r)) h)) 4 [some (.ref 28), some (.int (nI i)), some (.int (nI (bm (om h i) j))), some (.int (nI j))] [] h) ?_ ?_ 0 (Nat.zero_le _)
  · refine sw_iload_n dX5_squareOf_4 rfl ?_
    refine sw_aload_n dX5_squareOf_5 rfl ?_
    refine sw_getI dX5_squareOf_6 flX5_149 ⟨by decide, _, rfl, rfl⟩ ?_
    rw [hz]
    refine sw_icmpN_ge (tgt := 37) dX5_squareOf_9 (by decide) (by omega) (by omega) (fun hc => ?_) (fun hc => ?_)
    · refine sw_iload_n dX5_squareOf_37 rfl ?_
      refine sw_iret dX5_squareOf_38 rfl rfl rfl ?_
      exact ⟨rfl, rfl⟩
    · omega
  · intro j hj ih
    refine sw_iload_n dX5_squareOf_4 rfl ?_
    refine sw_aload_n dX5_squareOf_5 rfl ?_
    refine sw_getI dX5_squareOf_6 flX5_149 ⟨by decide, _, rfl, rfl⟩ ?_
    rw [hz]
    refine sw_icmpN_ge (tgt := 37) dX5_squareOf_9 (by decide) (by omega) (by omega) (fun hc => ?_) (fun hc => ?_)
    · omega
    · clear hc
      refine sw_iload_n dX5_squareOf_12 rfl ?_
      refine sw_aload_n dX5_squareOf_13 rfl ?_
      refine sw_iload_n dX5_squareOf_14 rfl ?_
      refine sw_iload_n dX5_squareOf_15 rfl ?_
      refine sw_cvi (i := 0) (c_areSquare hi (by omega)) dX5_squareOf_16 lkX5_152 (by decide) ⟨by decide, _, rfl, rfl⟩ rfl rfl rfl (Nat.le_of_ble_eq_true rfl) ?_
      refine sw_if_eq (tgt := 28) dX5_squareOf_19 (by decide) (fun hc => ?_) (fun hc => ?_)
      · rw [bm_no _ _ (bI_0 hc)] at ih
        refine sw_iconst (v := nI 0) dX5_squareOf_28 (by decide) ?_
        refine sw_iorN dX5_squareOf_29 ?_
        rw [Nat.or_zero]
        refine sw_istore_n dX5_squareOf_30 (by decide) rfl ?_
        first | refine sw_iincN (b := 1) dX5_squareOf_31 rfl (by decide) rfl ?_ | refine sw_iinc dX5_squareOf_31 rfl rfl (by decide) rfl ?_
        refine sw_goto (tgt := 4) dX5_squareOf_34 (by decide) ?_
        exact ih
      · have hy := bI_1 hc
        have p1 := p32 (show j < 12 by omega)
        clear hc
        refine sw_iconst (v := nI 1) dX5_squareOf_22 (by decide) ?_
        refine sw_iload_n dX5_squareOf_23 rfl ?_
        first | refine sw_ishlN dX5_squareOf_24 (by omega) p1 ?_ | refine sw_ishl dX5_squareOf_24 ?_
        rw [Nat.one_mul]
        refine sw_goto (tgt := 29) dX5_squareOf_25 (by decide) ?_
        refine sw_iorN dX5_squareOf_29 ?_
        rw [bm_or _ _ hy]
        refine sw_istore_n dX5_squareOf_30 (by decide) rfl ?_
        first | refine sw_iincN (b := 1) dX5_squareOf_31 rfl (by decide) rfl ?_ | refine sw_iinc dX5_squareOf_31 rfl rfl (by decide) rfl ?_
        refine sw_goto (tgt := 4) dX5_squareOf_34 (by decide) ?_
        exact ih
/-- the model's threes, in its order -/
def f3r (e : Nat → Nat → Bool) (c b a : Nat) : Nat := if a < b ∧ b < c ∧ trS e a b c = true then 1 else 0
def f2r (e : Nat → Nat → Bool) (b a : Nat) : Nat := if a < b ∧ e a b = true then 1 else 0
def P2 (e : Nat → Nat → Bool) (b : Nat) : Nat := fb_sm (f2r e b) b
def P3 (e : Nat → Nat → Bool) (c : Nat) : Nat := fb_sm (fun b => fb_sm (f3r e c b) b) c
def KM (h g : Hp) : Prop := ∀ k, k ≠ 28 → k ≠ 38 → k ≠ 39 → g k = h k
theorem KM.ome {h g : Hp} (K : KM h g) : om g = om h := by
  funext i j
  unfold om
  rw [K 35 (by decide) (by decide) (by decide), K 36 (by decide) (by decide) (by decide), K 37 (by decide) (by decide) (by decide)]
def PM (h g : Hp) (r : Nat) : Prop := KM h g ∧ (∀ i, i ≠ 15 → g 28 i = h 28 i) ∧ g 28 15 = nI (fb_sm (P3 (om h)) r) ∧ fb_sm (P3 (om h)) r ≤ 220 ∧ (∀ i, i < r → g 38 i = nI (bm (om h i) r)) ∧ TLs (g 39) (fb_sm (P3 (om h)) r) (om h) r (fun _ _ _ => True)
theorem mk3_rev (a b c : Nat) : 2 ^ c ||| 2 ^ b ||| 2 ^ a = mk3 a b c := by
  unfold mk3
  rw [Nat.or_comm (2 ^ c) (2 ^ b), Nat.or_comm, Nat.or_assoc, ← Nat.or_assoc]
theorem c3_mono : ∀ a, a < 13 → ∀ b, b < 13 → a ≤ b → c3 a ≤ c3 b := by decide
theorem c_findThrees (hr : r ≤ 12) (hz : h 28 9 = nI r) : Ctr jX5_findThrees [.ref 28] h (fun v g => v = some (.int (nI (fb_sm (P2 (om h)) r))) ∧ PM h g r) := by
  refine ctr_start (by decide) (Nat.le_of_ble_eq_true rfl) rfl rfl ?_
  show SW jX5_findThrees E0 _ 0 [some (.ref 28), none, none, none, none] [] _
  refine sw_iconst (v := nI 0) dX5_findThrees_0 (by decide) ?_
  refine sw_istore_n dX5_findThrees_1 (by decide) rfl ?_
  refine sw_aload_n dX5_findThrees_2 rfl ?_
  refine sw_iconst (v := nI 0) dX5_findThrees_3 (by decide) ?_
  refine sw_put dX5_findThrees_4 fpX5_158 ⟨by decide, _, rfl, rfl⟩ rfl rfl ?_
  refine sw_iconst (v := nI 0) dX5_findThrees_7 (by decide) ?_
  refine sw_istore_n dX5_findThrees_8 (by decide) rfl ?_
  generalize hge : hset h 28 15 (nI 0) = g0
  have k0 : KM h g0 := fun k k1 k2 k3 => by rw [← hge, hset_off k k1]
  have i0 : ∀ i, i ≠ 15 → g0 28 i = h 28 i := fun i hi => by rw [← hge, hset_i hi]
  have z0 : g0 28 15 = nI 0 := by rw [← hge, hset_at]
  have key := lp_up (n := r) (S := fun i => ∀ g, KM h g → (∀ i, i ≠ 15 → g 28 i = h 28 i) → g 28 15 = nI 0 → (∀ j, j < i → g 38 j = nI (bm (om h j) r)) → SW jX5_findThrees E0 (Zm (fun v g => v = some (.int (nI (fb_sm (P2 (om h)) r))) ∧ PM h g r)) 9 [some (.ref 28), some (.int (nI 0)), some (.int (nI i)), none, none] [] g) ?_ ?_ 0 (Nat.zero_le _) g0 k0 i0 z0 (fun j hj => absurd hj (Nat.not_lt_zero _))
  · exact key
  · intro g K hi q15 q38
    refine sw_iload_n dX5_findThrees_9 rfl ?_
    refine sw_aload_n dX5_findThrees_10 rfl ?_
    refine sw_getI dX5_findThrees_11 flX5_149 ⟨by decide, _, rfl, rfl⟩ ?_
    rw [hi 9 (by decide), hz]
    refine sw_icmpN_ge (tgt := 34) dX5_findThrees_14 (by decide) (by omega) (by omega) (fun hc => ?_) (fun hc => ?_)
    · clear hc
      refine sw_iconst (v := nI 0) dX5_findThrees_34 (by decide) ?_
      refine sw_istore_n dX5_findThrees_35 (by decide) rfl ?_
      have l12 : ∀ i, bm (om h i) r < 4096 := fun i => Nat.lt_of_lt_of_le (bm_lt _ r) (pow12 hr)
      have hb38 : ∀ (f : Hp), KM h f → f 38 = g 38 → ∀ i, i < r → f 38 i = nI (bm (om h i) r) := fun f _ e i hi => by rw [e]; exact q38 i hi
      have key2 := lp_up (n := r) (S := fun c => ∀ f v3 v4, KM h f → (∀ i, i ≠ 15 → f 28 i = h 28 i) → f 38 = g 38 → f 28 15 = nI (fb_sm (P3 (om h)) c) → fb_sm (P3 (om h)) c ≤ c3 c → TLs (f 39) (fb_sm (P3 (om h)) c) (om h) r (fun _ _ z => z < c) → SW jX5_findThrees E0 (Zm (fun v g => v = some (.int (nI (fb_sm (P2 (om h)) r))) ∧ PM h g r)) 36 [some (.ref 28), some (.int (nI (fb_sm (P2 (om h)) c))), some (.int (nI c)), v3, v4] [] f) ?_ ?_ 0 (Nat.zero_le _) g none none K hi rfl q15 (Nat.le_refl _) ⟨fun i hi => absurd hi (Nat.not_lt_zero _), fun x y z _ _ _ hD => absurd hD (Nat.not_lt_zero _)⟩
      · exact key2
      · intro f v3 v4 Kf hif e38 f15 hle hTL
        refine sw_iload_n dX5_findThrees_36 rfl ?_
        refine sw_aload_n dX5_findThrees_37 rfl ?_
        refine sw_getI dX5_findThrees_38 flX5_149 ⟨by decide, _, rfl, rfl⟩ ?_
        rw [hif 9 (by decide), hz]
        refine sw_icmpN_ge (tgt := 156) dX5_findThrees_41 (by decide) (by omega) (by omega) (fun hc => ?_) (fun hc => ?_)
        · refine sw_iload_n dX5_findThrees_156 rfl ?_
          refine sw_iret dX5_findThrees_157 rfl rfl rfl ?_
          exact ⟨rfl, Kf, hif, f15, Nat.le_trans hle (c3_le r (by omega)), hb38 f Kf e38, hTL.1, fun x y z h1 h2 h3 _ ht => hTL.2 x y z h1 h2 h3 (by omega) ht⟩
        · omega
      · intro c hcr ih f v3 v4 Kf hif e38 f15 hle hTL
        refine sw_iload_n dX5_findThrees_36 rfl ?_
        refine sw_aload_n dX5_findThrees_37 rfl ?_
        refine sw_getI dX5_findThrees_38 flX5_149 ⟨by decide, _, rfl, rfl⟩ ?_
        rw [hif 9 (by decide), hz]
        refine sw_icmpN_ge (tgt := 156) dX5_findThrees_41 (by decide) (by omega) (by omega) (fun hc => ?_) (fun hc => ?_)
        · omega
        · clear hc
          have okk : okS [some (.ref 28), some (.int (nI (fb_sm (P2 (om h)) c))), some (.int (nI c)), v3, v4] 3 = true := rfl
          refine sw_iconst (v := nI 0) dX5_findThrees_44 (by decide) ?_
          refine sw_istore_n dX5_findThrees_45 (by decide) rfl ?_
          have key3 := lp_up (n := c) (S := fun b => ∀ f v4, KM h f → (∀ i, i ≠ 15 → f 28 i = h 28 i) → f 38 = g 38 → f 28 15 = nI (fb_sm (P3 (om h)) c + fb_sm (fun b => fb_sm (f3r (om h) c b) b) b) → fb_sm (P3 (om h)) c + fb_sm (fun b => fb_sm (f3r (om h) c b) b) b ≤ c3 c + c2 b → TLs (f 39) (fb_sm (P3 (om h)) c + fb_sm (fun b => fb_sm (f3r (om h) c b) b) b) (om h) r (fun _ y z => z < c ∨ (z = c ∧ y < b)) → SW jX5_findThrees E0 (Zm (fun v g => v = some (.int (nI (fb_sm (P2 (om h)) r))) ∧ PM h g r)) 46 [some (.ref 28), some (.int (nI (fb_sm (P2 (om h)) c + fb_sm (f2r (om h) c) b))), some (.int (nI c)), some (.int (nI b)), v4] [] f) ?_ ?_ 0 (Nat.zero_le _) f v4 Kf hif e38 f15 hle ⟨hTL.1, fun x y z h1 h2 h3 hD ht => hTL.2 x y z h1 h2 h3 (by rcases hD with q | q <;> omega) ht⟩
          · exact key3
          · intro f v4 Kf hif e38 f15 hle hTL
            refine sw_iload_n dX5_findThrees_46 rfl ?_
            refine sw_iload_n dX5_findThrees_47 rfl ?_
            refine sw_icmpN_ge (tgt := 150) dX5_findThrees_48 (by decide) (by omega) (by omega) (fun hc => ?_) (fun hc => ?_)
            · first | refine sw_iincN (b := 1) dX5_findThrees_150 rfl (by decide) rfl ?_ | refine sw_iinc dX5_findThrees_150 rfl rfl (by decide) rfl ?_
              refine sw_goto (tgt := 36) dX5_findThrees_153 (by decide) ?_
              refine ih f _ _ Kf hif e38 f15 hle ⟨hTL.1, fun x y z h1 h2 h3 hD ht => hTL.2 x y z h1 h2 h3 ?_ ht⟩
              rcases (show z < c ∨ z = c by omega) with q | q
              · exact Or.inl q
              · exact Or.inr ⟨q, by omega⟩
            · omega
          · intro b hbc ih2 f v4 Kf hif e38 f15 hle hTL
            have hbit : ∀ i j, i < r → j < r → bm (om h i) r / 2 ^ j % 2 = if om h i j then 1 else 0 := fun i j _ hj => bm_bit (om h i) hj
            have hcb := hbit c b hcr (by omega)
            have lc := l12 c
            have lb := l12 b
            have nxt : om h b c = false → ∀ w4, SW jX5_findThrees E0 (Zm (fun v g => v = some (.int (nI (fb_sm (P2 (om h)) r))) ∧ PM h g r)) 144 [some (.ref 28), some (.int (nI (fb_sm (P2 (om h)) c + fb_sm (f2r (om h) c) b))), some (.int (nI c)), some (.int (nI b)), w4] [] f := fun hno w4 => by
              have ef2 : fb_sm (f2r (om h) c) (b + 1) = fb_sm (f2r (om h) c) b := by
                have : f2r (om h) c b = 0 := by unfold f2r; rw [if_neg (fun q => by rw [hno] at q; exact absurd q.2 (by decide))]
                simp only [fb_sm]
                omega
              have ef3 : fb_sm (fun b => fb_sm (f3r (om h) c b) b) (b + 1) = fb_sm (fun b => fb_sm (f3r (om h) c b) b) b := by
                have : fb_sm (f3r (om h) c b) b = 0 := fb_sm_0 (fun a _ => by
                  unfold f3r trS
                  rw [if_neg (fun q => by rw [hno, Bool.and_false, Bool.and_false] at q; exact absurd q.2.2 (by decide))])
                simp only [fb_sm]
                omega
              rw [ef2, ef3] at ih2
              first | refine sw_iincN (b := 1) dX5_findThrees_144 rfl (by decide) rfl ?_ | refine sw_iinc dX5_findThrees_144 rfl rfl (by decide) rfl ?_
              refine sw_goto (tgt := 46) dX5_findThrees_147 (by decide) ?_
              refine ih2 f _ Kf hif e38 f15 (by have : c2 (b + 1) = c2 b + b := rfl; omega) ⟨hTL.1, fun x y z h1 h2 h3 hD ht => hTL.2 x y z h1 h2 h3 ?_ ht⟩
              rcases hD with q | ⟨qa, qb⟩
              · exact Or.inl q
              · refine Or.inr ⟨qa, ?_⟩
                rcases (show y < b ∨ y = b by omega) with q | q
                · exact q
                · subst qa q
                  unfold trS at ht
                  rw [hno, Bool.and_false, Bool.and_false] at ht
                  exact absurd ht (by decide)
            refine sw_iload_n dX5_findThrees_46 rfl ?_
            refine sw_iload_n dX5_findThrees_47 rfl ?_
            refine sw_icmpN_ge (tgt := 150) dX5_findThrees_48 (by decide) (by omega) (by omega) (fun hc => ?_) (fun hc => ?_)
            · omega
            · clear hc
              refine sw_aload_n dX5_findThrees_51 rfl ?_
              refine sw_getR dX5_findThrees_52 flX5_41 ⟨by decide, _, rfl, rfl⟩ ?_
              refine sw_iload_n dX5_findThrees_55 rfl ?_
              refine sw_iald dX5_findThrees_56 rfl (by simp only [plA]; omega) ?_
              rw [show f 38 c = nI (bm (om h c) r) by rw [e38]; exact q38 c hcr]
              refine sw_iload_n dX5_findThrees_57 rfl ?_
              first | refine sw_ishrN dX5_findThrees_58 (by omega) (by omega) ?_ | refine sw_ishr dX5_findThrees_58 ?_
              refine sw_iconst (v := nI 1) dX5_findThrees_59 (by decide) ?_
              first | refine sw_iand1 dX5_findThrees_60 ?_ | refine sw_iand dX5_findThrees_60 ?_
              refine sw_iconst (v := nI 1) dX5_findThrees_61 (by decide) ?_
              refine sw_icmpN_ne (tgt := 144) dX5_findThrees_62 (by decide) (by omega) (by omega) (fun hc => ?_) (fun hc => ?_)
              · have hno : om h c b = false := by
                  cases hq : om h c b with
                  | false => rfl
                  | true => rw [hq] at hcb; exact absurd hcb hc
                exact nxt (by rw [← hno]; exact ort_symm _ _ _ _ _) _
              · have hyes : om h c b = true := by
                  cases hq : om h c b with
                  | true => rfl
                  | false => rw [hq] at hcb; rw [hcb] at hc; exact absurd hc (by decide)
                have hyes2 : om h b c = true := by rw [← hyes]; exact ort_symm _ _ _ _ _
                clear hc nxt
                have ef2 : fb_sm (f2r (om h) c) (b + 1) = fb_sm (f2r (om h) c) b + 1 := by
                  have : f2r (om h) c b = 1 := by unfold f2r; rw [if_pos ⟨hbc, hyes2⟩]
                  simp only [fb_sm]
                  omega
                have ef3 : fb_sm (fun b => fb_sm (f3r (om h) c b) b) (b + 1) = fb_sm (fun b => fb_sm (f3r (om h) c b) b) b + fb_sm (f3r (om h) c b) b := rfl
                rw [ef2, ef3] at ih2
                first | refine sw_iincN (b := 1) dX5_findThrees_65 rfl (by decide) rfl ?_ | refine sw_iinc dX5_findThrees_65 rfl rfl (by decide) rfl ?_
                refine sw_iconst (v := nI 0) dX5_findThrees_68 (by decide) ?_
                refine sw_istore dX5_findThrees_69 (by decide) rfl ?_
                have key4 := lp_up (n := b) (S := fun a => ∀ f, KM h f → (∀ i, i ≠ 15 → f 28 i = h 28 i) → f 38 = g 38 → f 28 15 = nI (fb_sm (P3 (om h)) c + fb_sm (fun b => fb_sm (f3r (om h) c b) b) b + fb_sm (f3r (om h) c b) a) → fb_sm (P3 (om h)) c + fb_sm (fun b => fb_sm (f3r (om h) c b) b) b + fb_sm (f3r (om h) c b) a ≤ c3 c + c2 b + a → TLs (f 39) (fb_sm (P3 (om h)) c + fb_sm (fun b => fb_sm (f3r (om h) c b) b) b + fb_sm (f3r (om h) c b) a) (om h) r (fun x y z => z < c ∨ (z = c ∧ (y < b ∨ (y = b ∧ x < a)))) → SW jX5_findThrees E0 (Zm (fun v g => v = some (.int (nI (fb_sm (P2 (om h)) r))) ∧ PM h g r)) 71 [some (.ref 28), some (.int (nI (fb_sm (P2 (om h)) c + fb_sm (f2r (om h) c) b + 1))), some (.int (nI c)), some (.int (nI b)), some (.int (nI a))] [] f) ?_ ?_ 0 (Nat.zero_le _) f Kf hif e38 f15 hle ⟨hTL.1, fun x y z h1 h2 h3 hD ht => hTL.2 x y z h1 h2 h3 (by
                  rcases hD with q | ⟨qa, q | ⟨qb, qc⟩⟩
                  · exact Or.inl q
                  · exact Or.inr ⟨qa, q⟩
                  · exact absurd qc (Nat.not_lt_zero _)) ht⟩
                · exact key4
                · intro f Kf hif e38 f15 hle hTL
                  refine sw_iload dX5_findThrees_71 rfl ?_
                  refine sw_iload_n dX5_findThrees_73 rfl ?_
                  refine sw_icmpN_ge (tgt := 144) dX5_findThrees_74 (by decide) (by omega) (by omega) (fun hc => ?_) (fun hc => ?_)
                  · first | refine sw_iincN (b := 1) dX5_findThrees_144 rfl (by decide) rfl ?_ | refine sw_iinc dX5_findThrees_144 rfl rfl (by decide) rfl ?_
                    refine sw_goto (tgt := 46) dX5_findThrees_147 (by decide) ?_
                    rw [← Nat.add_assoc] at ih2
                    refine ih2 f _ Kf hif e38 f15 (by have : c2 (b + 1) = c2 b + b := rfl; omega) ?_
                    refine ⟨hTL.1, fun x y z h1 h2 h3 hD ht => hTL.2 x y z h1 h2 h3 ?_ ht⟩
                    rcases hD with q | ⟨qa, qb⟩
                    · exact Or.inl q
                    · refine Or.inr ⟨qa, ?_⟩
                      rcases (show y < b ∨ y = b by omega) with q | q
                      · exact Or.inl q
                      · exact Or.inr ⟨q, by omega⟩
                  · omega
                · intro a hab ih3 f Kf hif e38 f15 hle hTL
                  have hca := hbit c a hcr (by omega)
                  have hba := hbit b a (by omega) (by omega)
                  have nx4 : trS (om h) a b c = false → SW jX5_findThrees E0 (Zm (fun v g => v = some (.int (nI (fb_sm (P2 (om h)) r))) ∧ PM h g r)) 138 [some (.ref 28), some (.int (nI (fb_sm (P2 (om h)) c + fb_sm (f2r (om h) c) b + 1))), some (.int (nI c)), some (.int (nI b)), some (.int (nI a))] [] f := fun hno => by
                    have ef : fb_sm (f3r (om h) c b) (a + 1) = fb_sm (f3r (om h) c b) a := by
                      have : f3r (om h) c b a = 0 := by unfold f3r; rw [if_neg (fun q => by rw [hno] at q; exact absurd q.2.2 (by decide))]
                      simp only [fb_sm]
                      omega
                    rw [ef] at ih3
                    first | refine sw_iincN (b := 1) dX5_findThrees_138 rfl (by decide) rfl ?_ | refine sw_iinc dX5_findThrees_138 rfl rfl (by decide) rfl ?_
                    refine sw_goto (tgt := 71) dX5_findThrees_141 (by decide) ?_
                    refine ih3 f Kf hif e38 f15 (by omega) ⟨hTL.1, fun x y z h1 h2 h3 hD ht => hTL.2 x y z h1 h2 h3 ?_ ht⟩
                    rcases hD with q | ⟨qa, q | ⟨qb, qc⟩⟩
                    · exact Or.inl q
                    · exact Or.inr ⟨qa, Or.inl q⟩
                    · refine Or.inr ⟨qa, Or.inr ⟨qb, ?_⟩⟩
                      rcases (show x < a ∨ x = a by omega) with q | q
                      · exact q
                      · subst qa qb q
                        rw [hno] at ht
                        exact absurd ht (by decide)
                  refine sw_iload dX5_findThrees_71 rfl ?_
                  refine sw_iload_n dX5_findThrees_73 rfl ?_
                  refine sw_icmpN_ge (tgt := 144) dX5_findThrees_74 (by decide) (by omega) (by omega) (fun hc => ?_) (fun hc => ?_)
                  · omega
                  · clear hc
                    refine sw_aload_n dX5_findThrees_77 rfl ?_
                    refine sw_getR dX5_findThrees_78 flX5_41 ⟨by decide, _, rfl, rfl⟩ ?_
                    refine sw_iload_n dX5_findThrees_81 rfl ?_
                    refine sw_iald dX5_findThrees_82 rfl (by simp only [plA]; omega) ?_
                    rw [show f 38 c = nI (bm (om h c) r) by rw [e38]; exact q38 c hcr]
                    refine sw_iload dX5_findThrees_83 rfl ?_
                    first | refine sw_ishrN dX5_findThrees_85 (by omega) (by omega) ?_ | refine sw_ishr dX5_findThrees_85 ?_
                    refine sw_iconst (v := nI 1) dX5_findThrees_86 (by decide) ?_
                    first | refine sw_iand1 dX5_findThrees_87 ?_ | refine sw_iand dX5_findThrees_87 ?_
                    refine sw_iconst (v := nI 1) dX5_findThrees_88 (by decide) ?_
                    refine sw_icmpN_ne (tgt := 138) dX5_findThrees_89 (by decide) (by omega) (by omega) (fun hc => ?_) (fun hc => ?_)
                    · refine nx4 ?_
                      have hno : om h c a = false := by
                        cases hq : om h c a with
                        | false => rfl
                        | true => rw [hq] at hca; exact absurd hca hc
                      unfold trS
                      rw [show om h a c = om h c a from ort_symm _ _ _ _ _, hno, Bool.false_and, Bool.and_false]
                    · have hy1 : om h c a = true := by
                        cases hq : om h c a with
                        | true => rfl
                        | false => rw [hq] at hca; rw [hca] at hc; exact absurd hc (by decide)
                      clear hc
                      refine sw_aload_n dX5_findThrees_92 rfl ?_
                      refine sw_getR dX5_findThrees_93 flX5_41 ⟨by decide, _, rfl, rfl⟩ ?_
                      refine sw_iload_n dX5_findThrees_96 rfl ?_
                      refine sw_iald dX5_findThrees_97 rfl (by simp only [plA]; omega) ?_
                      rw [show f 38 b = nI (bm (om h b) r) by rw [e38]; exact q38 b (by omega)]
                      refine sw_iload dX5_findThrees_98 rfl ?_
                      first | refine sw_ishrN dX5_findThrees_100 (by omega) (by omega) ?_ | refine sw_ishr dX5_findThrees_100 ?_
                      refine sw_iconst (v := nI 1) dX5_findThrees_101 (by decide) ?_
                      first | refine sw_iand1 dX5_findThrees_102 ?_ | refine sw_iand dX5_findThrees_102 ?_
                      refine sw_iconst (v := nI 1) dX5_findThrees_103 (by decide) ?_
                      refine sw_icmpN_ne (tgt := 138) dX5_findThrees_104 (by decide) (by omega) (by omega) (fun hc => ?_) (fun hc => ?_)
                      · refine nx4 ?_
                        have hno : om h b a = false := by
                          cases hq : om h b a with
                          | false => rfl
                          | true => rw [hq] at hba; exact absurd hba hc
                        unfold trS
                        rw [show om h a b = om h b a from ort_symm _ _ _ _ _, hno, Bool.false_and]
                      · have hy2 : om h b a = true := by
                          cases hq : om h b a with
                          | true => rfl
                          | false => rw [hq] at hba; rw [hba] at hc; exact absurd hc (by decide)
                        clear hc nx4
                        have htr : trS (om h) a b c = true := by
                          unfold trS
                          rw [show om h a b = om h b a from ort_symm _ _ _ _ _, show om h a c = om h c a from ort_symm _ _ _ _ _, hy1, hy2, hyes2]
                          rfl
                        have ef : fb_sm (f3r (om h) c b) (a + 1) = fb_sm (f3r (om h) c b) a + 1 := by
                          have : f3r (om h) c b a = 1 := by unfold f3r; rw [if_pos ⟨hab, hbc, htr⟩]
                          simp only [fb_sm]
                          omega
                        rw [ef, ← Nat.add_assoc] at ih3
                        have p1 := p32 (show c < 12 by omega)
                        have p2 := p32 (show b < 12 by omega)
                        have p3 := p32 (show a < 12 by omega)
                        have hcnt : fb_sm (P3 (om h)) c + fb_sm (fun b => fb_sm (f3r (om h) c b) b) b + fb_sm (f3r (om h) c b) a < 220 := by
                          have q1 : c3 c + c2 c ≤ 220 := by
                            have := c3_le (c + 1) (by omega)
                            exact this
                          have q2 : c2 b + b ≤ c2 c := by
                            have key : ∀ c, c < 12 → ∀ b, b < c → c2 b + b ≤ c2 c := by decide
                            exact key c (by omega) b hbc
                          omega
                        refine sw_aload_n dX5_findThrees_107 rfl ?_
                        refine sw_getR dX5_findThrees_108 flX5_44 ⟨by decide, _, rfl, rfl⟩ ?_
                        refine sw_aload_n dX5_findThrees_111 rfl ?_
                        refine sw_getI dX5_findThrees_112 flX5_158 ⟨by decide, _, rfl, rfl⟩ ?_
                        rw [f15]
                        refine sw_iconst (v := nI 1) dX5_findThrees_115 (by decide) ?_
                        refine sw_iload_n dX5_findThrees_116 rfl ?_
                        first | refine sw_ishlN dX5_findThrees_117 (by omega) p1 ?_ | refine sw_ishl dX5_findThrees_117 ?_
                        refine sw_iconst (v := nI 1) dX5_findThrees_118 (by decide) ?_
                        refine sw_iload_n dX5_findThrees_119 rfl ?_
                        first | refine sw_ishlN dX5_findThrees_120 (by omega) p2 ?_ | refine sw_ishl dX5_findThrees_120 ?_
                        refine sw_iorN dX5_findThrees_121 ?_
                        refine sw_iconst (v := nI 1) dX5_findThrees_122 (by decide) ?_
                        refine sw_iload dX5_findThrees_123 rfl ?_
                        first | refine sw_ishlN dX5_findThrees_125 (by omega) p3 ?_ | refine sw_ishl dX5_findThrees_125 ?_
                        refine sw_iorN dX5_findThrees_126 ?_
                        rw [Nat.one_mul, Nat.one_mul, Nat.one_mul, mk3_rev]
                        refine sw_iast dX5_findThrees_127 rfl hcnt ?_
                        generalize fb_sm (P3 (om h)) c + fb_sm (fun b => fb_sm (f3r (om h) c b) b) b + fb_sm (f3r (om h) c b) a = N at *
                        refine sw_aload_n dX5_findThrees_128 rfl ?_
                        refine sw_dup dX5_findThrees_129 rfl ?_
                        refine sw_getI dX5_findThrees_130 flX5_158 ⟨by decide, _, rfl, rfl⟩ ?_
                        rw [show hset f 39 N (nI (mk3 a b c)) 28 15 = nI N by rw [hset_k (by decide)]; exact f15]
                        refine sw_iconst (v := nI 1) dX5_findThrees_133 (by decide) ?_
                        first | refine sw_iaddN dX5_findThrees_134 ?_ | refine sw_iadd dX5_findThrees_134 ?_
                        refine sw_put dX5_findThrees_135 fpX5_158 ⟨by decide, _, rfl, rfl⟩ rfl rfl ?_
                        first | refine sw_iincN (b := 1) dX5_findThrees_138 rfl (by decide) rfl ?_ | refine sw_iinc dX5_findThrees_138 rfl rfl (by decide) rfl ?_
                        refine sw_goto (tgt := 71) dX5_findThrees_141 (by decide) ?_
                        refine ih3 _ (fun k k1 k2 k3 => ?_) (fun i hi15 => ?_) ?_ ?_ ?_ ?_
                        · rw [hset_off k k1, hset_off k k3]; exact Kf k k1 k2 k3
                        · rw [hset_i hi15, hset_k (by decide)]; exact hif i hi15
                        · rw [hset_off 38 (by decide), hset_off 38 (by decide)]; exact e38
                        · rw [hset_at]
                        · omega
                        · rw [hset_off 39 (by decide), hset_same]
                          refine ⟨fun i hin => ?_, fun x y z h1 h2 h3 hD htr2 => ?_⟩
                          · by_cases q : i = N
                            · exact ⟨a, b, c, hab, hbc, hcr, htr, by rw [q, pk_us]⟩
                            · rw [pk_un q]
                              exact hTL.1 i (by omega)
                          · by_cases q : x = a ∧ y = b ∧ z = c
                            · obtain ⟨rfl, rfl, rfl⟩ := q
                              exact ⟨N, by omega, pk_us⟩
                            · obtain ⟨i, hin, hie⟩ := hTL.2 x y z h1 h2 h3 (by
                                rcases hD with q0 | ⟨qa, q2 | ⟨qb, qc⟩⟩
                                · exact Or.inl q0
                                · exact Or.inr ⟨qa, Or.inl q2⟩
                                · exact Or.inr ⟨qa, Or.inr ⟨qb, by omega⟩⟩) htr2
                              exact ⟨i, by omega, by rw [pk_un (by omega)]; exact hie⟩
    · omega
  · intro i hi ih g K hig q15 q38
    refine sw_iload_n dX5_findThrees_9 rfl ?_
    refine sw_aload_n dX5_findThrees_10 rfl ?_
    refine sw_getI dX5_findThrees_11 flX5_149 ⟨by decide, _, rfl, rfl⟩ ?_
    rw [hig 9 (by decide), hz]
    refine sw_icmpN_ge (tgt := 34) dX5_findThrees_14 (by decide) (by omega) (by omega) (fun hc => ?_) (fun hc => ?_)
    · omega
    · clear hc
      refine sw_aload_n dX5_findThrees_17 rfl ?_
      refine sw_getR dX5_findThrees_18 flX5_41 ⟨by decide, _, rfl, rfl⟩ ?_
      refine sw_iload_n dX5_findThrees_21 rfl ?_
      refine sw_aload_n dX5_findThrees_22 rfl ?_
      refine sw_iload_n dX5_findThrees_23 rfl ?_
      refine sw_cvi (i := 0) (c_squareOf hr (by rw [hig 9 (by decide)]; exact hz) (by omega)) dX5_findThrees_24 lkX5_155 (by decide) ⟨by decide, _, rfl, rfl⟩ rfl rfl rfl (Nat.le_of_ble_eq_true rfl) ?_
      rw [K.ome]
      refine sw_iast dX5_findThrees_27 rfl (by simp only [plA]; omega) ?_
      first | refine sw_iincN (b := 1) dX5_findThrees_28 rfl (by decide) rfl ?_ | refine sw_iinc dX5_findThrees_28 rfl rfl (by decide) rfl ?_
      refine sw_goto (tgt := 9) dX5_findThrees_31 (by decide) ?_
      refine ih _ (fun k k1 k2 k3 => ?_) (fun i hi => ?_) ?_ (fun j hj => ?_)
      · rw [hset_off k k2]; exact K k k1 k2 k3
      · rw [hset_k (by decide)]; exact hig i hi
      · rw [hset_k (by decide)]; exact q15
      · by_cases q : j = i
        · rw [q, hset_at]
        · rw [hset_i q]
          exact q38 j (by omega)
end MOD
