def SamM (q : Nat) (h g : Hp) : Prop := ∀ k, k ≠ q → g k = h k
theorem TM_keep {h g : Hp} {n z : Nat} {sm : Nat → Nat} (T : TM h n z sm) (e0 : g 28 0 = h 28 0) (e1 : g 28 1 = h 28 1) (e2 : g 29 = h 29) : TM g n z sm := by
  unfold TM at T ⊢
  rw [e0, e1, e2]
  exact T
section MOD
variable {h : Hp} {n z : Nat} {sm : Nat → Nat}
theorem c_canStand (T : TM h n z sm) {lf : Nat → Nat} (hl : ∀ k, k < 64 → h 33 k = nI (lf k)) (hb : ∀ k, k < 64 → lf k < 2 ^ 31) {x : Nat} (hx : x < 64) : Ctr jX5_canStand [.ref 28, .int (nI x)] h (Ret (bI (fitB z sm lf x)) h) := by
  have hz8 := T.1.2.1
  have hz := T.1.2.2.2
  refine ctr_start (by decide) (Nat.le_of_ble_eq_true rfl) rfl rfl ?_
  show SW jX5_canStand E0 _ 0 [some (.ref 28), some (.int (nI x)), none, none] [] _
  refine sw_iconst (v := nI 1) dX5_canStand_0 (by decide) ?_
  refine sw_istore_n dX5_canStand_1 (by decide) rfl ?_
  refine sw_iconst (v := nI 0) dX5_canStand_2 (by decide) ?_
  refine sw_istore_n dX5_canStand_3 (by decide) rfl ?_
  refine lp_up (n := z) (S := fun i => SW jX5_canStand E0 (Zm (Ret (bI (fitB z sm lf x)) h)) 4 [some (.ref 28), some (.int (nI x)), some (.int (bI (fitB i sm lf x))), some (.int (nI i))] [] h) ?_ ?_ 0 (Nat.zero_le _)
  · refine sw_iload_n dX5_canStand_4 rfl ?_
    refine sw_aload_n dX5_canStand_5 rfl ?_
    refine sw_getI dX5_canStand_6 flX5_56 ⟨by decide, _, rfl, rfl⟩ ?_
    rw [hz]
    refine sw_icmpN_ge (tgt := 47) dX5_canStand_9 (by decide) (by omega) (by omega) (fun hc => ?_) (fun hc => ?_)
    · refine sw_iload_n dX5_canStand_47 rfl ?_
      refine sw_zret dX5_canStand_48 rfl rfl rfl (bI_nar _) ?_
      exact ⟨rfl, rfl⟩
    · omega
  · intro i hi ih
    have hj := T.j8 hi x
    have hk : 8 * i + jnt (sm i) x < 64 := by omega
    refine sw_iload_n dX5_canStand_4 rfl ?_
    refine sw_aload_n dX5_canStand_5 rfl ?_
    refine sw_getI dX5_canStand_6 flX5_56 ⟨by decide, _, rfl, rfl⟩ ?_
    rw [hz]
    refine sw_icmpN_ge (tgt := 47) dX5_canStand_9 (by decide) (by omega) (by omega) (fun hc => ?_) (fun hc => ?_)
    · omega
    · clear hc
      refine sw_iload_n dX5_canStand_12 rfl ?_
      refine sw_if_eq (tgt := 39) dX5_canStand_13 (by decide) (fun hc => ?_) (fun hc => ?_)
      · have e0 := bI_0 hc
        have e : fitB (i + 1) sm lf x = false := by unfold fitB at e0 ⊢; simp only [allB]; rw [e0, Bool.false_and]
        rw [e] at ih
        refine sw_iconst (v := nI 0) dX5_canStand_39 (by decide) ?_
        refine sw_istore_n dX5_canStand_40 (by decide) rfl ?_
        first | refine sw_iincN (b := 1) dX5_canStand_41 rfl (by decide) rfl ?_ | refine sw_iinc dX5_canStand_41 rfl rfl (by decide) rfl ?_
        refine sw_goto (tgt := 4) dX5_canStand_44 (by decide) ?_
        exact ih
      · have hp := bI_1 hc
        clear hc
        refine sw_aload_n dX5_canStand_16 rfl ?_
        refine sw_getR dX5_canStand_17 flX5_26 ⟨by decide, _, rfl, rfl⟩ ?_
        refine sw_bipush (v := nI 8) dX5_canStand_20 (by decide) ?_
        refine sw_iload_n dX5_canStand_22 rfl ?_
        first | refine sw_imulN dX5_canStand_23 ?_ | refine sw_imul dX5_canStand_23 ?_
        refine sw_aload_n dX5_canStand_24 rfl ?_
        refine sw_iload_n dX5_canStand_25 rfl ?_
        refine sw_iload_n dX5_canStand_26 rfl ?_
        refine sw_cvi (i := 0) (c_jointOf T hi hx) dX5_canStand_27 lkX5_92 (by decide) ⟨by decide, _, rfl, rfl⟩ rfl rfl rfl (Nat.le_of_ble_eq_true rfl) ?_
        first | refine sw_iaddN dX5_canStand_30 ?_ | refine sw_iadd dX5_canStand_30 ?_
        refine sw_iald dX5_canStand_31 rfl (by simp only [plA]; omega) ?_
        rw [hl _ hk]
        refine sw_if_le (tgt := 39) dX5_canStand_32 (by decide) (fun hc => ?_) (fun hc => ?_)
        · have hc2 : ¬ 0 < lf (8 * i + jnt (sm i) x) := fun q => nI_nle q (hb _ hk) hc
          have e : fitB (i + 1) sm lf x = false := by unfold fitB; simp only [allB]; rw [decide_eq_false hc2, Bool.and_false]
          rw [e] at ih
          refine sw_iconst (v := nI 0) dX5_canStand_39 (by decide) ?_
          refine sw_istore_n dX5_canStand_40 (by decide) rfl ?_
          first | refine sw_iincN (b := 1) dX5_canStand_41 rfl (by decide) rfl ?_ | refine sw_iinc dX5_canStand_41 rfl rfl (by decide) rfl ?_
          refine sw_goto (tgt := 4) dX5_canStand_44 (by decide) ?_
          exact ih
        · have hc2 : 0 < lf (8 * i + jnt (sm i) x) := Nat.pos_of_ne_zero (fun q => hc (by rw [q]; decide))
          have e : fitB (i + 1) sm lf x = true := by unfold fitB at hp ⊢; simp only [allB]; rw [hp, decide_eq_true hc2]; rfl
          rw [e] at ih
          refine sw_iconst (v := nI 1) dX5_canStand_35 (by decide) ?_
          refine sw_goto (tgt := 40) dX5_canStand_36 (by decide) ?_
          refine sw_istore_n dX5_canStand_40 (by decide) rfl ?_
          first | refine sw_iincN (b := 1) dX5_canStand_41 rfl (by decide) rfl ?_ | refine sw_iinc dX5_canStand_41 rfl rfl (by decide) rfl ?_
          refine sw_goto (tgt := 4) dX5_canStand_44 (by decide) ?_
          exact ih
theorem c_stands (T : TM h n z sm) {x : Nat} (hx : x < 64) (b : Int32) : Ctr jX5_stands [.ref 28, .int (nI x), .int b] h (fun v g => v = none ∧ Sam 33 h g ∧ ∀ k, k < 64 → g 33 k = if k / 8 < z ∧ jnt (sm (k / 8)) x = k % 8 then h 33 k + b else h 33 k) := by
  have hz8 := T.1.2.1
  refine ctr_start (by decide) (Nat.le_of_ble_eq_true rfl) rfl rfl ?_
  show SW jX5_stands E0 _ 0 [some (.ref 28), some (.int (nI x)), some (.int b), none] [] _
  refine sw_iconst (v := nI 0) dX5_stands_0 (by decide) ?_
  refine sw_istore_n dX5_stands_1 (by decide) rfl ?_
  have key := lp_up (n := z) (S := fun c => ∀ g, Sam 33 h g → (∀ k, k < 64 → g 33 k = if k / 8 < c ∧ jnt (sm (k / 8)) x = k % 8 then h 33 k + b else h 33 k) → SW jX5_stands E0 (Zm (fun v g => v = none ∧ Sam 33 h g ∧ ∀ k, k < 64 → g 33 k = if k / 8 < z ∧ jnt (sm (k / 8)) x = k % 8 then h 33 k + b else h 33 k)) 2 [some (.ref 28), some (.int (nI x)), some (.int b), some (.int (nI c))] [] g) ?_ ?_ 0 (Nat.zero_le _) h Sam.rf (fun k hk => by rw [if_neg (fun q => Nat.not_lt_zero _ q.1)])
  · exact key
  · intro g hS hg
    refine sw_iload_n dX5_stands_2 rfl ?_
    refine sw_aload_n dX5_stands_3 rfl ?_
    refine sw_getI dX5_stands_4 flX5_56 ⟨by decide, _, rfl, rfl⟩ ?_
    rw [show g 28 1 = nI z by rw [hS 28 (by decide)]; exact T.1.2.2.2]
    refine sw_icmpN_ge (tgt := 36) dX5_stands_7 (by decide) (by omega) (by omega) (fun hc => ?_) (fun hc => ?_)
    · refine sw_vret dX5_stands_36 rfl rfl rfl ?_
      exact ⟨rfl, hS, hg⟩
    · omega
  · intro c hcz ih g hS hg
    have T' := TM_keep T (by rw [hS 28 (by decide)]) (by rw [hS 28 (by decide)]) (hS 29 (by decide))
    have hj := T.j8 hcz x
    refine sw_iload_n dX5_stands_2 rfl ?_
    refine sw_aload_n dX5_stands_3 rfl ?_
    refine sw_getI dX5_stands_4 flX5_56 ⟨by decide, _, rfl, rfl⟩ ?_
    rw [show g 28 1 = nI z from T'.1.2.2.2]
    refine sw_icmpN_ge (tgt := 36) dX5_stands_7 (by decide) (by omega) (by omega) (fun hc => ?_) (fun hc => ?_)
    · omega
    · clear hc
      refine sw_aload_n dX5_stands_10 rfl ?_
      refine sw_getR dX5_stands_11 flX5_26 ⟨by decide, _, rfl, rfl⟩ ?_
      refine sw_bipush (v := nI 8) dX5_stands_14 (by decide) ?_
      refine sw_iload_n dX5_stands_16 rfl ?_
      first | refine sw_imulN dX5_stands_17 ?_ | refine sw_imul dX5_stands_17 ?_
      refine sw_aload_n dX5_stands_18 rfl ?_
      refine sw_iload_n dX5_stands_19 rfl ?_
      refine sw_iload_n dX5_stands_20 rfl ?_
      refine sw_cvi (i := 0) (c_jointOf T' hcz hx) dX5_stands_21 lkX5_92 (by decide) ⟨by decide, _, rfl, rfl⟩ rfl rfl rfl (Nat.le_of_ble_eq_true rfl) ?_
      first | refine sw_iaddN dX5_stands_24 ?_ | refine sw_iadd dX5_stands_24 ?_
      refine sw_dup2 dX5_stands_25 rfl rfl ?_
      refine sw_iald dX5_stands_26 rfl (by simp only [plA]; omega) ?_
      refine sw_iload_n dX5_stands_27 rfl ?_
      refine sw_iadd dX5_stands_28 ?_
      refine sw_iast dX5_stands_29 rfl (by simp only [plA]; omega) ?_
      first | refine sw_iincN (b := 1) dX5_stands_30 rfl (by decide) rfl ?_ | refine sw_iinc dX5_stands_30 rfl rfl (by decide) rfl ?_
      refine sw_goto (tgt := 2) dX5_stands_33 (by decide) ?_
      refine ih _ hS.set (fun k hk => ?_)
      rw [hset_eq]
      by_cases q : k = 8 * c + jnt (sm c) x
      · have e1 : k / 8 = c := by omega
        have e2 : k % 8 = jnt (sm c) x := by omega
        rw [if_pos ⟨rfl, q⟩, if_pos ⟨by omega, by rw [e1, e2]⟩, ← q, hg k hk, if_neg (fun r => by omega)]
      · rw [if_neg (fun r => q r.2), hg k hk]
        by_cases r : k / 8 < c ∧ jnt (sm (k / 8)) x = k % 8
        · rw [if_pos r, if_pos ⟨by omega, r.2⟩]
        · rw [if_neg r, if_neg]
          rintro ⟨r1, r2⟩
          by_cases e : k / 8 = c
          · rw [e] at r2
            omega
          · exact r ⟨by omega, r2⟩
def frM (h : Hp) (T : Nat) (S : Int32 × Nat × (Nat → Nat)) (v : Option Value) (g : Hp) : Prop := v = some (.int S.1) ∧ (∀ k, k ≠ 28 → k ≠ 33 → k ≠ 34 → g k = h k) ∧ (∀ i, i ≠ 8 → g 28 i = h 28 i) ∧ g 28 8 = nI S.2.1 ∧ (S.1 = 1 → ∀ i, i < T → g 34 i = nI (S.2.2 i))
theorem search_loop (TT : TM h n z sm) {T : Nat} (hT : T ≤ 24) : ∀ (f p x tr : Nat) (lf rw : Nat → Nat) (g : Hp), p ≤ T → x ≤ 2 ^ n → tr ≤ 20000 → 2 * (20000 - tr) + p + 1 ≤ f → f ≤ 40001 → (∀ k, k < 64 → lf k + f ≤ 41001) → (∀ i, i < p → rw i < 2 ^ n) → (∀ k, k ≠ 28 → k ≠ 33 → k ≠ 34 → g k = h k) → (∀ i, i ≠ 8 → g 28 i = h 28 i) → g 28 8 = nI tr → (∀ i, i < p → g 34 i = nI (rw i)) → (∀ k, k < 64 → g 33 k = nI (lf k)) → SW jX5_search E0 (Zm (frM h T (srch (2 ^ n) T z sm f p x tr lf rw))) 41 [some (.ref 28), some (.int (nI T)), some (.int (nI p)), some (.int (nI x))] [] g := by
  have h64 := pow6 TT.1.1
  intro f
  induction f with
  | zero => intro p x tr lf rw g h1 h2 h3 h4; omega
  | succ f ih =>
    intro p x tr lf rw g hp hx htr hmu hf hlf hrw hg hg28 hg8 hg34 hg33
    have TG : TM g n z sm := TM_keep TT (hg28 0 (by decide)) (hg28 1 (by decide)) (hg 29 (by decide) (by decide) (by decide))
    simp only [srch]
    refine sw_iload_n dX5_search_41 rfl ?_
    refine sw_iload_n dX5_search_42 rfl ?_
    refine sw_icmpN_ge (tgt := 142) dX5_search_43 (by decide) (by omega) (by omega) (fun hc => ?_) (fun hc => ?_)
    · rw [if_pos hc]
      have hpT : p = T := by omega
      refine sw_iconst (v := nI 1) dX5_search_142 (by decide) ?_
      refine sw_iret dX5_search_143 rfl rfl rfl ?_
      exact ⟨rfl, hg, hg28, hg8, fun _ i hi => hg34 i (by omega)⟩
    · rw [if_neg (by omega)]
      have hpT := hc
      clear hc
      refine sw_iload_n dX5_search_46 rfl ?_
      refine sw_aload_n dX5_search_47 rfl ?_
      refine sw_cvi (i := 0) (c_hiddenMany TG.1.2.2.1 TG.1.1) dX5_search_48 lkX5_88 (by decide) ⟨by decide, _, rfl, rfl⟩ rfl rfl rfl (Nat.le_of_ble_eq_true rfl) ?_
      refine sw_icmpN_ne (tgt := 86) dX5_search_51 (by decide) (by omega) (by omega) (fun hc => ?_) (fun hc => ?_)
      · have hxn : x < 2 ^ n := by omega
        rw [if_neg (by omega)]
        clear hc
        refine sw_aload_n dX5_search_86 rfl ?_
        refine sw_getI dX5_search_87 flX5_123 ⟨by decide, _, rfl, rfl⟩ ?_
        rw [hg8]
        refine sw_sipush (v := nI 20000) dX5_search_90 (by decide) ?_
        refine sw_icmpN_ne (tgt := 99) dX5_search_93 (by decide) (by omega) (by omega) (fun hc => ?_) (fun hc => ?_)
        · rw [if_neg hc]
          have htr2 := hc
          refine sw_aload_n dX5_search_99 rfl ?_
          refine sw_dup dX5_search_100 rfl ?_
          refine sw_getI dX5_search_101 flX5_123 ⟨by decide, _, rfl, rfl⟩ ?_
          rw [hg8]
          refine sw_iconst (v := nI 1) dX5_search_104 (by decide) ?_
          first | refine sw_iaddN dX5_search_105 ?_ | refine sw_iadd dX5_search_105 ?_
          refine sw_put dX5_search_106 fpX5_123 ⟨by decide, _, rfl, rfl⟩ rfl rfl ?_
          have TG2 : TM (hset g 28 8 (nI (tr + 1))) n z sm := TM_keep TG (hset_i (by decide)) (hset_i (by decide)) (hset_off 29 (by decide))
          have g33' : ∀ k, k < 64 → hset g 28 8 (nI (tr + 1)) 33 k = nI (lf k) := fun k hk => by rw [hset_k (by decide)]; exact hg33 k hk
          refine sw_aload_n dX5_search_109 rfl ?_
          refine sw_iload_n dX5_search_110 rfl ?_
          refine sw_cvi (i := 0) (c_canStand TG2 g33' (fun k hk => by have := hlf k hk; omega) (x := x) (by omega)) dX5_search_111 lkX5_130 (by decide) ⟨by decide, _, rfl, rfl⟩ rfl rfl rfl (Nat.le_of_ble_eq_true rfl) ?_
          clear hc
          refine sw_if_eq (tgt := 136) dX5_search_114 (by decide) (fun hc => ?_) (fun hc => ?_)
          · have hfit := bI_0 hc
            rw [hfit]
            first | refine sw_iincN (b := 1) dX5_search_136 rfl (by decide) rfl ?_ | refine sw_iinc dX5_search_136 rfl rfl (by decide) rfl ?_
            refine sw_goto (tgt := 41) dX5_search_139 (by decide) ?_
            refine ih p (x + 1) (tr + 1) lf rw _ hp (by omega) (by omega) (by omega) (by omega) (fun k hk => by have := hlf k hk; omega) hrw ?_ ?_ hset_at ?_ g33'
            · intro k k1 k2 k3
              rw [hset_off k k1]; exact hg k k1 k2 k3
            · intro i hi
              rw [hset_i hi]; exact hg28 i hi
            · intro i hi
              rw [hset_k (by decide)]; exact hg34 i hi
          · have hfit := bI_1 hc
            rw [if_pos hfit]
            clear hc
            refine sw_aload_n dX5_search_117 rfl ?_
            refine sw_iload_n dX5_search_118 rfl ?_
            refine sw_iconst (v := (-1)) dX5_search_119 (by decide) ?_
            refine sw_callV (i := 0) (c_stands TG2 (x := x) (by omega) (-1)) dX5_search_120 lkX5_126 (by decide) ⟨by decide, _, rfl, rfl⟩ rfl rfl rfl (Nat.le_of_ble_eq_true rfl) (fun v h1 hq => ?_)
            obtain ⟨rfl, hS, hch⟩ := hq
            have e34 : h1 34 = g 34 := by rw [hS 34 (by decide), hset_off 34 (by decide)]
            refine sw_aload_n dX5_search_123 rfl ?_
            refine sw_getR dX5_search_124 flX5_29 ⟨by decide, _, rfl, rfl⟩ ?_
            refine sw_iload_n dX5_search_127 rfl ?_
            refine sw_iload_n dX5_search_128 rfl ?_
            refine sw_iast dX5_search_129 rfl (by simp only [plA]; omega) ?_
            first | refine sw_iincN (b := 1) dX5_search_130 rfl (by decide) rfl ?_ | refine sw_iinc dX5_search_130 rfl rfl (by decide) rfl ?_
            refine sw_goto (tgt := 41) dX5_search_133 (by decide) ?_
            refine ih (p + 1) x (tr + 1) (chD z sm lf x) (upN rw p x) _ (by omega) (by omega) (by omega) (by omega) (by omega) ?_ ?_ ?_ ?_ ?_ ?_ ?_
            · intro k hk
              have := hlf k hk
              unfold chD
              split <;> omega
            · intro i hi
              unfold upN
              split
              · exact hxn
              · exact hrw i (by omega)
            · intro k k1 k2 k3
              rw [hset_off k k3, hS k k2, hset_off k k1]; exact hg k k1 k2 k3
            · intro i hi
              rw [hset_k (by decide), hS 28 (by decide), hset_i hi]; exact hg28 i hi
            · rw [hset_k (by decide), hS 28 (by decide), hset_at]
            · intro i hi
              unfold upN
              by_cases q : i = p
              · rw [q, hset_at, if_pos rfl]
              · rw [hset_i q, if_neg q, e34]; exact hg34 i (by omega)
            · intro k hk
              rw [hset_k (by decide), hch k hk, g33' k hk]
              unfold chD
              by_cases q : k / 8 < z ∧ jnt (sm (k / 8)) x = k % 8
              · rw [if_pos q, if_pos q]
                have hpos : 0 < lf k := by
                  have := (allB_t.mp hfit) (k / 8) q.1
                  have := of_decide_eq_true this
                  rw [q.2, Nat.div_add_mod] at this
                  exact this
                exact sb_m1 hpos
              · rw [if_neg q, if_neg q]
        · rw [if_pos hc]
          refine sw_bipush (v := (-6)) dX5_search_96 (by decide) ?_
          refine sw_iret dX5_search_98 rfl rfl rfl ?_
          exact ⟨rfl, hg, hg28, by rw [hg8], fun q => absurd (show (-6 : Int32) = 1 from q) (by decide)⟩
      · have hxn : x = 2 ^ n := hc
        rw [if_pos (by omega)]
        clear hc
        refine sw_iload_n dX5_search_54 rfl ?_
        refine sw_if_ne (tgt := 60) dX5_search_55 (by decide) (fun hc => ?_) (fun hc => ?_)
        · have hp0 : ¬ p = 0 := fun q => hc (by rw [q]; rfl)
          rw [if_neg hp0]
          clear hc
          obtain ⟨r, rfl⟩ : ∃ r, p = r + 1 := ⟨p - 1, by omega⟩
          have hrv := hg34 r (by omega)
          have hrr := hrw r (by omega)
          refine sw_iinc (v := nI r) dX5_search_60 rfl (pk_m1 r) (by decide) rfl ?_
          refine sw_aload_n dX5_search_63 rfl ?_
          refine sw_aload_n dX5_search_64 rfl ?_
          refine sw_getR dX5_search_65 flX5_29 ⟨by decide, _, rfl, rfl⟩ ?_
          refine sw_iload_n dX5_search_68 rfl ?_
          refine sw_iald dX5_search_69 rfl (by simp only [plA]; omega) ?_
          rw [hrv]
          refine sw_iconst (v := nI 1) dX5_search_70 (by decide) ?_
          refine sw_callV (i := 0) (c_stands TG (x := rw r) (by omega) (nI 1)) dX5_search_71 lkX5_126 (by decide) ⟨by decide, _, rfl, rfl⟩ rfl rfl rfl (Nat.le_of_ble_eq_true rfl) (fun v h1 hq => ?_)
          obtain ⟨rfl, hS, hch⟩ := hq
          have e34 : h1 34 = g 34 := hS 34 (by decide)
          refine sw_aload_n dX5_search_74 rfl ?_
          refine sw_getR dX5_search_75 flX5_29 ⟨by decide, _, rfl, rfl⟩ ?_
          refine sw_iload_n dX5_search_78 rfl ?_
          refine sw_iald dX5_search_79 rfl (by simp only [plA]; omega) ?_
          rw [show h1 34 r = nI (rw r) by rw [e34]; exact hrv]
          refine sw_iconst (v := nI 1) dX5_search_80 (by decide) ?_
          first | refine sw_iaddN dX5_search_81 ?_ | refine sw_iadd dX5_search_81 ?_
          refine sw_istore_n dX5_search_82 (by decide) rfl ?_
          refine sw_goto (tgt := 41) dX5_search_83 (by decide) ?_
          refine ih r (rw r + 1) tr (chU z sm lf (rw r)) rw _ (by omega) (by omega) htr (by omega) (by omega) ?_ (fun i hi => hrw i (by omega)) ?_ ?_ ?_ ?_ ?_
          · intro k hk
            have := hlf k hk
            unfold chU
            split <;> omega
          · intro k k1 k2 k3
            rw [hS k k2]; exact hg k k1 k2 k3
          · intro i hi
            rw [hS 28 (by decide)]; exact hg28 i hi
          · rw [hS 28 (by decide)]; exact hg8
          · intro i hi
            rw [e34]; exact hg34 i (by omega)
          · intro k hk
            rw [hch k hk, hg33 k hk]
            unfold chU
            by_cases q : k / 8 < z ∧ jnt (sm (k / 8)) (rw r) = k % 8
            · rw [if_pos q, if_pos q, nI_add]
            · rw [if_neg q, if_neg q]
        · have hp0 : p = 0 := (nI_eq (by omega) (by omega)).mp hc
          rw [if_pos hp0]
          refine sw_iconst (v := nI 0) dX5_search_58 (by decide) ?_
          refine sw_iret dX5_search_59 rfl rfl rfl ?_
          exact ⟨rfl, hg, hg28, hg8, fun q => absurd (show (nI 0) = 1 from q) (by decide)⟩
theorem c_searchM (TT : TM h n z sm) {T : Nat} (hT : T ≤ 24) (hw : sI (fun j => h 31 (8 * 0 + j)) 8 = nI T) {lf : Nat → Nat} (hl : ∀ k, k < 64 → h 31 k = nI (lf k)) (hb : ∀ k, k < 64 → lf k ≤ 1000) : Ctr jX5_search [.ref 28] h (frM h T (srch (2 ^ n) T z sm 40001 0 0 0 lf (fun _ => 0))) := by
  refine ctr_start (by decide) (Nat.le_of_ble_eq_true rfl) rfl rfl ?_
  show SW jX5_search E0 _ 0 [some (.ref 28), none, none, none] [] _
  refine sw_iconst (v := nI 0) dX5_search_0 (by decide) ?_
  refine sw_istore_n dX5_search_1 (by decide) rfl ?_
  have key := lp_up (n := 64) (S := fun i => ∀ g, Sam 33 h g → (∀ k, k < i → g 33 k = nI (lf k)) → SW jX5_search E0 (Zm (frM h T (srch (2 ^ n) T z sm 40001 0 0 0 lf (fun _ => 0)))) 2 [some (.ref 28), some (.int (nI i)), none, none] [] g) ?_ ?_ 0 (Nat.zero_le _) h Sam.rf (fun k hk => absurd hk (Nat.not_lt_zero _))
  · exact key
  · intro g hS hg
    refine sw_iload_n dX5_search_2 rfl ?_
    refine sw_bipush (v := nI 64) dX5_search_3 (by decide) ?_
    refine sw_icmpN_ge (tgt := 26) dX5_search_5 (by decide) (by omega) (by omega) (fun hc => ?_) (fun hc => ?_)
    · clear hc
      refine sw_aload_n dX5_search_26 rfl ?_
      refine sw_iconst (v := nI 0) dX5_search_27 (by decide) ?_
      refine sw_put dX5_search_28 fpX5_123 ⟨by decide, _, rfl, rfl⟩ rfl rfl ?_
      have e31 : hset g 28 8 (nI 0) 31 = h 31 := by rw [hset_off 31 (by decide), hS 31 (by decide)]
      refine sw_aload_n dX5_search_31 rfl ?_
      refine sw_iconst (v := nI 0) dX5_search_32 (by decide) ?_
      refine sw_cvi (i := 0) (c_sumOf (c := 0) (by omega)) dX5_search_33 lkX5_75 (by decide) ⟨by decide, _, rfl, rfl⟩ rfl rfl rfl (Nat.le_of_ble_eq_true rfl) ?_
      rw [e31, hw]
      refine sw_istore_n dX5_search_36 (by decide) rfl ?_
      refine sw_iconst (v := nI 0) dX5_search_37 (by decide) ?_
      refine sw_istore_n dX5_search_38 (by decide) rfl ?_
      refine sw_iconst (v := nI 0) dX5_search_39 (by decide) ?_
      refine sw_istore_n dX5_search_40 (by decide) rfl ?_
      refine search_loop TT hT 40001 0 0 0 lf _ _ (by omega) (Nat.zero_le _) (by omega) (by omega) (by omega) (fun k hk => by have := hb k hk; omega) (fun i hi => absurd hi (Nat.not_lt_zero _)) (fun k k1 k2 k3 => ?_) (fun i hi => ?_) hset_at (fun i hi => absurd hi (Nat.not_lt_zero _)) (fun k hk => ?_)
      · rw [hset_off k k1]; exact hS k k2
      · rw [hset_i hi, hS 28 (by decide)]
      · rw [hset_k (by decide)]; exact hg k hk
    · omega
  · intro i hi ih g hS hg
    refine sw_iload_n dX5_search_2 rfl ?_
    refine sw_bipush (v := nI 64) dX5_search_3 (by decide) ?_
    refine sw_icmpN_ge (tgt := 26) dX5_search_5 (by decide) (by omega) (by omega) (fun hc => ?_) (fun hc => ?_)
    · omega
    · refine sw_aload_n dX5_search_8 rfl ?_
      refine sw_getR dX5_search_9 flX5_26 ⟨by decide, _, rfl, rfl⟩ ?_
      refine sw_iload_n dX5_search_12 rfl ?_
      refine sw_aload_n dX5_search_13 rfl ?_
      refine sw_getR dX5_search_14 flX5_20 ⟨by decide, _, rfl, rfl⟩ ?_
      refine sw_iload_n dX5_search_17 rfl ?_
      refine sw_iald dX5_search_18 rfl (by simp only [plA]; omega) ?_
      rw [show g 31 i = nI (lf i) by rw [hS 31 (by decide)]; exact hl i hi]
      refine sw_iast dX5_search_19 rfl (by simp only [plA]; omega) ?_
      first | refine sw_iincN (b := 1) dX5_search_20 rfl (by decide) rfl ?_ | refine sw_iinc dX5_search_20 rfl rfl (by decide) rfl ?_
      refine sw_goto (tgt := 2) dX5_search_23 (by decide) ?_
      refine ih _ hS.set (fun k hk => ?_)
      by_cases q : k = i
      · rw [q, hset_at]
      · rw [hset_i q]
        exact hg k (by omega)
theorem c_isPartable (T : TM h n z sm) : Ctr jX5_isPartable [.ref 28] h (Ret (bI (decide (0 < z) && (decide (fq (uM h n sm) z = -4) && rg 1 24 (sI (fun j => h 31 (8 * 0 + j)) 8)))) h) := by
  have hz8 := T.1.2.1
  have hz := T.1.2.2.2
  refine ctr_start (by decide) (Nat.le_of_ble_eq_true rfl) rfl rfl ?_
  show SW jX5_isPartable E0 _ 0 [some (.ref 28)] [] _
  refine sw_aload_n dX5_isPartable_0 rfl ?_
  refine sw_getI dX5_isPartable_1 flX5_56 ⟨by decide, _, rfl, rfl⟩ ?_
  rw [hz]
  refine sw_if_le (tgt := 36) dX5_isPartable_4 (by decide) (fun hc => ?_) (fun hc => ?_)
  · have h0 : ¬ 0 < z := fun q => nI_nle q (by omega) hc
    refine sw_iconst (v := nI 0) dX5_isPartable_36 (by decide) ?_
    refine sw_zret dX5_isPartable_37 rfl rfl rfl rfl ?_
    exact ⟨by rw [decide_eq_false h0]; rfl, rfl⟩
  · have h0 : 0 < z := Nat.pos_of_ne_zero (fun q => hc (by rw [q]; decide))
    clear hc
    refine sw_aload_n dX5_isPartable_7 rfl ?_
    refine sw_cvi (i := 0) (c_findQuarrel T) dX5_isPartable_8 lkX5_103 (by decide) ⟨by decide, _, rfl, rfl⟩ rfl rfl rfl (Nat.le_of_ble_eq_true rfl) ?_
    refine sw_bipush (v := (-4)) dX5_isPartable_11 (by decide) ?_
    refine sw_icmp_ne (tgt := 36) dX5_isPartable_13 (by decide) (fun hc => ?_) (fun hc => ?_)
    · refine sw_iconst (v := nI 0) dX5_isPartable_36 (by decide) ?_
      refine sw_zret dX5_isPartable_37 rfl rfl rfl rfl ?_
      exact ⟨by rw [decide_eq_false hc, Bool.false_and, Bool.and_false]; rfl, rfl⟩
    · have hq := hc
      clear hc
      refine sw_aload_n dX5_isPartable_16 rfl ?_
      refine sw_iconst (v := nI 0) dX5_isPartable_17 (by decide) ?_
      refine sw_cvi (i := 0) (c_sumOf (c := 0) (by omega)) dX5_isPartable_18 lkX5_75 (by decide) ⟨by decide, _, rfl, rfl⟩ rfl rfl rfl (Nat.le_of_ble_eq_true rfl) ?_
      refine sw_i2l dX5_isPartable_21 ?_
      refine sw_lconst (v := lN 1) dX5_isPartable_22 (by decide) ?_
      refine sw_ldc2_w (v := lN 24) dX5_isPartable_23 (by decide +kernel) ?_
      refine sw_csi (c_inR (l := 1) (u := 24) (by decide) (by decide)) dX5_isPartable_26 lkX5_59 (by decide) rfl rfl (Nat.le_of_ble_eq_true rfl) ?_
      refine sw_if_eq (tgt := 36) dX5_isPartable_29 (by decide) (fun hc => ?_) (fun hc => ?_)
      · refine sw_iconst (v := nI 0) dX5_isPartable_36 (by decide) ?_
        refine sw_zret dX5_isPartable_37 rfl rfl rfl rfl ?_
        exact ⟨by rw [bI_0 hc, Bool.and_false, Bool.and_false]; rfl, rfl⟩
      · refine sw_iconst (v := nI 1) dX5_isPartable_32 (by decide) ?_
        refine sw_goto (tgt := 37) dX5_isPartable_33 (by decide) ?_
        refine sw_zret dX5_isPartable_37 rfl rfl rfl rfl ?_
        exact ⟨by rw [bI_1 hc, decide_eq_true h0, decide_eq_true hq]; rfl, rfl⟩
theorem c_isProofM (T : TM h n z sm) (hP : ∀ c, c < z → okP (h 30 c)) {m : Nat} (hm0 : 0 < m) (hm : m < 256) : Ctr jX5_isProof [.ref 28, .int (nI m)] h (Ret (bI (prB (h 30) sm m z)) h) := by
  have hz8 := T.1.2.1
  have hz := T.1.2.2.2
  refine ctr_start (by decide) (Nat.le_of_ble_eq_true rfl) rfl rfl ?_
  show SW jX5_isProof E0 _ 0 [some (.ref 28), some (.int (nI m)), none, none, none, none] [] _
  refine sw_iconst (v := nI 0) dX5_isProof_0 (by decide) ?_
  refine sw_istore_n dX5_isProof_1 (by decide) rfl ?_
  refine sw_iconst (v := nI 0) dX5_isProof_2 (by decide) ?_
  refine sw_istore_n dX5_isProof_3 (by decide) rfl ?_
  refine sw_iload_n dX5_isProof_4 rfl ?_
  refine sw_if_le (tgt := 12) dX5_isProof_5 (by decide) (fun hc => ?_) (fun hc => ?_)
  · exact absurd hc (nI_nle hm0 (by omega))
  · clear hc
    refine sw_iconst (v := nI 1) dX5_isProof_8 (by decide) ?_
    refine sw_goto (tgt := 13) dX5_isProof_9 (by decide) ?_
    refine sw_istore dX5_isProof_13 (by decide) rfl ?_
    refine sw_iconst (v := nI 0) dX5_isProof_15 (by decide) ?_
    refine sw_istore dX5_isProof_16 (by decide) rfl ?_
    have key := lp_up (n := z) (S := fun i => ∀ v : Int32, (okN (h 30) m i = true → v = nI (psN (h 30) m i)) → SW jX5_isProof E0 (Zm (Ret (bI (prB (h 30) sm m z)) h)) 18 [some (.ref 28), some (.int (nI m)), some (.int (nI (xrN sm m i))), some (.int v), some (.int (bI (okN (h 30) m i))), some (.int (nI i))] [] h) ?_ ?_ 0 (Nat.zero_le _) (nI 0) (fun _ => rfl)
    · exact key
    · intro v hv
      have hxr := xrN_lt (sm := sm) (m := m) (z := z) (fun c hc => T.s64 hc)
      have hps := psN_le (h 30) m z
      refine sw_iload dX5_isProof_18 rfl ?_
      refine sw_aload_n dX5_isProof_20 rfl ?_
      refine sw_getI dX5_isProof_21 flX5_56 ⟨by decide, _, rfl, rfl⟩ ?_
      rw [hz]
      refine sw_icmpN_ge (tgt := 87) dX5_isProof_24 (by decide) (by omega) (by omega) (fun hc => ?_) (fun hc => ?_)
      · clear hc
        refine sw_iload dX5_isProof_87 rfl ?_
        refine sw_if_eq (tgt := 107) dX5_isProof_89 (by decide) (fun hc => ?_) (fun hc => ?_)
        · refine sw_iconst (v := nI 0) dX5_isProof_107 (by decide) ?_
          refine sw_zret dX5_isProof_108 rfl rfl rfl rfl ?_
          exact ⟨by unfold prB; rw [bI_0 hc, Bool.false_and, Bool.false_and]; rfl, rfl⟩
        · have hok := bI_1 hc
          rw [hv hok]
          clear hc
          refine sw_iload_n dX5_isProof_92 rfl ?_
          refine sw_if_ne (tgt := 107) dX5_isProof_93 (by decide) (fun hc => ?_) (fun hc => ?_)
          · have hx : ¬ xrN sm m z = 0 := fun q => hc (by rw [q]; rfl)
            refine sw_iconst (v := nI 0) dX5_isProof_107 (by decide) ?_
            refine sw_zret dX5_isProof_108 rfl rfl rfl rfl ?_
            exact ⟨by unfold prB; rw [decide_eq_false hx, Bool.and_false, Bool.false_and]; rfl, rfl⟩
          · have hx : xrN sm m z = 0 := (nI_eq (a := xrN sm m z) (b := 0) (by omega) (by omega)).mp hc
            clear hc
            refine sw_iload_n dX5_isProof_96 rfl ?_
            refine sw_iconst (v := nI 2) dX5_isProof_97 (by decide) ?_
            refine sw_irem dX5_isProof_98 (by decide) ?_
            rw [pk_rem (d := 2) (by omega) (by omega) (by omega)]
            refine sw_iconst (v := nI 1) dX5_isProof_99 (by decide) ?_
            refine sw_icmpN_ne (tgt := 107) dX5_isProof_100 (by decide) (by omega) (by omega) (fun hc => ?_) (fun hc => ?_)
            · refine sw_iconst (v := nI 0) dX5_isProof_107 (by decide) ?_
              refine sw_zret dX5_isProof_108 rfl rfl rfl rfl ?_
              exact ⟨by unfold prB; rw [decide_eq_false hc, Bool.and_false]; rfl, rfl⟩
            · refine sw_iconst (v := nI 1) dX5_isProof_103 (by decide) ?_
              refine sw_goto (tgt := 108) dX5_isProof_104 (by decide) ?_
              refine sw_zret dX5_isProof_108 rfl rfl rfl rfl ?_
              exact ⟨by unfold prB; rw [hok, decide_eq_true hx, decide_eq_true hc]; rfl, rfl⟩
      · omega
    · intro i hi ih v hv
      have hs := (T.2 i hi).1
      refine sw_iload dX5_isProof_18 rfl ?_
      refine sw_aload_n dX5_isProof_20 rfl ?_
      refine sw_getI dX5_isProof_21 flX5_56 ⟨by decide, _, rfl, rfl⟩ ?_
      rw [hz]
      refine sw_icmpN_ge (tgt := 87) dX5_isProof_24 (by decide) (by omega) (by omega) (fun hc => ?_) (fun hc => ?_)
      · omega
      · clear hc
        refine sw_iload_n dX5_isProof_27 rfl ?_
        refine sw_iload dX5_isProof_28 rfl ?_
        first | refine sw_ishrN dX5_isProof_30 (by omega) (by omega) ?_ | refine sw_ishr dX5_isProof_30 ?_
        refine sw_iconst (v := nI 1) dX5_isProof_31 (by decide) ?_
        first | refine sw_iand1 dX5_isProof_32 ?_ | refine sw_iand dX5_isProof_32 ?_
        refine sw_iconst (v := nI 1) dX5_isProof_33 (by decide) ?_
        refine sw_icmpN_ne (tgt := 81) dX5_isProof_34 (by decide) (by omega) (by omega) (fun hc => ?_) (fun hc => ?_)
        · have e1 : xrN sm m (i + 1) = xrN sm m i := by simp only [xrN, if_neg hc]
          have e2 : psN (h 30) m (i + 1) = psN (h 30) m i := by simp only [psN, if_neg hc]
          have e3 : okN (h 30) m (i + 1) = okN (h 30) m i := by unfold okN; simp only [allB]; rw [decide_eq_true (fun q => absurd q hc), Bool.and_true]
          rw [e1, e2, e3] at ih
          first | refine sw_iincN (b := 1) dX5_isProof_81 rfl (by decide) rfl ?_ | refine sw_iinc dX5_isProof_81 rfl rfl (by decide) rfl ?_
          refine sw_goto (tgt := 18) dX5_isProof_84 (by decide) ?_
          exact ih v hv
        · have hb := hc
          clear hc
          have e1 : xrN sm m (i + 1) = xrN sm m i ^^^ sm i := by simp only [xrN, if_pos hb]
          have e2 : psN (h 30) m (i + 1) = psN (h 30) m i + pN (h 30 i) := by simp only [psN, if_pos hb]
          rw [e1, e2] at ih
          have rest : ∀ o : Bool, okN (h 30) m (i + 1) = o → SW jX5_isProof E0 (Zm (Ret (bI (prB (h 30) sm m z)) h)) 59 [some (.ref 28), some (.int (nI m)), some (.int (nI (xrN sm m i))), some (.int v), some (.int (bI (okN (h 30) m i))), some (.int (nI i))] [.int (bI o)] h := fun o ho => by
            rw [ho] at ih
            refine sw_istore dX5_isProof_59 (by decide) rfl ?_
            refine sw_iload_n dX5_isProof_61 rfl ?_
            refine sw_aload_n dX5_isProof_62 rfl ?_
            refine sw_getR dX5_isProof_63 flX5_13 ⟨by decide, _, rfl, rfl⟩ ?_
            refine sw_iload dX5_isProof_66 rfl ?_
            refine sw_iald dX5_isProof_68 rfl (by simp only [plA]; omega) ?_
            rw [hs]
            refine sw_ixorN dX5_isProof_69 ?_
            refine sw_istore_n dX5_isProof_70 (by decide) rfl ?_
            refine sw_iload_n dX5_isProof_71 rfl ?_
            refine sw_aload_n dX5_isProof_72 rfl ?_
            refine sw_getR dX5_isProof_73 flX5_17 ⟨by decide, _, rfl, rfl⟩ ?_
            refine sw_iload dX5_isProof_76 rfl ?_
            refine sw_iald dX5_isProof_78 rfl (by simp only [plA]; omega) ?_
            refine sw_iadd dX5_isProof_79 ?_
            refine sw_istore_n dX5_isProof_80 (by decide) rfl ?_
            first | refine sw_iincN (b := 1) dX5_isProof_81 rfl (by decide) rfl ?_ | refine sw_iinc dX5_isProof_81 rfl rfl (by decide) rfl ?_
            refine sw_goto (tgt := 18) dX5_isProof_84 (by decide) ?_
            refine ih _ (fun q => ?_)
            rw [q] at ho
            unfold okN at ho
            simp only [allB, Bool.and_eq_true] at ho
            have hok : okN (h 30) m i = true := ho.1
            have hne := of_decide_eq_true ho.2 hb
            rw [hv hok, ← nI_add, ← pN_of (hP i hi) hne]
          refine sw_iload dX5_isProof_37 rfl ?_
          refine sw_if_eq (tgt := 58) dX5_isProof_39 (by decide) (fun hc => ?_) (fun hc => ?_)
          · refine sw_iconst (v := nI 0) dX5_isProof_58 (by decide) ?_
            exact rest false (by unfold okN; simp only [allB]; rw [show allB (fun c => decide (m / 2 ^ c % 2 = 1 → ¬ h 30 c = -4)) i = false from bI_0 hc, Bool.false_and])
          · have hok : allB (fun c => decide (m / 2 ^ c % 2 = 1 → ¬ h 30 c = -4)) i = true := bI_1 hc
            clear hc
            refine sw_aload_n dX5_isProof_42 rfl ?_
            refine sw_getR dX5_isProof_43 flX5_17 ⟨by decide, _, rfl, rfl⟩ ?_
            refine sw_iload dX5_isProof_46 rfl ?_
            refine sw_iald dX5_isProof_48 rfl (by simp only [plA]; omega) ?_
            refine sw_bipush (v := (-4)) dX5_isProof_49 (by decide) ?_
            refine sw_icmp_eq (tgt := 58) dX5_isProof_51 (by decide) (fun hc => ?_) (fun hc => ?_)
            · refine sw_iconst (v := nI 0) dX5_isProof_58 (by decide) ?_
              exact rest false (by unfold okN; simp only [allB]; rw [decide_eq_false (fun q => q hb hc), Bool.and_false])
            · refine sw_iconst (v := nI 1) dX5_isProof_54 (by decide) ?_
              refine sw_goto (tgt := 59) dX5_isProof_55 (by decide) ?_
              exact rest true (by unfold okN; simp only [allB]; rw [hok, decide_eq_true (fun _ => hc)]; rfl)
end MOD
