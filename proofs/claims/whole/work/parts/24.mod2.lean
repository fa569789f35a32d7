def cm (s b x jt : Nat) : Nat → Bool
  | 0 => true
  | k + 1 => if s / 2 ^ k % 2 = 1 then cm s b x jt k && (decide (b / 2 ^ k % 2 = 0) || decide (jt / 2 ^ bs s k % 2 = x / 2 ^ k % 2)) else cm s b x jt k
theorem cm_stop {s b x jt n : Nat} (hs : s < 2 ^ n) : ∀ d, cm s b x jt (n + d) = cm s b x jt n
  | 0 => rfl
  | d + 1 => by
    rw [← Nat.add_assoc]
    simp only [cm]
    rw [bit_hi hs (by omega), if_neg (by decide), cm_stop hs d]
theorem cm_n {s b x jt n : Nat} (hs : s < 2 ^ n) (hn : n ≤ 6) : cm s b x jt n = cm s b x jt 6 := by
  have := cm_stop (b := b) (x := x) (jt := jt) hs (6 - n)
  rw [show n + (6 - n) = 6 by omega] at this
  exact this.symm
def sbM (w : Nat → Int32) (s b c x : Nat) (m : Nat) : Int32 := sI (fun j => if cm s b x j 6 then w (8 * c + j) else nI 0) m
theorem nb_nat : ∀ x, x < 64 → ∀ b, b < 64 → (x &&& (b ^^^ 4294967295) = 0 ↔ x &&& b = x) := by decide +kernel
theorem nb_int {x b : Nat} (hx : x < 64) (hb : b < 64) : nI x &&& (nI b ^^^ (-1)) = 0 ↔ x &&& b = x := by
  rw [show (-1 : Int32) = nI 4294967295 by decide, fb_xorI, fa_and, ← nb_nat x hx b hb]
  have hl : x &&& (b ^^^ 4294967295) < 64 := Nat.lt_of_le_of_lt Nat.and_le_left hx
  exact nI_eq (b := 0) (by omega) (by omega)
section MOD
variable {h : Hp} {n z : Nat} {sm : Nat → Nat}
theorem c_sumBy (T : TM h n z sm) {c b x : Nat} (hc : c < z) (hb : b < 64) (hx : x < 64) : Ctr jX5_sumBy [.ref 28, .int (nI c), .int (nI b), .int (nI x)] h (Ret (sbM (h 31) (sm c) b c x (2 ^ pop (sm c))) h) := by
  have hz8 := T.1.2.1
  have hn := T.1.2.2.1
  have hn6 := T.1.1
  obtain ⟨s1, s2, s3, s4⟩ := T.2 c hc
  have hp := pow3 s4
  have h64 := T.s64 hc
  have hcc := hc
  clear hc
  refine ctr_start (by decide) (Nat.le_of_ble_eq_true rfl) rfl rfl ?_
  show SW jX5_sumBy E0 _ 0 [some (.ref 28), some (.int (nI c)), some (.int (nI b)), some (.int (nI x)), none, none, none, none, none] [] _
  refine sw_iconst (v := nI 0) dX5_sumBy_0 (by decide) ?_
  refine sw_istore dX5_sumBy_1 (by decide) rfl ?_
  refine sw_iconst (v := nI 0) dX5_sumBy_3 (by decide) ?_
  refine sw_istore dX5_sumBy_4 (by decide) rfl ?_
  have key := lp_up (n := 2 ^ pop (sm c)) (S := fun j => ∀ v6 v7 v8, SW jX5_sumBy E0 (Zm (Ret (sbM (h 31) (sm c) b c x (2 ^ pop (sm c))) h)) 6 [some (.ref 28), some (.int (nI c)), some (.int (nI b)), some (.int (nI x)), some (.int (sbM (h 31) (sm c) b c x j)), some (.int (nI j)), v6, v7, v8] [] h) ?_ ?_ 0 (Nat.zero_le _) none none none
  · exact key
  · intro v6 v7 v8
    refine sw_iload dX5_sumBy_6 rfl ?_
    refine sw_iconst (v := nI 1) dX5_sumBy_8 (by decide) ?_
    refine sw_aload_n dX5_sumBy_9 rfl ?_
    refine sw_getR dX5_sumBy_10 flX5_13 ⟨by decide, _, rfl, rfl⟩ ?_
    refine sw_iload_n dX5_sumBy_13 rfl ?_
    refine sw_iald dX5_sumBy_14 rfl (by simp only [plA]; omega) ?_
    rw [s1]
    refine sw_csi (c_bits (by omega)) dX5_sumBy_15 lkX5_67 (by decide) rfl rfl (Nat.le_of_ble_eq_true rfl) ?_
    first | refine sw_ishlN dX5_sumBy_18 (by omega) (by omega) ?_ | refine sw_ishl dX5_sumBy_18 ?_
    rw [Nat.one_mul]
    refine sw_icmpN_ge (tgt := 133) dX5_sumBy_19 (by decide) (by omega) (by omega) (fun hc => ?_) (fun hc => ?_)
    · refine sw_iload dX5_sumBy_133 rfl ?_
      refine sw_iret dX5_sumBy_135 rfl rfl rfl ?_
      exact ⟨rfl, rfl⟩
    · omega
  · intro j hj ih v6 v7 v8
    refine sw_iload dX5_sumBy_6 rfl ?_
    refine sw_iconst (v := nI 1) dX5_sumBy_8 (by decide) ?_
    refine sw_aload_n dX5_sumBy_9 rfl ?_
    refine sw_getR dX5_sumBy_10 flX5_13 ⟨by decide, _, rfl, rfl⟩ ?_
    refine sw_iload_n dX5_sumBy_13 rfl ?_
    refine sw_iald dX5_sumBy_14 rfl (by simp only [plA]; omega) ?_
    rw [s1]
    refine sw_csi (c_bits (by omega)) dX5_sumBy_15 lkX5_67 (by decide) rfl rfl (Nat.le_of_ble_eq_true rfl) ?_
    first | refine sw_ishlN dX5_sumBy_18 (by omega) (by omega) ?_ | refine sw_ishl dX5_sumBy_18 ?_
    rw [Nat.one_mul]
    refine sw_icmpN_ge (tgt := 133) dX5_sumBy_19 (by decide) (by omega) (by omega) (fun hc => ?_) (fun hc => ?_)
    · omega
    · clear hc
      have ok6 : okS [some (.ref 28), some (.int (nI c)), some (.int (nI b)), some (.int (nI x)), some (.int (sbM (h 31) (sm c) b c x j)), some (.int (nI j)), v6, v7, v8] 6 = true := rfl
      refine sw_iconst (v := nI 0) dX5_sumBy_22 (by decide) ?_
      refine sw_istore dX5_sumBy_23 (by decide) rfl ?_
      refine sw_iconst (v := nI 1) dX5_sumBy_25 (by decide) ?_
      refine sw_istore dX5_sumBy_26 (by decide) rfl ?_
      refine sw_iconst (v := nI 0) dX5_sumBy_28 (by decide) ?_
      refine sw_istore dX5_sumBy_29 (by decide) rfl ?_
      refine lp_up (n := n) (S := fun k => SW jX5_sumBy E0 (Zm (Ret (sbM (h 31) (sm c) b c x (2 ^ pop (sm c))) h)) 31 [some (.ref 28), some (.int (nI c)), some (.int (nI b)), some (.int (nI x)), some (.int (sbM (h 31) (sm c) b c x j)), some (.int (nI j)), some (.int (nI (bs (sm c) k))), some (.int (bI (cm (sm c) b x j k))), some (.int (nI k))] [] h) ?_ ?_ 0 (Nat.zero_le _)
      · refine sw_iload dX5_sumBy_31 rfl ?_
        refine sw_aload_n dX5_sumBy_33 rfl ?_
        refine sw_getI dX5_sumBy_34 flX5_7 ⟨by decide, _, rfl, rfl⟩ ?_
        rw [hn]
        refine sw_icmpN_ge (tgt := 101) dX5_sumBy_37 (by decide) (by omega) (by omega) (fun hc => ?_) (fun hc => ?_)
        · clear hc
          rw [cm_n s3 hn6]
          refine sw_iload dX5_sumBy_101 rfl ?_
          refine sw_iload dX5_sumBy_103 rfl ?_
          refine sw_if_eq (tgt := 123) dX5_sumBy_105 (by decide) (fun hc => ?_) (fun hc => ?_)
          · have e : sbM (h 31) (sm c) b c x (j + 1) = sbM (h 31) (sm c) b c x j + nI 0 := by
              unfold sbM
              simp only [sI]
              rw [bI_0 hc]
              rfl
            rw [e] at ih
            refine sw_iconst (v := nI 0) dX5_sumBy_123 (by decide) ?_
            refine sw_iadd dX5_sumBy_124 ?_
            refine sw_istore dX5_sumBy_125 (by decide) rfl ?_
            first | refine sw_iincN (b := 1) dX5_sumBy_127 rfl (by decide) rfl ?_ | refine sw_iinc dX5_sumBy_127 rfl rfl (by decide) rfl ?_
            refine sw_goto (tgt := 6) dX5_sumBy_130 (by decide) ?_
            exact ih _ _ _
          · have e : sbM (h 31) (sm c) b c x (j + 1) = sbM (h 31) (sm c) b c x j + h 31 (8 * c + j) := by
              unfold sbM
              simp only [sI]
              rw [bI_1 hc]
              rfl
            rw [e] at ih
            refine sw_aload_n dX5_sumBy_108 rfl ?_
            refine sw_getR dX5_sumBy_109 flX5_20 ⟨by decide, _, rfl, rfl⟩ ?_
            refine sw_bipush (v := nI 8) dX5_sumBy_112 (by decide) ?_
            refine sw_iload_n dX5_sumBy_114 rfl ?_
            first | refine sw_imulN dX5_sumBy_115 ?_ | refine sw_imul dX5_sumBy_115 ?_
            refine sw_iload dX5_sumBy_116 rfl ?_
            first | refine sw_iaddN dX5_sumBy_118 ?_ | refine sw_iadd dX5_sumBy_118 ?_
            refine sw_iald dX5_sumBy_119 rfl (by simp only [plA]; omega) ?_
            refine sw_goto (tgt := 124) dX5_sumBy_120 (by decide) ?_
            refine sw_iadd dX5_sumBy_124 ?_
            refine sw_istore dX5_sumBy_125 (by decide) rfl ?_
            first | refine sw_iincN (b := 1) dX5_sumBy_127 rfl (by decide) rfl ?_ | refine sw_iinc dX5_sumBy_127 rfl rfl (by decide) rfl ?_
            refine sw_goto (tgt := 6) dX5_sumBy_130 (by decide) ?_
            exact ih _ _ _
        · omega
      · intro k hk ih2
        have hbl := bs_le (sm c) k
        refine sw_iload dX5_sumBy_31 rfl ?_
        refine sw_aload_n dX5_sumBy_33 rfl ?_
        refine sw_getI dX5_sumBy_34 flX5_7 ⟨by decide, _, rfl, rfl⟩ ?_
        rw [hn]
        refine sw_icmpN_ge (tgt := 101) dX5_sumBy_37 (by decide) (by omega) (by omega) (fun hc => ?_) (fun hc => ?_)
        · omega
        · clear hc
          refine sw_aload_n dX5_sumBy_40 rfl ?_
          refine sw_getR dX5_sumBy_41 flX5_13 ⟨by decide, _, rfl, rfl⟩ ?_
          refine sw_iload_n dX5_sumBy_44 rfl ?_
          refine sw_iald dX5_sumBy_45 rfl (by simp only [plA]; omega) ?_
          rw [s1]
          refine sw_iload dX5_sumBy_46 rfl ?_
          first | refine sw_ishrN dX5_sumBy_48 (by omega) (by omega) ?_ | refine sw_ishr dX5_sumBy_48 ?_
          refine sw_iconst (v := nI 1) dX5_sumBy_49 (by decide) ?_
          first | refine sw_iand1 dX5_sumBy_50 ?_ | refine sw_iand dX5_sumBy_50 ?_
          refine sw_iconst (v := nI 1) dX5_sumBy_51 (by decide) ?_
          refine sw_icmpN_ne (tgt := 95) dX5_sumBy_52 (by decide) (by omega) (by omega) (fun hc => ?_) (fun hc => ?_)
          · have e : cm (sm c) b x j (k + 1) = cm (sm c) b x j k := by simp only [cm, if_neg hc]
            rw [e, ← bs_no (sm c) k hc] at ih2
            first | refine sw_iincN (b := 1) dX5_sumBy_95 rfl (by decide) rfl ?_ | refine sw_iinc dX5_sumBy_95 rfl rfl (by decide) rfl ?_
            refine sw_goto (tgt := 31) dX5_sumBy_98 (by decide) ?_
            exact ih2
          · have hsb := hc
            clear hc
            rw [← bs_yes (sm c) k hsb] at ih2
            have e : cm (sm c) b x j (k + 1) = (cm (sm c) b x j k && (decide (b / 2 ^ k % 2 = 0) || decide (j / 2 ^ bs (sm c) k % 2 = x / 2 ^ k % 2))) := by simp only [cm, if_pos hsb]
            rw [e] at ih2
            have yes : (cm (sm c) b x j k && (decide (b / 2 ^ k % 2 = 0) || decide (j / 2 ^ bs (sm c) k % 2 = x / 2 ^ k % 2))) = true → SW jX5_sumBy E0 (Zm (Ret (sbM (h 31) (sm c) b c x (2 ^ pop (sm c))) h)) 85 [some (.ref 28), some (.int (nI c)), some (.int (nI b)), some (.int (nI x)), some (.int (sbM (h 31) (sm c) b c x j)), some (.int (nI j)), some (.int (nI (bs (sm c) k))), some (.int (bI (cm (sm c) b x j k))), some (.int (nI k))] [] h := fun q => by
              rw [q] at ih2
              refine sw_iconst (v := nI 1) dX5_sumBy_85 (by decide) ?_
              refine sw_goto (tgt := 90) dX5_sumBy_86 (by decide) ?_
              refine sw_istore dX5_sumBy_90 (by decide) rfl ?_
              first | refine sw_iincN (b := 1) dX5_sumBy_92 rfl (by decide) rfl ?_ | refine sw_iinc dX5_sumBy_92 rfl rfl (by decide) rfl ?_
              first | refine sw_iincN (b := 1) dX5_sumBy_95 rfl (by decide) rfl ?_ | refine sw_iinc dX5_sumBy_95 rfl rfl (by decide) rfl ?_
              refine sw_goto (tgt := 31) dX5_sumBy_98 (by decide) ?_
              exact ih2
            have no : (cm (sm c) b x j k && (decide (b / 2 ^ k % 2 = 0) || decide (j / 2 ^ bs (sm c) k % 2 = x / 2 ^ k % 2))) = false → SW jX5_sumBy E0 (Zm (Ret (sbM (h 31) (sm c) b c x (2 ^ pop (sm c))) h)) 89 [some (.ref 28), some (.int (nI c)), some (.int (nI b)), some (.int (nI x)), some (.int (sbM (h 31) (sm c) b c x j)), some (.int (nI j)), some (.int (nI (bs (sm c) k))), some (.int (bI (cm (sm c) b x j k))), some (.int (nI k))] [] h := fun q => by
              rw [q] at ih2
              refine sw_iconst (v := nI 0) dX5_sumBy_89 (by decide) ?_
              refine sw_istore dX5_sumBy_90 (by decide) rfl ?_
              first | refine sw_iincN (b := 1) dX5_sumBy_92 rfl (by decide) rfl ?_ | refine sw_iinc dX5_sumBy_92 rfl rfl (by decide) rfl ?_
              first | refine sw_iincN (b := 1) dX5_sumBy_95 rfl (by decide) rfl ?_ | refine sw_iinc dX5_sumBy_95 rfl rfl (by decide) rfl ?_
              refine sw_goto (tgt := 31) dX5_sumBy_98 (by decide) ?_
              exact ih2
            refine sw_iload dX5_sumBy_55 rfl ?_
            refine sw_if_eq (tgt := 89) dX5_sumBy_57 (by decide) (fun hc => ?_) (fun hc => ?_)
            · exact no (by rw [bI_0 hc]; rfl)
            · have hcm := bI_1 hc
              clear hc
              have m1 : b / 2 ^ k % 2 < 2 := Nat.mod_lt _ (by omega)
              have m2 : j / 2 ^ bs (sm c) k % 2 < 2 := Nat.mod_lt _ (by omega)
              have m3 : x / 2 ^ k % 2 < 2 := Nat.mod_lt _ (by omega)
              refine sw_iload_n dX5_sumBy_60 rfl ?_
              refine sw_iload dX5_sumBy_61 rfl ?_
              first | refine sw_ishrN dX5_sumBy_63 (by omega) (by omega) ?_ | refine sw_ishr dX5_sumBy_63 ?_
              refine sw_iconst (v := nI 1) dX5_sumBy_64 (by decide) ?_
              first | refine sw_iand1 dX5_sumBy_65 ?_ | refine sw_iand dX5_sumBy_65 ?_
              refine sw_if_eq (tgt := 85) dX5_sumBy_66 (by decide) (fun hc => ?_) (fun hc => ?_)
              · have hb0 : b / 2 ^ k % 2 = 0 := (nI_eq (b := 0) (by omega) (by omega)).mp hc
                exact yes (by rw [hcm, decide_eq_true hb0]; rfl)
              · have hb0 : ¬ b / 2 ^ k % 2 = 0 := fun q => hc (by rw [q]; rfl)
                clear hc
                refine sw_iload dX5_sumBy_69 rfl ?_
                refine sw_iload dX5_sumBy_71 rfl ?_
                first | refine sw_ishrN dX5_sumBy_73 (by omega) (by omega) ?_ | refine sw_ishr dX5_sumBy_73 ?_
                refine sw_iconst (v := nI 1) dX5_sumBy_74 (by decide) ?_
                first | refine sw_iand1 dX5_sumBy_75 ?_ | refine sw_iand dX5_sumBy_75 ?_
                refine sw_iload_n dX5_sumBy_76 rfl ?_
                refine sw_iload dX5_sumBy_77 rfl ?_
                first | refine sw_ishrN dX5_sumBy_79 (by omega) (by omega) ?_ | refine sw_ishr dX5_sumBy_79 ?_
                refine sw_iconst (v := nI 1) dX5_sumBy_80 (by decide) ?_
                first | refine sw_iand1 dX5_sumBy_81 ?_ | refine sw_iand dX5_sumBy_81 ?_
                refine sw_icmpN_ne (tgt := 89) dX5_sumBy_82 (by decide) (by omega) (by omega) (fun hc => ?_) (fun hc => ?_)
                · exact no (by rw [hcm, decide_eq_false hb0, decide_eq_false hc]; rfl)
                · exact yes (by rw [hcm, decide_eq_true hc, Bool.or_true]; rfl)
abbrev sbF (h : Hp) (sm : Nat → Nat) (b c x : Nat) : Int32 := sbM (h 31) (sm c) b c x (2 ^ pop (sm c))
def uM (h : Hp) (n : Nat) (sm : Nat → Nat) (c d : Nat) : Bool := !allB (fun x => decide (¬ (x &&& (sm c &&& sm d) = x ∧ ¬ sbF h sm (sm c &&& sm d) c x = sbF h sm (sm c &&& sm d) d x))) (2 ^ n)
theorem c_areUnlikeM (T : TM h n z sm) {c d : Nat} (hc : c < z) (hd : d < z) : Ctr jX5_areUnlike [.ref 28, .int (nI c), .int (nI d)] h (Ret (bI (uM h n sm c d)) h) := by
  have hz8 := T.1.2.1
  have hn := T.1.2.2.1
  have hn6 := T.1.1
  have h64 := pow6 hn6
  have hb : sm c &&& sm d < 64 := Nat.lt_of_le_of_lt Nat.and_le_left (T.s64 hc)
  have s1 := (T.2 c hc).1
  have s2 := (T.2 d hd).1
  have hcc := hc
  clear hc
  refine ctr_start (by decide) (Nat.le_of_ble_eq_true rfl) rfl rfl ?_
  show SW jX5_areUnlike E0 _ 0 [some (.ref 28), some (.int (nI c)), some (.int (nI d)), none, none, none] [] _
  refine sw_aload_n dX5_areUnlike_0 rfl ?_
  refine sw_getR dX5_areUnlike_1 flX5_13 ⟨by decide, _, rfl, rfl⟩ ?_
  refine sw_iload_n dX5_areUnlike_4 rfl ?_
  refine sw_iald dX5_areUnlike_5 rfl (by simp only [plA]; omega) ?_
  rw [s1]
  refine sw_aload_n dX5_areUnlike_6 rfl ?_
  refine sw_getR dX5_areUnlike_7 flX5_13 ⟨by decide, _, rfl, rfl⟩ ?_
  refine sw_iload_n dX5_areUnlike_10 rfl ?_
  refine sw_iald dX5_areUnlike_11 rfl (by simp only [plA]; omega) ?_
  rw [s2]
  refine sw_iandN dX5_areUnlike_12 ?_
  refine sw_istore_n dX5_areUnlike_13 (by decide) rfl ?_
  refine sw_iconst (v := nI 0) dX5_areUnlike_14 (by decide) ?_
  refine sw_istore dX5_areUnlike_15 (by decide) rfl ?_
  refine sw_iconst (v := nI 0) dX5_areUnlike_17 (by decide) ?_
  refine sw_istore dX5_areUnlike_18 (by decide) rfl ?_
  refine lp_up (n := 2 ^ n) (S := fun i => allB (fun x => decide (¬ (x &&& (sm c &&& sm d) = x ∧ ¬ sbF h sm (sm c &&& sm d) c x = sbF h sm (sm c &&& sm d) d x))) i = true → SW jX5_areUnlike E0 (Zm (Ret (bI (uM h n sm c d)) h)) 20 [some (.ref 28), some (.int (nI c)), some (.int (nI d)), some (.int (nI (sm c &&& sm d))), some (.int (nI 0)), some (.int (nI i))] [] h) ?_ ?_ 0 (Nat.zero_le _) rfl
  · intro ha
    refine sw_iload dX5_areUnlike_20 rfl ?_
    refine sw_aload_n dX5_areUnlike_22 rfl ?_
    refine sw_cvi (i := 0) (c_hiddenMany hn hn6) dX5_areUnlike_23 lkX5_88 (by decide) ⟨by decide, _, rfl, rfl⟩ rfl rfl rfl (Nat.le_of_ble_eq_true rfl) ?_
    refine sw_icmpN_ge (tgt := 75) dX5_areUnlike_26 (by decide) (by omega) (by omega) (fun hc => ?_) (fun hc => ?_)
    · refine sw_iload dX5_areUnlike_75 rfl ?_
      refine sw_zret dX5_areUnlike_77 rfl rfl rfl rfl ?_
      exact ⟨by unfold uM; rw [ha]; rfl, rfl⟩
    · omega
  · intro i hi ih ha
    have nx : ¬ (i &&& (sm c &&& sm d) = i ∧ ¬ sbF h sm (sm c &&& sm d) c i = sbF h sm (sm c &&& sm d) d i) → SW jX5_areUnlike E0 (Zm (Ret (bI (uM h n sm c d)) h)) 66 [some (.ref 28), some (.int (nI c)), some (.int (nI d)), some (.int (nI (sm c &&& sm d))), some (.int (nI 0)), some (.int (nI i))] [] h := fun q => by
      refine sw_iconst (v := nI 0) dX5_areUnlike_66 (by decide) ?_
      refine sw_istore dX5_areUnlike_67 (by decide) rfl ?_
      first | refine sw_iincN (b := 1) dX5_areUnlike_69 rfl (by decide) rfl ?_ | refine sw_iinc dX5_areUnlike_69 rfl rfl (by decide) rfl ?_
      refine sw_goto (tgt := 20) dX5_areUnlike_72 (by decide) ?_
      exact ih (by simp only [allB, ha, Bool.true_and]; exact decide_eq_true q)
    refine sw_iload dX5_areUnlike_20 rfl ?_
    refine sw_aload_n dX5_areUnlike_22 rfl ?_
    refine sw_cvi (i := 0) (c_hiddenMany hn hn6) dX5_areUnlike_23 lkX5_88 (by decide) ⟨by decide, _, rfl, rfl⟩ rfl rfl rfl (Nat.le_of_ble_eq_true rfl) ?_
    refine sw_icmpN_ge (tgt := 75) dX5_areUnlike_26 (by decide) (by omega) (by omega) (fun hc => ?_) (fun hc => ?_)
    · omega
    · clear hc
      refine sw_iload dX5_areUnlike_29 rfl ?_
      refine sw_if_ne (tgt := 75) dX5_areUnlike_31 (by decide) (fun hc => ?_) (fun hc => ?_)
      · exact absurd rfl hc
      · clear hc
        refine sw_iload dX5_areUnlike_34 rfl ?_
        refine sw_iload_n dX5_areUnlike_36 rfl ?_
        refine sw_iconst (v := (-1)) dX5_areUnlike_37 (by decide) ?_
        refine sw_ixor dX5_areUnlike_38 ?_
        refine sw_iand dX5_areUnlike_39 ?_
        refine sw_if_ne (tgt := 66) dX5_areUnlike_40 (by decide) (fun hc => ?_) (fun hc => ?_)
        · exact nx (fun q => hc ((nb_int (by omega) hb).mpr q.1))
        · have hsub := (nb_int (by omega) hb).mp hc
          clear hc
          refine sw_aload_n dX5_areUnlike_43 rfl ?_
          refine sw_iload_n dX5_areUnlike_44 rfl ?_
          refine sw_iload_n dX5_areUnlike_45 rfl ?_
          refine sw_iload dX5_areUnlike_46 rfl ?_
          refine sw_cvi (i := 0) (c_sumBy T hcc hb (x := i) (by omega)) dX5_areUnlike_48 lkX5_96 (by decide) ⟨by decide, _, rfl, rfl⟩ rfl rfl rfl (Nat.le_of_ble_eq_true rfl) ?_
          refine sw_aload_n dX5_areUnlike_51 rfl ?_
          refine sw_iload_n dX5_areUnlike_52 rfl ?_
          refine sw_iload_n dX5_areUnlike_53 rfl ?_
          refine sw_iload dX5_areUnlike_54 rfl ?_
          refine sw_cvi (i := 0) (c_sumBy T hd hb (x := i) (by omega)) dX5_areUnlike_56 lkX5_96 (by decide) ⟨by decide, _, rfl, rfl⟩ rfl rfl rfl (Nat.le_of_ble_eq_true rfl) ?_
          refine sw_icmp_eq (tgt := 66) dX5_areUnlike_59 (by decide) (fun hc => ?_) (fun hc => ?_)
          · exact nx (fun q => q.2 hc)
          · have hu : uM h n sm c d = true := by
              unfold uM
              rw [allB_f hi (decide_eq_false (fun q => q ⟨hsub, hc⟩))]
              rfl
            refine sw_iconst (v := nI 1) dX5_areUnlike_62 (by decide) ?_
            refine sw_goto (tgt := 67) dX5_areUnlike_63 (by decide) ?_
            refine sw_istore dX5_areUnlike_67 (by decide) rfl ?_
            first | refine sw_iincN (b := 1) dX5_areUnlike_69 rfl (by decide) rfl ?_ | refine sw_iinc dX5_areUnlike_69 rfl rfl (by decide) rfl ?_
            refine sw_goto (tgt := 20) dX5_areUnlike_72 (by decide) ?_
            refine sw_iload dX5_areUnlike_20 rfl ?_
            refine sw_aload_n dX5_areUnlike_22 rfl ?_
            refine sw_cvi (i := 0) (c_hiddenMany hn hn6) dX5_areUnlike_23 lkX5_88 (by decide) ⟨by decide, _, rfl, rfl⟩ rfl rfl rfl (Nat.le_of_ble_eq_true rfl) ?_
            clear hc
            refine sw_icmp_ge (tgt := 75) dX5_areUnlike_26 (by decide) (fun hc => ?_) (fun hc => ?_)
            · refine sw_iload dX5_areUnlike_75 rfl ?_
              refine sw_zret dX5_areUnlike_77 rfl rfl rfl rfl ?_
              exact ⟨by rw [hu]; rfl, rfl⟩
            · clear hc
              refine sw_iload dX5_areUnlike_29 rfl ?_
              refine sw_if_ne (tgt := 75) dX5_areUnlike_31 (by decide) (fun hc => ?_) (fun hc => ?_)
              · refine sw_iload dX5_areUnlike_75 rfl ?_
                refine sw_zret dX5_areUnlike_77 rfl rfl rfl rfl ?_
                exact ⟨by rw [hu]; rfl, rfl⟩
              · exact absurd hc (by decide)
theorem c_findQuarrel (T : TM h n z sm) : Ctr jX5_findQuarrel [.ref 28] h (Ret (fq (uM h n sm) z) h) := by
  have hz8 := T.1.2.1
  have hz := T.1.2.2.2
  refine ctr_start (by decide) (Nat.le_of_ble_eq_true rfl) rfl rfl ?_
  show SW jX5_findQuarrel E0 _ 0 [some (.ref 28), none, none] [] _
  refine sw_iconst (v := nI 0) dX5_findQuarrel_0 (by decide) ?_
  refine sw_istore_n dX5_findQuarrel_1 (by decide) rfl ?_
  have key := lp_up (n := z) (S := fun i => fqO (uM h n sm) z (z - i) i = fq (uM h n sm) z → ∀ v2, SW jX5_findQuarrel E0 (Zm (Ret (fq (uM h n sm) z) h)) 2 [some (.ref 28), some (.int (nI i)), v2] [] h) ?_ ?_ 0 (by omega) rfl none
  · exact key
  · intro he v2
    refine sw_iload_n dX5_findQuarrel_2 rfl ?_
    refine sw_aload_n dX5_findQuarrel_3 rfl ?_
    refine sw_getI dX5_findQuarrel_4 flX5_56 ⟨by decide, _, rfl, rfl⟩ ?_
    rw [hz]
    refine sw_icmpN_ge (tgt := 50) dX5_findQuarrel_7 (by decide) (by omega) (by omega) (fun hc => ?_) (fun hc => ?_)
    · refine sw_bipush (v := (-4)) dX5_findQuarrel_50 (by decide) ?_
      refine sw_iret dX5_findQuarrel_52 rfl rfl rfl ?_
      exact ⟨by rw [← he, Nat.sub_self]; rfl, rfl⟩
    · omega
  · intro i hi ih he v2
    refine sw_iload_n dX5_findQuarrel_2 rfl ?_
    refine sw_aload_n dX5_findQuarrel_3 rfl ?_
    refine sw_getI dX5_findQuarrel_4 flX5_56 ⟨by decide, _, rfl, rfl⟩ ?_
    rw [hz]
    refine sw_icmpN_ge (tgt := 50) dX5_findQuarrel_7 (by decide) (by omega) (by omega) (fun hc => ?_) (fun hc => ?_)
    · omega
    · clear hc
      have e1 : z - i = (z - (i + 1)) + 1 := by omega
      rw [e1] at he
      simp only [fqO] at he
      refine sw_iload_n dX5_findQuarrel_10 rfl ?_
      refine sw_iconst (v := nI 1) dX5_findQuarrel_11 (by decide) ?_
      first | refine sw_iaddN dX5_findQuarrel_12 ?_ | refine sw_iadd dX5_findQuarrel_12 ?_
      refine sw_istore_n dX5_findQuarrel_13 (by decide) rfl ?_
      have key2 := lp_up (n := z) (S := fun d => i + 1 ≤ d → fqI (uM h n sm) i (z - d) d = fqI (uM h n sm) i (z - (i + 1)) (i + 1) → SW jX5_findQuarrel E0 (Zm (Ret (fq (uM h n sm) z) h)) 14 [some (.ref 28), some (.int (nI i)), some (.int (nI d))] [] h) ?_ ?_ (i + 1) (by omega) (by omega) rfl
      · exact key2
      · intro hid hf
        refine sw_iload_n dX5_findQuarrel_14 rfl ?_
        refine sw_aload_n dX5_findQuarrel_15 rfl ?_
        refine sw_getI dX5_findQuarrel_16 flX5_56 ⟨by decide, _, rfl, rfl⟩ ?_
        rw [hz]
        refine sw_icmpN_ge (tgt := 44) dX5_findQuarrel_19 (by decide) (by omega) (by omega) (fun hc => ?_) (fun hc => ?_)
        · first | refine sw_iincN (b := 1) dX5_findQuarrel_44 rfl (by decide) rfl ?_ | refine sw_iinc dX5_findQuarrel_44 rfl rfl (by decide) rfl ?_
          refine sw_goto (tgt := 2) dX5_findQuarrel_47 (by decide) ?_
          refine ih ?_ _
          rw [← he, ← hf, Nat.sub_self]
          rfl
        · omega
      · intro d hd ih2 hid hf
        refine sw_iload_n dX5_findQuarrel_14 rfl ?_
        refine sw_aload_n dX5_findQuarrel_15 rfl ?_
        refine sw_getI dX5_findQuarrel_16 flX5_56 ⟨by decide, _, rfl, rfl⟩ ?_
        rw [hz]
        refine sw_icmpN_ge (tgt := 44) dX5_findQuarrel_19 (by decide) (by omega) (by omega) (fun hc => ?_) (fun hc => ?_)
        · omega
        · clear hc
          refine sw_aload_n dX5_findQuarrel_22 rfl ?_
          refine sw_iload_n dX5_findQuarrel_23 rfl ?_
          refine sw_iload_n dX5_findQuarrel_24 rfl ?_
          refine sw_cvi (i := 0) (c_areUnlikeM T hi hd) dX5_findQuarrel_25 lkX5_100 (by decide) ⟨by decide, _, rfl, rfl⟩ rfl rfl rfl (Nat.le_of_ble_eq_true rfl) ?_
          have e2 : z - d = (z - (d + 1)) + 1 := by omega
          rw [e2] at hf
          simp only [fqI] at hf
          refine sw_if_eq (tgt := 38) dX5_findQuarrel_28 (by decide) (fun hc => ?_) (fun hc => ?_)
          · have hu := bI_0 hc
            rw [hu] at hf
            first | refine sw_iincN (b := 1) dX5_findQuarrel_38 rfl (by decide) rfl ?_ | refine sw_iinc dX5_findQuarrel_38 rfl rfl (by decide) rfl ?_
            refine sw_goto (tgt := 14) dX5_findQuarrel_41 (by decide) ?_
            exact ih2 (by omega) hf
          · have hu := bI_1 hc
            rw [hu] at hf
            rw [← hf] at he
            refine sw_bipush (v := nI 8) dX5_findQuarrel_31 (by decide) ?_
            refine sw_iload_n dX5_findQuarrel_33 rfl ?_
            first | refine sw_imulN dX5_findQuarrel_34 ?_ | refine sw_imul dX5_findQuarrel_34 ?_
            refine sw_iload_n dX5_findQuarrel_35 rfl ?_
            first | refine sw_iaddN dX5_findQuarrel_36 ?_ | refine sw_iadd dX5_findQuarrel_36 ?_
            refine sw_iret dX5_findQuarrel_37 rfl rfl rfl ?_
            exact ⟨by rw [← he]; rfl, rfl⟩
theorem c_isLost (T : TM h n z sm) {c j : Nat} (hc : c < z) (hj : j < 8) : Ctr jX5_isLost [.ref 28, .int (nI c), .int (nI j)] h (Ret (bI (decide (0 < h 31 (8 * c + j)) && !metB (posM h z sm) sm (8 * c + j) (2 ^ n))) h) := by
  have hz8 := T.1.2.1
  have hn := T.1.2.2.1
  have hn6 := T.1.1
  have h64 := pow6 hn6
  have ed : (8 * c + j) / 8 = c := by omega
  have em : (8 * c + j) % 8 = j := by omega
  have hcc := hc
  clear hc
  refine ctr_start (by decide) (Nat.le_of_ble_eq_true rfl) rfl rfl ?_
  show SW jX5_isLost E0 _ 0 [some (.ref 28), some (.int (nI c)), some (.int (nI j)), none, none] [] _
  refine sw_aload_n dX5_isLost_0 rfl ?_
  refine sw_getR dX5_isLost_1 flX5_20 ⟨by decide, _, rfl, rfl⟩ ?_
  refine sw_bipush (v := nI 8) dX5_isLost_4 (by decide) ?_
  refine sw_iload_n dX5_isLost_6 rfl ?_
  first | refine sw_imulN dX5_isLost_7 ?_ | refine sw_imul dX5_isLost_7 ?_
  refine sw_iload_n dX5_isLost_8 rfl ?_
  first | refine sw_iaddN dX5_isLost_9 ?_ | refine sw_iadd dX5_isLost_9 ?_
  refine sw_iald dX5_isLost_10 rfl (by simp only [plA]; omega) ?_
  have zero : (decide (0 < h 31 (8 * c + j)) && !metB (posM h z sm) sm (8 * c + j) (2 ^ n)) = false → ∀ i : Nat, SW jX5_isLost E0 (Zm (Ret (bI (decide (0 < h 31 (8 * c + j)) && !metB (posM h z sm) sm (8 * c + j) (2 ^ n))) h)) 23 [some (.ref 28), some (.int (nI c)), some (.int (nI j)), some (.int (nI 0)), some (.int (nI i))] [] h := fun q i => by
    rw [q]
    refine sw_iload dX5_isLost_23 rfl ?_
    refine sw_aload_n dX5_isLost_25 rfl ?_
    refine sw_cvi (i := 0) (c_hiddenMany hn hn6) dX5_isLost_26 lkX5_88 (by decide) ⟨by decide, _, rfl, rfl⟩ rfl rfl rfl (Nat.le_of_ble_eq_true rfl) ?_
    refine sw_icmp_ge (tgt := 68) dX5_isLost_29 (by decide) (fun hc => ?_) (fun hc => ?_)
    · refine sw_iload_n dX5_isLost_68 rfl ?_
      refine sw_zret dX5_isLost_69 rfl rfl rfl rfl ?_
      exact ⟨rfl, rfl⟩
    · clear hc
      refine sw_iload_n dX5_isLost_32 rfl ?_
      refine sw_if_eq (tgt := 68) dX5_isLost_33 (by decide) (fun hc => ?_) (fun hc => ?_)
      · refine sw_iload_n dX5_isLost_68 rfl ?_
        refine sw_zret dX5_isLost_69 rfl rfl rfl rfl ?_
        exact ⟨rfl, rfl⟩
      · exact absurd rfl hc
  refine sw_if_le (tgt := 18) dX5_isLost_11 (by decide) (fun hc => ?_) (fun hc => ?_)
  · have hw : ¬ 0 < h 31 (8 * c + j) := Int32.not_lt.mpr hc
    refine sw_iconst (v := nI 0) dX5_isLost_18 (by decide) ?_
    refine sw_istore_n dX5_isLost_19 (by decide) rfl ?_
    refine sw_iconst (v := nI 0) dX5_isLost_20 (by decide) ?_
    refine sw_istore dX5_isLost_21 (by decide) rfl ?_
    exact zero (by rw [decide_eq_false hw, Bool.false_and]) 0
  · have hw : 0 < h 31 (8 * c + j) := Int32.not_le.mp hc
    clear hc
    refine sw_iconst (v := nI 1) dX5_isLost_14 (by decide) ?_
    refine sw_goto (tgt := 19) dX5_isLost_15 (by decide) ?_
    refine sw_istore_n dX5_isLost_19 (by decide) rfl ?_
    refine sw_iconst (v := nI 0) dX5_isLost_20 (by decide) ?_
    refine sw_istore dX5_isLost_21 (by decide) rfl ?_
    refine lp_up (n := 2 ^ n) (S := fun i => metB (posM h z sm) sm (8 * c + j) i = false → SW jX5_isLost E0 (Zm (Ret (bI (decide (0 < h 31 (8 * c + j)) && !metB (posM h z sm) sm (8 * c + j) (2 ^ n))) h)) 23 [some (.ref 28), some (.int (nI c)), some (.int (nI j)), some (.int (nI 1)), some (.int (nI i))] [] h) ?_ ?_ 0 (Nat.zero_le _) rfl
    · intro ha
      refine sw_iload dX5_isLost_23 rfl ?_
      refine sw_aload_n dX5_isLost_25 rfl ?_
      refine sw_cvi (i := 0) (c_hiddenMany hn hn6) dX5_isLost_26 lkX5_88 (by decide) ⟨by decide, _, rfl, rfl⟩ rfl rfl rfl (Nat.le_of_ble_eq_true rfl) ?_
      refine sw_icmpN_ge (tgt := 68) dX5_isLost_29 (by decide) (by omega) (by omega) (fun hc => ?_) (fun hc => ?_)
      · refine sw_iload_n dX5_isLost_68 rfl ?_
        refine sw_zret dX5_isLost_69 rfl rfl rfl rfl ?_
        exact ⟨by rw [ha, decide_eq_true hw]; rfl, rfl⟩
      · omega
    · intro i hi ih ha
      have hj8 := T.j8 hcc i
      have em1 : metB (posM h z sm) sm (8 * c + j) (i + 1) = (posM h z sm i && decide (jnt (sm c) i = j)) := by
        simp only [metB]
        rw [ha, Bool.false_or, ed, em]
      have nx : (posM h z sm i && decide (jnt (sm c) i = j)) = false → SW jX5_isLost E0 (Zm (Ret (bI (decide (0 < h 31 (8 * c + j)) && !metB (posM h z sm) sm (8 * c + j) (2 ^ n))) h)) 56 [some (.ref 28), some (.int (nI c)), some (.int (nI j)), some (.int (nI 1)), some (.int (nI i))] [] h := fun q => by
        refine sw_iconst (v := nI 1) dX5_isLost_56 (by decide) ?_
        refine sw_goto (tgt := 61) dX5_isLost_57 (by decide) ?_
        refine sw_istore_n dX5_isLost_61 (by decide) rfl ?_
        first | refine sw_iincN (b := 1) dX5_isLost_62 rfl (by decide) rfl ?_ | refine sw_iinc dX5_isLost_62 rfl rfl (by decide) rfl ?_
        refine sw_goto (tgt := 23) dX5_isLost_65 (by decide) ?_
        exact ih (by rw [em1]; exact q)
      refine sw_iload dX5_isLost_23 rfl ?_
      refine sw_aload_n dX5_isLost_25 rfl ?_
      refine sw_cvi (i := 0) (c_hiddenMany hn hn6) dX5_isLost_26 lkX5_88 (by decide) ⟨by decide, _, rfl, rfl⟩ rfl rfl rfl (Nat.le_of_ble_eq_true rfl) ?_
      refine sw_icmpN_ge (tgt := 68) dX5_isLost_29 (by decide) (by omega) (by omega) (fun hc => ?_) (fun hc => ?_)
      · omega
      · clear hc
        refine sw_iload_n dX5_isLost_32 rfl ?_
        refine sw_if_eq (tgt := 68) dX5_isLost_33 (by decide) (fun hc => ?_) (fun hc => ?_)
        · exact absurd hc (by decide)
        · clear hc
          refine sw_aload_n dX5_isLost_36 rfl ?_
          refine sw_iload_n dX5_isLost_37 rfl ?_
          refine sw_iload dX5_isLost_38 rfl ?_
          refine sw_cvi (i := 0) (c_jointOf T hcc (x := i) (by omega)) dX5_isLost_40 lkX5_92 (by decide) ⟨by decide, _, rfl, rfl⟩ rfl rfl rfl (Nat.le_of_ble_eq_true rfl) ?_
          refine sw_iload_n dX5_isLost_43 rfl ?_
          refine sw_icmpN_ne (tgt := 56) dX5_isLost_44 (by decide) (by omega) (by omega) (fun hc => ?_) (fun hc => ?_)
          · exact nx (by rw [decide_eq_false hc, Bool.and_false])
          · have hjj := hc
            clear hc
            refine sw_aload_n dX5_isLost_47 rfl ?_
            refine sw_iload dX5_isLost_48 rfl ?_
            refine sw_cvi (i := 0) (c_isPossibleM T (x := i) (by omega)) dX5_isLost_50 lkX5_106 (by decide) ⟨by decide, _, rfl, rfl⟩ rfl rfl rfl (Nat.le_of_ble_eq_true rfl) ?_
            refine sw_if_ne (tgt := 60) dX5_isLost_53 (by decide) (fun hc => ?_) (fun hc => ?_)
            · have hp := bI_1 hc
              refine sw_iconst (v := nI 0) dX5_isLost_60 (by decide) ?_
              refine sw_istore_n dX5_isLost_61 (by decide) rfl ?_
              first | refine sw_iincN (b := 1) dX5_isLost_62 rfl (by decide) rfl ?_ | refine sw_iinc dX5_isLost_62 rfl rfl (by decide) rfl ?_
              refine sw_goto (tgt := 23) dX5_isLost_65 (by decide) ?_
              have hm : metB (posM h z sm) sm (8 * c + j) (i + 1) = true := by rw [em1, hp, decide_eq_true hjj]; rfl
              have hmono : ∀ d, metB (posM h z sm) sm (8 * c + j) (i + 1 + d) = true := by
                intro d
                induction d with
                | zero => exact hm
                | succ d ihd => rw [← Nat.add_assoc]; simp only [metB]; rw [ihd, Bool.true_or]
              have hmf : metB (posM h z sm) sm (8 * c + j) (2 ^ n) = true := by
                have := hmono (2 ^ n - (i + 1))
                rw [show i + 1 + (2 ^ n - (i + 1)) = 2 ^ n by omega] at this
                exact this
              exact zero (by rw [hmf]; simp) (i + 1)
            · exact nx (by rw [bI_0 hc, Bool.false_and])
end MOD
