/-! calls: possible, lost -/
theorem lp_dn {S : Nat → Prop} {n : Nat} (h0 : S 0) (hs : ∀ i, i < n → S i → S (i + 1)) : ∀ i, i ≤ n → S i
  | 0, _ => h0
  | i + 1, hi => hs i (by omega) (lp_dn h0 hs i (by omega))
def lR (p : Nat → Bool) : Nat → Nat → Int32
  | _, 0 => -4
  | i, m + 1 => if p i then nI i else lR p (i + 1) m
theorem fstL_0 (p : Nat → Bool) : ∀ i, fa_cnt p i = 0 → fstL p i = -4
  | 0, _ => rfl
  | i + 1, h => by
    cases hp : p i with
    | true => rw [fa_cnt_yes hp] at h; omega
    | false =>
      rw [fa_cnt_no hp] at h
      simp only [fstL, hp]
      exact fstL_0 p i h
theorem fstL_no (p : Nat → Bool) : ∀ i, i < 2 ^ 20 → fstL p i = -4 → fa_cnt p i = 0
  | 0, _, _ => rfl
  | i + 1, hi, h => by
    cases hp : p i with
    | true =>
      simp only [fstL, hp, if_true] at h
      by_cases q : fa_cnt p i = 0
      · rw [if_pos q] at h
        have := congrArg Int32.toInt h
        rw [nI_toInt (by omega), show (-4 : Int32).toInt = -4 by decide] at this
        omega
      · rw [if_neg q] at h
        exact absurd (fstL_no p i (by omega) h) q
    | false =>
      rw [fa_cnt_no hp]
      simp only [fstL, hp] at h
      exact fstL_no p i (by omega) h
theorem lR_fst (p : Nat → Bool) : ∀ m i, (if fa_cnt p i = 0 then lR p i m else fstL p i) = fstL p (i + m)
  | 0, i => by
    by_cases q : fa_cnt p i = 0
    · rw [if_pos q, Nat.add_zero, fstL_0 p i q]; rfl
    · rw [if_neg q, Nat.add_zero]
  | m + 1, i => by
    rw [show i + (m + 1) = (i + 1) + m by omega, ← lR_fst p m (i + 1)]
    cases hp : p i with
    | true =>
      have hne : ¬ fa_cnt p (i + 1) = 0 := by rw [fa_cnt_yes hp]; omega
      rw [if_neg hne]
      simp only [lR, fstL, hp, if_true]
    | false =>
      rw [fa_cnt_no hp]
      have e1 : fstL p (i + 1) = fstL p i := by simp only [fstL, hp]; rfl
      have e2 : lR p i (m + 1) = lR p (i + 1) m := by simp only [lR, hp]; rfl
      rw [e1, e2]
theorem lR_all (p : Nat → Bool) (m : Nat) : lR p 0 m = fstL p m := by
  have := lR_fst p m 0
  rw [if_pos (show fa_cnt p 0 = 0 from rfl), Nat.zero_add] at this
  exact this
theorem fstL_cong {p q : Nat → Bool} : ∀ {n : Nat}, (∀ k, k < n → p k = q k) → fstL p n = fstL q n
  | 0, _ => rfl
  | n + 1, h => by
    simp only [fstL]
    rw [fstL_cong (fun k hk => h k (by omega)), h n (by omega), fa_cnt_cong (fun k hk => h k (by omega))]
theorem cnt_le_of {p : Nat → Bool} {i n : Nat} (h : i ≤ n) : fa_cnt p i ≤ fa_cnt p n := by
  obtain ⟨d, rfl⟩ : ∃ d, n = i + d := ⟨n - i, by omega⟩
  clear h
  induction d with
  | zero => exact Nat.le_refl _
  | succ d ih =>
    rw [← Nat.add_assoc]
    cases hp : p (i + d) with
    | true => rw [fa_cnt_yes hp]; omega
    | false => rw [fa_cnt_no hp]; exact ih
theorem posXM {h g : Hp} {n z : Nat} {sm lf : Nat → Nat} (T : TX h n z sm) (W : WI h z sm lf) (e : g 31 = h 31) (x : Nat) : posX h z sm x = posM g z sm x := by
  have hz8 := T.1.2.1
  unfold posX posM
  refine allB_cong (fun c hc => ?_)
  have hj := T.j8 hc x
  have w := W.1 (8 * c + jnt (sm c) x) (by omega)
  rw [e, w.1, w.2.1]
  by_cases q : lf (8 * c + jnt (sm c) x) = 0
  · rw [q]; decide
  · have q1 : ¬ nI (lf (8 * c + jnt (sm c) x)) = 0 := fun r => q ((nI_eq (b := 0) (by omega) (by omega)).mp r)
    have q2 : 0 < nI (lf (8 * c + jnt (sm c) x)) := nI_lt (a := 0) (by omega) (by omega)
    rw [decide_eq_true q1, decide_eq_true q2]
theorem metXM {P R : Nat → Bool} {sm : Nat → Nat} (e : ∀ x, P x = R x) (k : Nat) : ∀ m, metB P sm k m = metB R sm k m
  | 0 => rfl
  | m + 1 => by simp only [metB]; rw [metXM e k m, e]
section OPS
variable {h : Hp} {n z : Nat} {sm : Nat → Nat} {Q : Option Value → Hp → Prop}
theorem x_possible_bad {w : Int32} (hb : rg 0 1 w = false) (hQ : Q (some (.int (-1))) h) : Ctr jX4_possible [.ref 0, .int w] h Q := by
  refine ctr_start (by decide) (Nat.le_of_ble_eq_true rfl) rfl rfl ?_
  show SW jX4_possible E0 _ 0 [some (.ref 0), some (.int w), none, none, none] [] _
  refine sw_iload_n dX4_possible_0 rfl ?_
  refine sw_if_eq (tgt := 11) dX4_possible_1 (by decide) (fun hc => ?_) (fun hc => ?_)
  · rw [hc] at hb; exact absurd hb (by decide)
  · clear hc
    refine sw_iload_n dX4_possible_4 rfl ?_
    refine sw_iconst (v := nI 1) dX4_possible_5 (by decide) ?_
    refine sw_icmp_eq (tgt := 11) dX4_possible_6 (by decide) (fun hc => ?_) (fun hc => ?_)
    · rw [hc] at hb; exact absurd hb (by decide)
    · refine sw_iconst (v := (-1)) dX4_possible_9 (by decide) ?_
      refine sw_iret dX4_possible_10 rfl rfl rfl ?_
      exact hQ
theorem m_possible_bad {w : Int32} (hb : rg 0 1 w = false) (hQ : Q (some (.int (-1))) h) : Ctr jX5_possible [.ref 28, .int w] h Q := by
  refine ctr_start (by decide) (Nat.le_of_ble_eq_true rfl) rfl rfl ?_
  show SW jX5_possible E0 _ 0 [some (.ref 28), some (.int w), none, none, none] [] _
  refine sw_iload_n dX5_possible_0 rfl ?_
  refine sw_i2l dX5_possible_1 ?_
  refine sw_lconst (v := lN 0) dX5_possible_2 (by decide) ?_
  refine sw_lconst (v := lN 1) dX5_possible_3 (by decide) ?_
  refine sw_csi (c_inR (l := 0) (u := 1) (by decide) (by decide)) dX5_possible_4 lkX5_59 (by decide) rfl rfl (Nat.le_of_ble_eq_true rfl) ?_
  rw [hb]
  refine sw_if_ne (tgt := 12) dX5_possible_7 (by decide) (fun hc => ?_) (fun hc => ?_)
  · exact absurd rfl hc
  · refine sw_iconst (v := (-1)) dX5_possible_10 (by decide) ?_
    refine sw_iret dX5_possible_11 rfl rfl rfl ?_
    exact hQ
theorem x_possible (T : TX h n z sm) {w : Nat} (hw : w < 2) (h0 : z = 0 → Q (some (.int (-2))) h) (hQ : ¬ z = 0 → Q (some (.int (if w = 0 then nI (fa_cnt (posX h z sm) (2 ^ n)) else fstL (posX h z sm) (2 ^ n)))) h) : Ctr jX4_possible [.ref 0, .int (nI w)] h Q := by
  have hz8 := T.1.2.1
  have h64 := pow6 T.1.1
  have hpos : 0 < 2 ^ n := Nat.two_pow_pos n
  have fin : SW jX4_possible E0 (Zm Q) 11 [some (.ref 0), some (.int (nI w)), none, none, none] [] h := by
    refine sw_aload_n dX4_possible_11 rfl ?_
    refine sw_getR dX4_possible_12 flX4_10 ⟨by decide, _, rfl, rfl⟩ ?_
    refine sw_getNI dX4_possible_15 fnX4_59 ⟨by decide, _, rfl, rfl⟩ ?_
    rw [T.1.2.2.2]
    refine sw_if_ne (tgt := 24) dX4_possible_18 (by decide) (fun hc => ?_) (fun hc => ?_)
    · rw [z0_iff hz8] at hc
      have hQ := hQ hc
      clear hc
      refine sw_iconst (v := nI 0) dX4_possible_24 (by decide) ?_
      refine sw_istore_n dX4_possible_25 (by decide) rfl ?_
      refine sw_bipush (v := (-4)) dX4_possible_26 (by decide) ?_
      refine sw_istore_n dX4_possible_28 (by decide) rfl ?_
      refine sw_aload_n dX4_possible_29 rfl ?_
      refine sw_getR dX4_possible_30 flX4_10 ⟨by decide, _, rfl, rfl⟩ ?_
      refine sw_cvi (i := 0) (c_hiddenCount T.1.2.2.1 T.1.1) dX4_possible_33 lkX4_45 (by decide) ⟨by decide, _, rfl, rfl⟩ rfl rfl rfl (Nat.le_of_ble_eq_true rfl) ?_
      refine sw_iconst (v := nI 1) dX4_possible_36 (by decide) ?_
      first | refine sw_isubN dX4_possible_37 (by omega) ?_ | refine sw_isub dX4_possible_37 ?_
      refine sw_istore dX4_possible_38 (by decide) rfl ?_
      rw [← sb_m1 hpos]
      have key := lp_dn (n := 2 ^ n) (S := fun i => SW jX4_possible E0 (Zm Q) 40 [some (.ref 0), some (.int (nI w)), some (.int (nI (fa_cnt (posX h z sm) (2 ^ n) - fa_cnt (posX h z sm) i))), some (.int (lR (posX h z sm) i (2 ^ n - i))), some (.int (nI i + (-1)))] [] h) ?_ ?_ (2 ^ n) (Nat.le_refl _)
      · rw [Nat.sub_self, Nat.sub_self] at key
        exact key
      · rw [show fa_cnt (posX h z sm) 0 = 0 from rfl, Nat.sub_zero, Nat.sub_zero, lR_all]
        refine sw_iload dX4_possible_40 rfl ?_
        refine sw_if_lt (tgt := 69) dX4_possible_42 (by decide) (fun hc => ?_) (fun hc => ?_)
        · clear hc
          refine sw_iload_n dX4_possible_69 rfl ?_
          rcases (show w = 0 ∨ w = 1 by omega) with rfl | rfl
          · refine sw_if_ne (tgt := 77) dX4_possible_70 (by decide) (fun hc => ?_) (fun hc => ?_)
            · exact absurd rfl hc
            · refine sw_iload_n dX4_possible_73 rfl ?_
              refine sw_goto (tgt := 78) dX4_possible_74 (by decide) ?_
              refine sw_iret dX4_possible_78 rfl rfl rfl ?_
              exact hQ
          · refine sw_if_ne (tgt := 77) dX4_possible_70 (by decide) (fun hc => ?_) (fun hc => ?_)
            · refine sw_iload_n dX4_possible_77 rfl ?_
              refine sw_iret dX4_possible_78 rfl rfl rfl ?_
              exact hQ
            · exact absurd hc (by decide)
        · exact absurd (by decide) hc
      · intro i hi ih
        have hcl := cnt_le_of (p := posX h z sm) (i := i + 1) (n := 2 ^ n) (by omega)
        rw [pk_m1]
        refine sw_iload dX4_possible_40 rfl ?_
        refine sw_if_lt (tgt := 69) dX4_possible_42 (by decide) (fun hc => ?_) (fun hc => ?_)
        · exact absurd hc (nI_pos (by omega))
        · clear hc
          have er : 2 ^ n - i = (2 ^ n - (i + 1)) + 1 := by omega
          refine sw_aload_n dX4_possible_45 rfl ?_
          refine sw_getR dX4_possible_46 flX4_10 ⟨by decide, _, rfl, rfl⟩ ?_
          refine sw_iload dX4_possible_49 rfl ?_
          refine sw_cvi (i := 0) (c_isPossible T hi) dX4_possible_51 lkX4_108 (by decide) ⟨by decide, _, rfl, rfl⟩ rfl rfl rfl (Nat.le_of_ble_eq_true rfl) ?_
          refine sw_if_eq (tgt := 63) dX4_possible_54 (by decide) (fun hc => ?_) (fun hc => ?_)
          · have hp := bI_0 hc
            rw [show fa_cnt (posX h z sm) (i + 1) = fa_cnt (posX h z sm) i from fa_cnt_no hp]
            rw [er] at ih
            simp only [lR] at ih
            rw [show posX h z sm i = false from hp] at ih
            refine sw_iinc (v := nI i + (-1)) dX4_possible_63 rfl rfl (by decide) rfl ?_
            refine sw_goto (tgt := 40) dX4_possible_66 (by decide) ?_
            exact ih
          · have hp := bI_1 hc
            have ecn : fa_cnt (posX h z sm) (i + 1) = fa_cnt (posX h z sm) i + 1 := fa_cnt_yes hp
            rw [er] at ih
            simp only [lR] at ih
            rw [show posX h z sm i = true from hp] at ih
            first | refine sw_iincN (b := 1) dX4_possible_57 rfl (by decide) rfl ?_ | refine sw_iinc dX4_possible_57 rfl rfl (by decide) rfl ?_
            refine sw_iload dX4_possible_60 rfl ?_
            refine sw_istore_n dX4_possible_62 (by decide) rfl ?_
            refine sw_iinc (v := nI i + (-1)) dX4_possible_63 rfl rfl (by decide) rfl ?_
            refine sw_goto (tgt := 40) dX4_possible_66 (by decide) ?_
            rw [show fa_cnt (posX h z sm) (2 ^ n) - fa_cnt (posX h z sm) (i + 1) + 1 = fa_cnt (posX h z sm) (2 ^ n) - fa_cnt (posX h z sm) i by omega]
            exact ih
    · rw [z0_iff hz8] at hc
      refine sw_bipush (v := (-2)) dX4_possible_21 (by decide) ?_
      refine sw_iret dX4_possible_23 rfl rfl rfl ?_
      exact h0 hc
  refine ctr_start (by decide) (Nat.le_of_ble_eq_true rfl) rfl rfl ?_
  show SW jX4_possible E0 _ 0 [some (.ref 0), some (.int (nI w)), none, none, none] [] _
  refine sw_iload_n dX4_possible_0 rfl ?_
  refine sw_if_eq (tgt := 11) dX4_possible_1 (by decide) (fun hc => ?_) (fun hc => ?_)
  · exact fin
  · have hw1 : w = 1 := by
      rcases (show w = 0 ∨ w = 1 by omega) with rfl | rfl
      · exact absurd rfl hc
      · rfl
    clear hc
    subst hw1
    refine sw_iload_n dX4_possible_4 rfl ?_
    refine sw_iconst (v := nI 1) dX4_possible_5 (by decide) ?_
    refine sw_icmp_eq (tgt := 11) dX4_possible_6 (by decide) (fun hc => ?_) (fun hc => ?_)
    · exact fin
    · exact absurd rfl hc
theorem m_possible (T : TM h n z sm) {w : Nat} (hw : w < 2) (h0 : z = 0 → Q (some (.int (-2))) h) (hQ : ¬ z = 0 → Q (some (.int (if w = 0 then nI (fa_cnt (posM h z sm) (2 ^ n)) else fstL (posM h z sm) (2 ^ n)))) h) : Ctr jX5_possible [.ref 28, .int (nI w)] h Q := by
  have hz8 := T.1.2.1
  have h64 := pow6 T.1.1
  refine ctr_start (by decide) (Nat.le_of_ble_eq_true rfl) rfl rfl ?_
  show SW jX5_possible E0 _ 0 [some (.ref 28), some (.int (nI w)), none, none, none] [] _
  refine sw_iload_n dX5_possible_0 rfl ?_
  refine sw_i2l dX5_possible_1 ?_
  refine sw_lconst (v := lN 0) dX5_possible_2 (by decide) ?_
  refine sw_lconst (v := lN 1) dX5_possible_3 (by decide) ?_
  refine sw_csi (c_inR (l := 0) (u := 1) (by decide) (by decide)) dX5_possible_4 lkX5_59 (by decide) rfl rfl (Nat.le_of_ble_eq_true rfl) ?_
  rw [rg_t (v := nI w) (by rw [t_N (by omega)]; omega) (by rw [t_N (by omega)]; omega)]
  refine sw_if_ne (tgt := 12) dX5_possible_7 (by decide) (fun hc => ?_) (fun hc => ?_)
  · clear hc
    refine sw_aload_n dX5_possible_12 rfl ?_
    refine sw_getI dX5_possible_13 flX5_56 ⟨by decide, _, rfl, rfl⟩ ?_
    rw [T.1.2.2.2]
    refine sw_if_ne (tgt := 22) dX5_possible_16 (by decide) (fun hc => ?_) (fun hc => ?_)
    · rw [z0_iff hz8] at hc
      have hQ := hQ hc
      clear hc
      refine sw_iconst (v := nI 0) dX5_possible_22 (by decide) ?_
      refine sw_istore_n dX5_possible_23 (by decide) rfl ?_
      refine sw_bipush (v := (-4)) dX5_possible_24 (by decide) ?_
      refine sw_istore_n dX5_possible_26 (by decide) rfl ?_
      refine sw_iconst (v := nI 0) dX5_possible_27 (by decide) ?_
      refine sw_istore dX5_possible_28 (by decide) rfl ?_
      refine lp_up (n := 2 ^ n) (S := fun i => SW jX5_possible E0 (Zm Q) 30 [some (.ref 28), some (.int (nI w)), some (.int (nI (fa_cnt (posM h z sm) i))), some (.int (fstL (posM h z sm) i)), some (.int (nI i))] [] h) ?_ ?_ 0 (Nat.zero_le _)
      · refine sw_iload dX5_possible_30 rfl ?_
        refine sw_aload_n dX5_possible_32 rfl ?_
        refine sw_cvi (i := 0) (c_hiddenMany T.1.2.2.1 T.1.1) dX5_possible_33 lkX5_88 (by decide) ⟨by decide, _, rfl, rfl⟩ rfl rfl rfl (Nat.le_of_ble_eq_true rfl) ?_
        refine sw_icmpN_ge (tgt := 70) dX5_possible_36 (by decide) (by omega) (by omega) (fun hc => ?_) (fun hc => ?_)
        · clear hc
          refine sw_iload_n dX5_possible_70 rfl ?_
          rcases (show w = 0 ∨ w = 1 by omega) with rfl | rfl
          · refine sw_if_ne (tgt := 78) dX5_possible_71 (by decide) (fun hc => ?_) (fun hc => ?_)
            · exact absurd rfl hc
            · refine sw_iload_n dX5_possible_74 rfl ?_
              refine sw_goto (tgt := 79) dX5_possible_75 (by decide) ?_
              refine sw_iret dX5_possible_79 rfl rfl rfl ?_
              exact hQ
          · refine sw_if_ne (tgt := 78) dX5_possible_71 (by decide) (fun hc => ?_) (fun hc => ?_)
            · refine sw_iload_n dX5_possible_78 rfl ?_
              refine sw_iret dX5_possible_79 rfl rfl rfl ?_
              exact hQ
            · exact absurd hc (by decide)
        · omega
      · intro i hi ih
        refine sw_iload dX5_possible_30 rfl ?_
        refine sw_aload_n dX5_possible_32 rfl ?_
        refine sw_cvi (i := 0) (c_hiddenMany T.1.2.2.1 T.1.1) dX5_possible_33 lkX5_88 (by decide) ⟨by decide, _, rfl, rfl⟩ rfl rfl rfl (Nat.le_of_ble_eq_true rfl) ?_
        refine sw_icmpN_ge (tgt := 70) dX5_possible_36 (by decide) (by omega) (by omega) (fun hc => ?_) (fun hc => ?_)
        · omega
        · clear hc
          refine sw_aload_n dX5_possible_39 rfl ?_
          refine sw_iload dX5_possible_40 rfl ?_
          refine sw_cvi (i := 0) (c_isPossibleM T (x := i) (by omega)) dX5_possible_42 lkX5_106 (by decide) ⟨by decide, _, rfl, rfl⟩ rfl rfl rfl (Nat.le_of_ble_eq_true rfl) ?_
          refine sw_if_eq (tgt := 64) dX5_possible_45 (by decide) (fun hc => ?_) (fun hc => ?_)
          · have hp := bI_0 hc
            rw [fa_cnt_no hp] at ih
            simp only [fstL, hp] at ih
            first | refine sw_iincN (b := 1) dX5_possible_64 rfl (by decide) rfl ?_ | refine sw_iinc dX5_possible_64 rfl rfl (by decide) rfl ?_
            refine sw_goto (tgt := 30) dX5_possible_67 (by decide) ?_
            exact ih
          · have hp := bI_1 hc
            clear hc
            rw [fa_cnt_yes hp] at ih
            simp only [fstL, hp, if_true] at ih
            first | refine sw_iincN (b := 1) dX5_possible_48 rfl (by decide) rfl ?_ | refine sw_iinc dX5_possible_48 rfl rfl (by decide) rfl ?_
            refine sw_iload_n dX5_possible_51 rfl ?_
            refine sw_bipush (v := (-4)) dX5_possible_52 (by decide) ?_
            refine sw_icmp_ne (tgt := 62) dX5_possible_54 (by decide) (fun hc => ?_) (fun hc => ?_)
            · rw [if_neg (fun q => hc (fstL_0 _ _ q))] at ih
              refine sw_iload_n dX5_possible_62 rfl ?_
              refine sw_istore_n dX5_possible_63 (by decide) rfl ?_
              first | refine sw_iincN (b := 1) dX5_possible_64 rfl (by decide) rfl ?_ | refine sw_iinc dX5_possible_64 rfl rfl (by decide) rfl ?_
              refine sw_goto (tgt := 30) dX5_possible_67 (by decide) ?_
              exact ih
            · rw [if_pos (fstL_no _ _ (by omega) hc)] at ih
              refine sw_iload dX5_possible_57 rfl ?_
              refine sw_goto (tgt := 63) dX5_possible_59 (by decide) ?_
              refine sw_istore_n dX5_possible_63 (by decide) rfl ?_
              first | refine sw_iincN (b := 1) dX5_possible_64 rfl (by decide) rfl ?_ | refine sw_iinc dX5_possible_64 rfl rfl (by decide) rfl ?_
              refine sw_goto (tgt := 30) dX5_possible_67 (by decide) ?_
              exact ih
    · rw [z0_iff hz8] at hc
      refine sw_bipush (v := (-2)) dX5_possible_19 (by decide) ?_
      refine sw_iret dX5_possible_21 rfl rfl rfl ?_
      exact h0 hc
  · exact absurd hc (by decide)
theorem b_possible (w : Int32) : Both jX4_possible jX5_possible [.int w] := by
  intro h K hK hI
  have hI0 := hI
  obtain ⟨n, z, sm, lf, r, i1, iT, iM, iW, iS, iC, iR, iH⟩ := hI
  cases hb : rg 0 1 w with
  | false => exact ⟨-1, x_possible_bad hb ⟨rfl, m_possible_bad hb ⟨rfl, hI0.up⟩⟩⟩
  | true =>
    obtain ⟨v, hv, rfl⟩ := rg_nat2 (z := 1) (by omega) hb
    by_cases hz : z = 0
    · exact ⟨-2, x_possible iT (w := v) (by omega) (fun _ => ⟨rfl, m_possible iM (w := v) (by omega) (fun _ => ⟨rfl, hI0.up⟩) (fun q => absurd hz q)⟩) (fun q => absurd hz q)⟩
    · have e : ∀ x, posX h z sm x = posM h z sm x := posXM iT iW rfl
      exact ⟨_, x_possible iT (w := v) (by omega) (fun q => absurd q hz) (fun _ => ⟨rfl, m_possible iM (w := v) (by omega) (fun q => absurd q hz) (fun _ => ⟨by rw [fa_cnt_cong (fun k _ => e k), fstL_cong (fun k _ => e k)], hI0.up⟩)⟩)⟩
abbrev lsX (h : Hp) (n z : Nat) (sm : Nat → Nat) (k : Nat) : Bool := decide (0 < h 4 k) && !metB (posX h z sm) sm k (2 ^ n)
abbrev lsM (h : Hp) (n z : Nat) (sm : Nat → Nat) (k : Nat) : Bool := decide (0 < h 31 k) && !metB (posM h z sm) sm k (2 ^ n)
theorem x_lost_bad {w : Int32} (hb : rg 0 1 w = false) (hQ : Q (some (.int (-1))) h) : Ctr jX4_lost [.ref 0, .int w] h Q := by
  refine ctr_start (by decide) (Nat.le_of_ble_eq_true rfl) rfl rfl ?_
  show SW jX4_lost E0 _ 0 [some (.ref 0), some (.int w), none, none, none] [] _
  refine sw_iload_n dX4_lost_0 rfl ?_
  refine sw_if_eq (tgt := 11) dX4_lost_1 (by decide) (fun hc => ?_) (fun hc => ?_)
  · rw [hc] at hb; exact absurd hb (by decide)
  · clear hc
    refine sw_iload_n dX4_lost_4 rfl ?_
    refine sw_iconst (v := nI 1) dX4_lost_5 (by decide) ?_
    refine sw_icmp_eq (tgt := 11) dX4_lost_6 (by decide) (fun hc => ?_) (fun hc => ?_)
    · rw [hc] at hb; exact absurd hb (by decide)
    · refine sw_iconst (v := (-1)) dX4_lost_9 (by decide) ?_
      refine sw_iret dX4_lost_10 rfl rfl rfl ?_
      exact hQ
theorem m_lost_bad {w : Int32} (hb : rg 0 1 w = false) (hQ : Q (some (.int (-1))) h) : Ctr jX5_lost [.ref 28, .int w] h Q := by
  refine ctr_start (by decide) (Nat.le_of_ble_eq_true rfl) rfl rfl ?_
  show SW jX5_lost E0 _ 0 [some (.ref 28), some (.int w), none, none, none] [] _
  refine sw_iload_n dX5_lost_0 rfl ?_
  refine sw_i2l dX5_lost_1 ?_
  refine sw_lconst (v := lN 0) dX5_lost_2 (by decide) ?_
  refine sw_lconst (v := lN 1) dX5_lost_3 (by decide) ?_
  refine sw_csi (c_inR (l := 0) (u := 1) (by decide) (by decide)) dX5_lost_4 lkX5_59 (by decide) rfl rfl (Nat.le_of_ble_eq_true rfl) ?_
  rw [hb]
  refine sw_if_ne (tgt := 12) dX5_lost_7 (by decide) (fun hc => ?_) (fun hc => ?_)
  · exact absurd rfl hc
  · refine sw_iconst (v := (-1)) dX5_lost_10 (by decide) ?_
    refine sw_iret dX5_lost_11 rfl rfl rfl ?_
    exact hQ
theorem x_lost (T : TX h n z sm) {w : Nat} (hw : w < 2) (h0 : z = 0 → Q (some (.int (-2))) h) (hQ : ¬ z = 0 → ∀ g, Sam 9 h g → Q (some (.int (if w = 0 then nI (fa_cnt (lsX h n z sm) (8 * z)) else fstL (lsX h n z sm) (8 * z)))) g) : Ctr jX4_lost [.ref 0, .int (nI w)] h Q := by
  have hz8 := T.1.2.1
  have fin : SW jX4_lost E0 (Zm Q) 11 [some (.ref 0), some (.int (nI w)), none, none, none] [] h := by
    refine sw_aload_n dX4_lost_11 rfl ?_
    refine sw_getR dX4_lost_12 flX4_10 ⟨by decide, _, rfl, rfl⟩ ?_
    refine sw_getNI dX4_lost_15 fnX4_59 ⟨by decide, _, rfl, rfl⟩ ?_
    rw [T.1.2.2.2]
    refine sw_if_ne (tgt := 24) dX4_lost_18 (by decide) (fun hc => ?_) (fun hc => ?_)
    · rw [z0_iff hz8] at hc
      have hz0 := hc
      clear hc
      refine sw_aload_n dX4_lost_24 rfl ?_
      refine sw_getR dX4_lost_25 flX4_10 ⟨by decide, _, rfl, rfl⟩ ?_
      refine sw_callV (i := 0) (c_findMet T) dX4_lost_28 lkX4_111 (by decide) ⟨by decide, _, rfl, rfl⟩ rfl rfl rfl (Nat.le_of_ble_eq_true rfl) (fun v h1 hq => ?_)
      obtain ⟨rfl, hS, hmet⟩ := hq
      rename Hp => g
      have hQ := hQ hz0 g hS
      have gz : g 1 1 = nI z := by rw [hS 1 (by decide)]; exact T.1.2.2.2
      refine sw_iconst (v := nI 0) dX4_lost_31 (by decide) ?_
      refine sw_istore_n dX4_lost_32 (by decide) rfl ?_
      refine sw_bipush (v := (-4)) dX4_lost_33 (by decide) ?_
      refine sw_istore_n dX4_lost_35 (by decide) rfl ?_
      refine sw_bipush (v := nI 8) dX4_lost_36 (by decide) ?_
      refine sw_aload_n dX4_lost_38 rfl ?_
      refine sw_getR dX4_lost_39 flX4_10 ⟨by decide, _, rfl, rfl⟩ ?_
      refine sw_getNI dX4_lost_42 fnX4_59 ⟨by decide, _, rfl, rfl⟩ ?_
      rw [gz]
      refine sw_imulN dX4_lost_45 ?_
      refine sw_iconst (v := nI 1) dX4_lost_46 (by decide) ?_
      first | refine sw_isubN dX4_lost_47 (by omega) ?_ | refine sw_isub dX4_lost_47 ?_
      refine sw_istore dX4_lost_48 (by decide) rfl ?_
      rw [← sb_m1 (show 0 < 8 * z by omega)]
      have key := lp_dn (n := 8 * z) (S := fun i => SW jX4_lost E0 (Zm Q) 50 [some (.ref 0), some (.int (nI w)), some (.int (nI (fa_cnt (lsX h n z sm) (8 * z) - fa_cnt (lsX h n z sm) i))), some (.int (lR (lsX h n z sm) i (8 * z - i))), some (.int (nI i + (-1)))] [] g) ?_ ?_ (8 * z) (Nat.le_refl _)
      · rw [Nat.sub_self, Nat.sub_self] at key
        exact key
      · rw [show fa_cnt (lsX h n z sm) 0 = 0 from rfl, Nat.sub_zero, Nat.sub_zero, lR_all]
        refine sw_iload dX4_lost_50 rfl ?_
        refine sw_if_lt (tgt := 93) dX4_lost_52 (by decide) (fun hc => ?_) (fun hc => ?_)
        · clear hc
          refine sw_iload_n dX4_lost_93 rfl ?_
          rcases (show w = 0 ∨ w = 1 by omega) with rfl | rfl
          · refine sw_if_ne (tgt := 101) dX4_lost_94 (by decide) (fun hc => ?_) (fun hc => ?_)
            · exact absurd rfl hc
            · refine sw_iload_n dX4_lost_97 rfl ?_
              refine sw_goto (tgt := 102) dX4_lost_98 (by decide) ?_
              refine sw_iret dX4_lost_102 rfl rfl rfl ?_
              exact hQ
          · refine sw_if_ne (tgt := 101) dX4_lost_94 (by decide) (fun hc => ?_) (fun hc => ?_)
            · refine sw_iload_n dX4_lost_101 rfl ?_
              refine sw_iret dX4_lost_102 rfl rfl rfl ?_
              exact hQ
            · exact absurd hc (by decide)
        · exact absurd (by decide) hc
      · intro i hi ih
        have hcl := cnt_le_of (p := lsX h n z sm) (i := i + 1) (n := 8 * z) (by omega)
        have er : 8 * z - i = (8 * z - (i + 1)) + 1 := by omega
        rw [pk_m1]
        have no : lsX h n z sm i = false → SW jX4_lost E0 (Zm Q) 87 [some (.ref 0), some (.int (nI w)), some (.int (nI (fa_cnt (lsX h n z sm) (8 * z) - fa_cnt (lsX h n z sm) (i + 1)))), some (.int (lR (lsX h n z sm) (i + 1) (8 * z - (i + 1)))), some (.int (nI i))] [] g := fun hp => by
          rw [show fa_cnt (lsX h n z sm) (i + 1) = fa_cnt (lsX h n z sm) i from fa_cnt_no hp]
          rw [er] at ih
          simp only [lR] at ih
          rw [hp] at ih
          refine sw_iinc (v := nI i + (-1)) dX4_lost_87 rfl rfl (by decide) rfl ?_
          refine sw_goto (tgt := 50) dX4_lost_90 (by decide) ?_
          exact ih
        refine sw_iload dX4_lost_50 rfl ?_
        refine sw_if_lt (tgt := 93) dX4_lost_52 (by decide) (fun hc => ?_) (fun hc => ?_)
        · exact absurd hc (nI_pos (by omega))
        · clear hc
          refine sw_aload_n dX4_lost_55 rfl ?_
          refine sw_getR dX4_lost_56 flX4_10 ⟨by decide, _, rfl, rfl⟩ ?_
          refine sw_getNR dX4_lost_59 fnX4_88 ⟨by decide, _, rfl, rfl⟩ ?_
          refine sw_iload dX4_lost_62 rfl ?_
          refine sw_iald dX4_lost_64 rfl (by simp only [plA]; omega) ?_
          rw [hS 4 (by decide)]
          refine sw_if_le (tgt := 87) dX4_lost_65 (by decide) (fun hc => ?_) (fun hc => ?_)
          · exact no (by unfold lsX; rw [decide_eq_false (Int32.not_lt.mpr hc), Bool.false_and])
          · have hw0 := Int32.not_le.mp hc
            clear hc
            refine sw_aload_n dX4_lost_68 rfl ?_
            refine sw_getR dX4_lost_69 flX4_10 ⟨by decide, _, rfl, rfl⟩ ?_
            refine sw_getNR dX4_lost_72 fnX4_114 ⟨by decide, _, rfl, rfl⟩ ?_
            refine sw_iload dX4_lost_75 rfl ?_
            refine sw_zald dX4_lost_77 (by omega) ?_
            rw [hmet i hi]
            refine sw_if_ne (tgt := 87) dX4_lost_78 (by decide) (fun hc => ?_) (fun hc => ?_)
            · exact no (by unfold lsX; rw [bI_1 hc, Bool.not_true, Bool.and_false])
            · have hp : lsX h n z sm i = true := by unfold lsX; rw [bI_0 hc, decide_eq_true hw0]; rfl
              have ecn : fa_cnt (lsX h n z sm) (i + 1) = fa_cnt (lsX h n z sm) i + 1 := fa_cnt_yes hp
              rw [er] at ih
              simp only [lR] at ih
              rw [hp] at ih
              first | refine sw_iincN (b := 1) dX4_lost_81 rfl (by decide) rfl ?_ | refine sw_iinc dX4_lost_81 rfl rfl (by decide) rfl ?_
              refine sw_iload dX4_lost_84 rfl ?_
              refine sw_istore_n dX4_lost_86 (by decide) rfl ?_
              refine sw_iinc (v := nI i + (-1)) dX4_lost_87 rfl rfl (by decide) rfl ?_
              refine sw_goto (tgt := 50) dX4_lost_90 (by decide) ?_
              rw [show fa_cnt (lsX h n z sm) (8 * z) - fa_cnt (lsX h n z sm) (i + 1) + 1 = fa_cnt (lsX h n z sm) (8 * z) - fa_cnt (lsX h n z sm) i by omega]
              exact ih
    · rw [z0_iff hz8] at hc
      refine sw_bipush (v := (-2)) dX4_lost_21 (by decide) ?_
      refine sw_iret dX4_lost_23 rfl rfl rfl ?_
      exact h0 hc
  refine ctr_start (by decide) (Nat.le_of_ble_eq_true rfl) rfl rfl ?_
  show SW jX4_lost E0 _ 0 [some (.ref 0), some (.int (nI w)), none, none, none] [] _
  refine sw_iload_n dX4_lost_0 rfl ?_
  refine sw_if_eq (tgt := 11) dX4_lost_1 (by decide) (fun hc => ?_) (fun hc => ?_)
  · exact fin
  · have hw1 : w = 1 := by
      rcases (show w = 0 ∨ w = 1 by omega) with rfl | rfl
      · exact absurd rfl hc
      · rfl
    clear hc
    subst hw1
    refine sw_iload_n dX4_lost_4 rfl ?_
    refine sw_iconst (v := nI 1) dX4_lost_5 (by decide) ?_
    refine sw_icmp_eq (tgt := 11) dX4_lost_6 (by decide) (fun hc => ?_) (fun hc => ?_)
    · exact fin
    · exact absurd rfl hc
theorem m_lost (T : TM h n z sm) {w : Nat} (hw : w < 2) (h0 : z = 0 → Q (some (.int (-2))) h) (hQ : ¬ z = 0 → Q (some (.int (if w = 0 then nI (fa_cnt (lsM h n z sm) (8 * z)) else fstL (lsM h n z sm) (8 * z)))) h) : Ctr jX5_lost [.ref 28, .int (nI w)] h Q := by
  have hz8 := T.1.2.1
  have h64 := pow6 T.1.1
  refine ctr_start (by decide) (Nat.le_of_ble_eq_true rfl) rfl rfl ?_
  show SW jX5_lost E0 _ 0 [some (.ref 28), some (.int (nI w)), none, none, none] [] _
  refine sw_iload_n dX5_lost_0 rfl ?_
  refine sw_i2l dX5_lost_1 ?_
  refine sw_lconst (v := lN 0) dX5_lost_2 (by decide) ?_
  refine sw_lconst (v := lN 1) dX5_lost_3 (by decide) ?_
  refine sw_csi (c_inR (l := 0) (u := 1) (by decide) (by decide)) dX5_lost_4 lkX5_59 (by decide) rfl rfl (Nat.le_of_ble_eq_true rfl) ?_
  rw [rg_t (v := nI w) (by rw [t_N (by omega)]; omega) (by rw [t_N (by omega)]; omega)]
  refine sw_if_ne (tgt := 12) dX5_lost_7 (by decide) (fun hc => ?_) (fun hc => ?_)
  · clear hc
    refine sw_aload_n dX5_lost_12 rfl ?_
    refine sw_getI dX5_lost_13 flX5_56 ⟨by decide, _, rfl, rfl⟩ ?_
    rw [T.1.2.2.2]
    refine sw_if_ne (tgt := 22) dX5_lost_16 (by decide) (fun hc => ?_) (fun hc => ?_)
    · rw [z0_iff hz8] at hc
      have hQ := hQ hc
      clear hc
      refine sw_iconst (v := nI 0) dX5_lost_22 (by decide) ?_
      refine sw_istore_n dX5_lost_23 (by decide) rfl ?_
      refine sw_bipush (v := (-4)) dX5_lost_24 (by decide) ?_
      refine sw_istore_n dX5_lost_26 (by decide) rfl ?_
      refine sw_iconst (v := nI 0) dX5_lost_27 (by decide) ?_
      refine sw_istore dX5_lost_28 (by decide) rfl ?_
      refine lp_up (n := 8 * z) (S := fun i => SW jX5_lost E0 (Zm Q) 30 [some (.ref 28), some (.int (nI w)), some (.int (nI (fa_cnt (lsM h n z sm) i))), some (.int (fstL (lsM h n z sm) i)), some (.int (nI i))] [] h) ?_ ?_ 0 (Nat.zero_le _)
      · refine sw_iload dX5_lost_30 rfl ?_
        refine sw_bipush (v := nI 8) dX5_lost_32 (by decide) ?_
        refine sw_aload_n dX5_lost_34 rfl ?_
        refine sw_getI dX5_lost_35 flX5_56 ⟨by decide, _, rfl, rfl⟩ ?_
        rw [T.1.2.2.2]
        refine sw_imulN dX5_lost_38 ?_
        refine sw_icmpN_ge (tgt := 81) dX5_lost_39 (by decide) (by omega) (by omega) (fun hc => ?_) (fun hc => ?_)
        · clear hc
          refine sw_iload_n dX5_lost_81 rfl ?_
          rcases (show w = 0 ∨ w = 1 by omega) with rfl | rfl
          · refine sw_if_ne (tgt := 89) dX5_lost_82 (by decide) (fun hc => ?_) (fun hc => ?_)
            · exact absurd rfl hc
            · refine sw_iload_n dX5_lost_85 rfl ?_
              refine sw_goto (tgt := 90) dX5_lost_86 (by decide) ?_
              refine sw_iret dX5_lost_90 rfl rfl rfl ?_
              exact hQ
          · refine sw_if_ne (tgt := 89) dX5_lost_82 (by decide) (fun hc => ?_) (fun hc => ?_)
            · refine sw_iload_n dX5_lost_89 rfl ?_
              refine sw_iret dX5_lost_90 rfl rfl rfl ?_
              exact hQ
            · exact absurd hc (by decide)
        · omega
      · intro i hi ih
        have hdm : 8 * (i / 8) + i % 8 = i := Nat.div_add_mod i 8
        refine sw_iload dX5_lost_30 rfl ?_
        refine sw_bipush (v := nI 8) dX5_lost_32 (by decide) ?_
        refine sw_aload_n dX5_lost_34 rfl ?_
        refine sw_getI dX5_lost_35 flX5_56 ⟨by decide, _, rfl, rfl⟩ ?_
        rw [T.1.2.2.2]
        refine sw_imulN dX5_lost_38 ?_
        refine sw_icmpN_ge (tgt := 81) dX5_lost_39 (by decide) (by omega) (by omega) (fun hc => ?_) (fun hc => ?_)
        · omega
        · clear hc
          refine sw_aload_n dX5_lost_42 rfl ?_
          refine sw_iload dX5_lost_43 rfl ?_
          refine sw_bipush (v := nI 8) dX5_lost_45 (by decide) ?_
          refine sw_idiv dX5_lost_47 (by decide) ?_
          rw [pk_div (d := 8) (by omega) (by omega) (by omega)]
          refine sw_iload dX5_lost_48 rfl ?_
          refine sw_bipush (v := nI 8) dX5_lost_50 (by decide) ?_
          refine sw_irem dX5_lost_52 (by decide) ?_
          rw [pk_rem (d := 8) (by omega) (by omega) (by omega)]
          refine sw_cvi (i := 0) (c_isLost T (c := i / 8) (j := i % 8) (by omega) (by omega)) dX5_lost_53 lkX5_109 (by decide) ⟨by decide, _, rfl, rfl⟩ rfl rfl rfl (Nat.le_of_ble_eq_true rfl) ?_
          rw [hdm]
          refine sw_if_eq (tgt := 75) dX5_lost_56 (by decide) (fun hc => ?_) (fun hc => ?_)
          · have hp := bI_0 hc
            rw [show fa_cnt (lsM h n z sm) (i + 1) = fa_cnt (lsM h n z sm) i from fa_cnt_no hp] at ih
            simp only [fstL] at ih
            rw [show lsM h n z sm i = false from hp] at ih
            first | refine sw_iincN (b := 1) dX5_lost_75 rfl (by decide) rfl ?_ | refine sw_iinc dX5_lost_75 rfl rfl (by decide) rfl ?_
            refine sw_goto (tgt := 30) dX5_lost_78 (by decide) ?_
            exact ih
          · have hp := bI_1 hc
            clear hc
            rw [show fa_cnt (lsM h n z sm) (i + 1) = fa_cnt (lsM h n z sm) i + 1 from fa_cnt_yes hp] at ih
            simp only [fstL] at ih
            rw [show lsM h n z sm i = true from hp, if_pos rfl] at ih
            first | refine sw_iincN (b := 1) dX5_lost_59 rfl (by decide) rfl ?_ | refine sw_iinc dX5_lost_59 rfl rfl (by decide) rfl ?_
            refine sw_iload_n dX5_lost_62 rfl ?_
            refine sw_bipush (v := (-4)) dX5_lost_63 (by decide) ?_
            refine sw_icmp_ne (tgt := 73) dX5_lost_65 (by decide) (fun hc => ?_) (fun hc => ?_)
            · rw [if_neg (fun q => hc (fstL_0 _ _ q))] at ih
              refine sw_iload_n dX5_lost_73 rfl ?_
              refine sw_istore_n dX5_lost_74 (by decide) rfl ?_
              first | refine sw_iincN (b := 1) dX5_lost_75 rfl (by decide) rfl ?_ | refine sw_iinc dX5_lost_75 rfl rfl (by decide) rfl ?_
              refine sw_goto (tgt := 30) dX5_lost_78 (by decide) ?_
              exact ih
            · rw [if_pos (fstL_no _ _ (by omega) hc)] at ih
              refine sw_iload dX5_lost_68 rfl ?_
              refine sw_goto (tgt := 74) dX5_lost_70 (by decide) ?_
              refine sw_istore_n dX5_lost_74 (by decide) rfl ?_
              first | refine sw_iincN (b := 1) dX5_lost_75 rfl (by decide) rfl ?_ | refine sw_iinc dX5_lost_75 rfl rfl (by decide) rfl ?_
              refine sw_goto (tgt := 30) dX5_lost_78 (by decide) ?_
              exact ih
    · rw [z0_iff hz8] at hc
      refine sw_bipush (v := (-2)) dX5_lost_19 (by decide) ?_
      refine sw_iret dX5_lost_21 rfl rfl rfl ?_
      exact h0 hc
  · exact absurd hc (by decide)
theorem b_lost (w : Int32) : Both jX4_lost jX5_lost [.int w] := by
  intro h K hK hI
  have hI0 := hI
  obtain ⟨n, z, sm, lf, r, I⟩ := hI
  have I' := I
  obtain ⟨i1, iT, iM, iW, iS, iC, iR, iH⟩ := I'
  cases hb : rg 0 1 w with
  | false => exact ⟨-1, x_lost_bad hb ⟨rfl, m_lost_bad hb ⟨rfl, hI0.up⟩⟩⟩
  | true =>
    obtain ⟨v, hv, rfl⟩ := rg_nat2 (z := 1) (by omega) hb
    by_cases hz : z = 0
    · exact ⟨-2, x_lost iT (w := v) (by omega) (fun _ => ⟨rfl, m_lost iM (w := v) (by omega) (fun _ => ⟨rfl, hI0.up⟩) (fun q => absurd hz q)⟩) (fun q => absurd hz q)⟩
    · refine ⟨_, x_lost iT (w := v) (by omega) (fun q => absurd q hz) (fun _ g hS => ⟨rfl, ?_⟩)⟩
      have a := Agr.s9 hS
      have hz8 := iT.1.2.1
      have e : ∀ k, k < 8 * z → lsX h n z sm k = lsM g n z sm k := fun k hk => by
        unfold lsX lsM
        rw [metXM (posXM iT iW (a.c (k := 31) (by decide))) k, a.c (k := 31) (by decide), (iW.1 k (by omega)).1, (iW.1 k (by omega)).2.1]
      refine m_lost (TM_agr a iM) (w := v) (by omega) (fun q => absurd q hz) (fun _ => ⟨by rw [fa_cnt_cong e, fstL_cong e], n, z, sm, lf, r, I0_agr I a⟩)
end OPS
