/-! calls: count, draw -/
def xc (h : Hp) (w : Int32) (k : Nat) : Int32 := if k = 0 then h 1 0 else if k = 1 then h 1 1 else if k = 2 then h 13 0 else if k = 3 then w else if h 20 1 = -1 then -4 else h 20 2
def mc (h : Hp) (w : Int32) (k : Nat) : Int32 := if k = 0 then h 28 0 else if k = 1 then h 28 1 else if k = 2 then h 28 9 else if k = 3 then w else if h 40 0 = -4 then -4 else h 41 0
section OPS
variable {h : Hp} {n z : Nat} {sm : Nat → Nat} {Q : Option Value → Hp → Prop}
theorem x_count_bad {a : Int32} (ha : rg 0 4 a = false) (hQ : Q (some (.int (-1))) h) : Ctr jX4_count [.ref 0, .int a] h Q := by
  have hr : a.toInt < 0 ∨ 4 < a.toInt := by
    have := of_decide_eq_false ha
    omega
  refine ctr_start (by decide) (Nat.le_of_ble_eq_true rfl) rfl rfl ?_
  show SW jX4_count E0 _ 0 [some (.ref 0), some (.int a)] [] _
  refine sw_iload_n dX4_count_0 rfl ?_
  refine sw_tabOut (tgt := 95) dX4_count_1 hr (by decide) ?_
  refine sw_iconst (v := (-1)) dX4_count_95 (by decide) ?_
  refine sw_iret dX4_count_96 rfl rfl rfl ?_
  exact hQ
theorem x_count (T : TX h n z sm) (hw : ∀ c j, c < z → 2 ^ pop (sm c) ≤ j → j < 8 → h 4 (8 * c + j) = 0) {k : Nat} (hk : k ≤ 4) (hQ : Q (some (.int (xc h (nI (fa_cnt (fun k => decide (0 < h 4 k)) (8 * z))) k))) h) : Ctr jX4_count [.ref 0, .int (nI k)] h Q := by
  refine ctr_start (by decide) (Nat.le_of_ble_eq_true rfl) rfl rfl ?_
  show SW jX4_count E0 _ 0 [some (.ref 0), some (.int (nI k))] [] _
  refine sw_iload_n dX4_count_0 rfl ?_
  rcases (show k = 0 ∨ k = 1 ∨ k = 2 ∨ k = 3 ∨ k = 4 by omega) with rfl | rfl | rfl | rfl | rfl
  · refine sw_tabIn (tgt := 36) dX4_count_1 (by decide) (by decide) (off := 35) (by decide) (by decide) ?_
    refine sw_aload_n dX4_count_36 rfl ?_
    refine sw_getR dX4_count_37 flX4_10 ⟨by decide, _, rfl, rfl⟩ ?_
    refine sw_getNI dX4_count_40 fnX4_37 ⟨by decide, _, rfl, rfl⟩ ?_
    refine sw_iret dX4_count_43 rfl rfl rfl ?_
    exact hQ
  · refine sw_tabIn (tgt := 44) dX4_count_1 (by decide) (by decide) (off := 43) (by decide) (by decide) ?_
    refine sw_aload_n dX4_count_44 rfl ?_
    refine sw_getR dX4_count_45 flX4_10 ⟨by decide, _, rfl, rfl⟩ ?_
    refine sw_getNI dX4_count_48 fnX4_59 ⟨by decide, _, rfl, rfl⟩ ?_
    refine sw_iret dX4_count_51 rfl rfl rfl ?_
    exact hQ
  · refine sw_tabIn (tgt := 52) dX4_count_1 (by decide) (by decide) (off := 51) (by decide) (by decide) ?_
    refine sw_aload_n dX4_count_52 rfl ?_
    refine sw_getR dX4_count_53 flX4_26 ⟨by decide, _, rfl, rfl⟩ ?_
    refine sw_getNI dX4_count_56 fnX4_163 ⟨by decide, _, rfl, rfl⟩ ?_
    refine sw_iret dX4_count_59 rfl rfl rfl ?_
    exact hQ
  · refine sw_tabIn (tgt := 60) dX4_count_1 (by decide) (by decide) (off := 59) (by decide) (by decide) ?_
    refine sw_aload_n dX4_count_60 rfl ?_
    refine sw_getR dX4_count_61 flX4_10 ⟨by decide, _, rfl, rfl⟩ ?_
    refine sw_cvi (i := 0) (c_weightsAboveZero T hw) dX4_count_64 lkX4_220 (by decide) ⟨by decide, _, rfl, rfl⟩ rfl rfl rfl (Nat.le_of_ble_eq_true rfl) ?_
    refine sw_iret dX4_count_67 rfl rfl rfl ?_
    exact hQ
  · refine sw_tabIn (tgt := 68) dX4_count_1 (by decide) (by decide) (off := 67) (by decide) (by decide) ?_
    refine sw_aload_n dX4_count_68 rfl ?_
    refine sw_getR dX4_count_69 flX4_32 ⟨by decide, _, rfl, rfl⟩ ?_
    refine sw_iconst (v := nI 0) dX4_count_72 (by decide) ?_
    refine sw_aald dX4_count_73 (by omega) ?_
    refine sw_cvi (c_isNothing (k := 0) (by decide)) dX4_count_74 lkX4_198 (by decide) (obL (k := 0) (by decide)) rfl rfl rfl (Nat.le_of_ble_eq_true rfl) ?_
    refine sw_if_eq (tgt := 85) dX4_count_77 (by decide) (fun hc => ?_) (fun hc => ?_)
    · have hn : ¬ h 20 1 = -1 := of_decide_eq_false (bI_0 hc)
      have e : xc h (nI (fa_cnt (fun k => decide (0 < h 4 k)) (8 * z))) 4 = h 20 2 := if_neg hn
      rw [e] at hQ
      clear hc
      refine sw_aload_n dX4_count_85 rfl ?_
      refine sw_getR dX4_count_86 flX4_32 ⟨by decide, _, rfl, rfl⟩ ?_
      refine sw_iconst (v := nI 0) dX4_count_89 (by decide) ?_
      refine sw_aald dX4_count_90 (by omega) ?_
      refine sw_getNI dX4_count_91 fnX4_223 (obZ (k := 0) (by decide)) ?_
      refine sw_iret dX4_count_94 rfl rfl rfl ?_
      exact hQ
    · have hn : h 20 1 = -1 := of_decide_eq_true (bI_1 hc)
      have e : xc h (nI (fa_cnt (fun k => decide (0 < h 4 k)) (8 * z))) 4 = -4 := if_pos hn
      rw [e] at hQ
      clear hc
      refine sw_bipush (v := (-4)) dX4_count_80 (by decide) ?_
      refine sw_goto (tgt := 94) dX4_count_82 (by decide) ?_
      refine sw_iret dX4_count_94 rfl rfl rfl ?_
      exact hQ
theorem m_count (hz8 : z ≤ 8) (hz : h 28 1 = nI z) {a : Int32} (kb : rg 0 4 a = false → Q (some (.int (-1))) h) (kg : ∀ k, k ≤ 4 → a = nI k → Q (some (.int (mc h (nI (fa_cnt (fun k => decide (0 < h 31 k)) (8 * z))) k))) h) : Ctr jX5_count [.ref 28, .int a] h Q := by
  refine ctr_start (by decide) (Nat.le_of_ble_eq_true rfl) rfl rfl ?_
  show SW jX5_count E0 _ 0 [some (.ref 28), some (.int a), none, none] [] _
  refine sw_iconst (v := nI 0) dX5_count_0 (by decide) ?_
  refine sw_istore_n dX5_count_1 (by decide) rfl ?_
  refine sw_iconst (v := nI 0) dX5_count_2 (by decide) ?_
  refine sw_istore_n dX5_count_3 (by decide) rfl ?_
  refine lp_up (n := 8 * z) (S := fun i => SW jX5_count E0 (Zm Q) 4 [some (.ref 28), some (.int a), some (.int (nI (fa_cnt (fun k => decide (0 < h 31 k)) i))), some (.int (nI i))] [] h) ?_ ?_ 0 (Nat.zero_le _)
  · have hcl := fa_cnt_le (fun k => decide (0 < h 31 k)) (8 * z)
    refine sw_iload_n dX5_count_4 rfl ?_
    refine sw_bipush (v := nI 8) dX5_count_5 (by decide) ?_
    refine sw_aload_n dX5_count_7 rfl ?_
    refine sw_getI dX5_count_8 flX5_56 ⟨by decide, _, rfl, rfl⟩ ?_
    rw [hz]
    refine sw_imulN dX5_count_11 ?_
    refine sw_icmpN_ge (tgt := 38) dX5_count_12 (by decide) (by omega) (by omega) (fun hc => ?_) (fun hc => ?_)
    · clear hc
      refine sw_iload_n dX5_count_38 rfl ?_
      refine sw_if_ne (tgt := 49) dX5_count_39 (by decide) (fun hc => ?_) (fun hc => ?_)
      · have n0 : ¬ a = nI 0 := hc
        clear hc
        refine sw_iload_n dX5_count_49 rfl ?_
        refine sw_iconst (v := nI 1) dX5_count_50 (by decide) ?_
        refine sw_icmp_ne (tgt := 61) dX5_count_51 (by decide) (fun hc => ?_) (fun hc => ?_)
        · have n1 := hc
          clear hc
          refine sw_iload_n dX5_count_61 rfl ?_
          refine sw_iconst (v := nI 2) dX5_count_62 (by decide) ?_
          refine sw_icmp_ne (tgt := 73) dX5_count_63 (by decide) (fun hc => ?_) (fun hc => ?_)
          · have n2 := hc
            clear hc
            refine sw_iload_n dX5_count_73 rfl ?_
            refine sw_iconst (v := nI 3) dX5_count_74 (by decide) ?_
            refine sw_icmp_ne (tgt := 82) dX5_count_75 (by decide) (fun hc => ?_) (fun hc => ?_)
            · have n3 := hc
              clear hc
              refine sw_iload_n dX5_count_82 rfl ?_
              refine sw_iconst (v := nI 4) dX5_count_83 (by decide) ?_
              refine sw_icmp_ne (tgt := 112) dX5_count_84 (by decide) (fun hc => ?_) (fun hc => ?_)
              · have n4 := hc
                clear hc
                have hb : rg 0 4 a = false := by
                  cases q : rg 0 4 a with
                  | false => rfl
                  | true =>
                    obtain ⟨k, hk, rfl⟩ := rg_nat2 (z := 4) (c := a) (by decide) q
                    rcases (show k = 0 ∨ k = 1 ∨ k = 2 ∨ k = 3 ∨ k = 4 by omega) with rfl | rfl | rfl | rfl | rfl
                    · exact absurd rfl n0
                    · exact absurd rfl n1
                    · exact absurd rfl n2
                    · exact absurd rfl n3
                    · exact absurd rfl n4
                refine sw_iconst (v := (-1)) dX5_count_112 (by decide) ?_
                refine sw_iret dX5_count_113 rfl rfl rfl ?_
                exact kb hb
              · have hQ := kg 4 (by omega) hc
                clear hc
                refine sw_aload_n dX5_count_87 rfl ?_
                refine sw_getR dX5_count_88 flX5_47 ⟨by decide, _, rfl, rfl⟩ ?_
                refine sw_iconst (v := nI 0) dX5_count_91 (by decide) ?_
                refine sw_iald dX5_count_92 rfl (by simp only [plA]; omega) ?_
                refine sw_bipush (v := (-4)) dX5_count_93 (by decide) ?_
                refine sw_icmp_ne (tgt := 103) dX5_count_95 (by decide) (fun hc => ?_) (fun hc => ?_)
                · have e : mc h (nI (fa_cnt (fun k => decide (0 < h 31 k)) (8 * z))) 4 = h 41 0 := if_neg hc
                  rw [e] at hQ
                  clear hc
                  refine sw_aload_n dX5_count_103 rfl ?_
                  refine sw_getR dX5_count_104 flX5_50 ⟨by decide, _, rfl, rfl⟩ ?_
                  refine sw_iconst (v := nI 0) dX5_count_107 (by decide) ?_
                  refine sw_iald dX5_count_108 rfl (by simp only [plA]; omega) ?_
                  refine sw_goto (tgt := 113) dX5_count_109 (by decide) ?_
                  refine sw_iret dX5_count_113 rfl rfl rfl ?_
                  exact hQ
                · have e : mc h (nI (fa_cnt (fun k => decide (0 < h 31 k)) (8 * z))) 4 = -4 := if_pos hc
                  rw [e] at hQ
                  clear hc
                  refine sw_bipush (v := (-4)) dX5_count_98 (by decide) ?_
                  refine sw_goto (tgt := 113) dX5_count_100 (by decide) ?_
                  refine sw_iret dX5_count_113 rfl rfl rfl ?_
                  exact hQ
            · have hQ := kg 3 (by omega) hc
              clear hc
              refine sw_iload_n dX5_count_78 rfl ?_
              refine sw_goto (tgt := 113) dX5_count_79 (by decide) ?_
              refine sw_iret dX5_count_113 rfl rfl rfl ?_
              exact hQ
          · have hQ := kg 2 (by omega) hc
            clear hc
            refine sw_aload_n dX5_count_66 rfl ?_
            refine sw_getI dX5_count_67 flX5_149 ⟨by decide, _, rfl, rfl⟩ ?_
            refine sw_goto (tgt := 113) dX5_count_70 (by decide) ?_
            refine sw_iret dX5_count_113 rfl rfl rfl ?_
            exact hQ
        · have hQ := kg 1 (by omega) hc
          clear hc
          refine sw_aload_n dX5_count_54 rfl ?_
          refine sw_getI dX5_count_55 flX5_56 ⟨by decide, _, rfl, rfl⟩ ?_
          refine sw_goto (tgt := 113) dX5_count_58 (by decide) ?_
          refine sw_iret dX5_count_113 rfl rfl rfl ?_
          exact hQ
      · have hQ := kg 0 (by omega) hc
        clear hc
        refine sw_aload_n dX5_count_42 rfl ?_
        refine sw_getI dX5_count_43 flX5_7 ⟨by decide, _, rfl, rfl⟩ ?_
        refine sw_goto (tgt := 113) dX5_count_46 (by decide) ?_
        refine sw_iret dX5_count_113 rfl rfl rfl ?_
        exact hQ
    · omega
  · intro i hi ih
    have hcl := fa_cnt_le (fun k => decide (0 < h 31 k)) i
    refine sw_iload_n dX5_count_4 rfl ?_
    refine sw_bipush (v := nI 8) dX5_count_5 (by decide) ?_
    refine sw_aload_n dX5_count_7 rfl ?_
    refine sw_getI dX5_count_8 flX5_56 ⟨by decide, _, rfl, rfl⟩ ?_
    rw [hz]
    refine sw_imulN dX5_count_11 ?_
    refine sw_icmpN_ge (tgt := 38) dX5_count_12 (by decide) (by omega) (by omega) (fun hc => ?_) (fun hc => ?_)
    · omega
    · clear hc
      refine sw_iload_n dX5_count_15 rfl ?_
      refine sw_aload_n dX5_count_16 rfl ?_
      refine sw_getR dX5_count_17 flX5_20 ⟨by decide, _, rfl, rfl⟩ ?_
      refine sw_iload_n dX5_count_20 rfl ?_
      refine sw_iald dX5_count_21 rfl (by simp only [plA]; omega) ?_
      refine sw_if_le (tgt := 29) dX5_count_22 (by decide) (fun hc => ?_) (fun hc => ?_)
      · have e : fa_cnt (fun k => decide (0 < h 31 k)) (i + 1) = fa_cnt (fun k => decide (0 < h 31 k)) i := fa_cnt_no (decide_eq_false (Int32.not_lt.mpr hc))
        rw [e] at ih
        clear hc
        refine sw_iconst (v := nI 0) dX5_count_29 (by decide) ?_
        refine sw_iaddN dX5_count_30 ?_
        rw [Nat.add_zero]
        refine sw_istore_n dX5_count_31 (by decide) rfl ?_
        first | refine sw_iincN (b := 1) dX5_count_32 rfl (by decide) rfl ?_ | refine sw_iinc dX5_count_32 rfl rfl (by decide) rfl ?_
        refine sw_goto (tgt := 4) dX5_count_35 (by decide) ?_
        exact ih
      · have e : fa_cnt (fun k => decide (0 < h 31 k)) (i + 1) = fa_cnt (fun k => decide (0 < h 31 k)) i + 1 := fa_cnt_yes (decide_eq_true (Int32.not_le.mp hc))
        rw [e] at ih
        clear hc
        refine sw_iconst (v := nI 1) dX5_count_25 (by decide) ?_
        refine sw_goto (tgt := 30) dX5_count_26 (by decide) ?_
        refine sw_iaddN dX5_count_30 ?_
        refine sw_istore_n dX5_count_31 (by decide) rfl ?_
        first | refine sw_iincN (b := 1) dX5_count_32 rfl (by decide) rfl ?_ | refine sw_iinc dX5_count_32 rfl rfl (by decide) rfl ?_
        refine sw_goto (tgt := 4) dX5_count_35 (by decide) ?_
        exact ih
theorem b_count (a : Int32) : Both jX4_count jX5_count [.int a] := by
  intro h K hK hI
  have hI0 := hI
  obtain ⟨n, z, sm, lf, r, i1, iT, iM, iW, iS, iC, iR, iH⟩ := hI
  have hz8 := iT.1.2.1
  cases ha : rg 0 4 a with
  | false => exact ⟨-1, x_count_bad ha ⟨rfl, m_count hz8 iM.1.2.2.2 (fun _ => ⟨rfl, hI0.up⟩) (fun k hk e => by
      rw [e, rg_t (by rw [t_N (by omega)]; omega) (by rw [t_N (by omega)]; omega)] at ha
      exact absurd ha (by decide))⟩⟩
  | true =>
    obtain ⟨k, hk, rfl⟩ := rg_nat2 (z := 4) (c := a) (by decide) ha
    have hw : ∀ c j, c < z → 2 ^ pop (sm c) ≤ j → j < 8 → h 4 (8 * c + j) = 0 := fun c j hc h1 h2 => by
      rw [(iW.1 _ (by omega)).1, iW.2 c j hc h1 h2]
      rfl
    refine ⟨_, x_count iT hw hk ⟨rfl, m_count hz8 iM.1.2.2.2 (fun q => absurd (ha.symm.trans q) (by decide)) (fun k' hk' e => ⟨?_, hI0.up⟩)⟩⟩
    obtain rfl := (nI_eq (by omega) (by omega)).mp e
    have ew : fa_cnt (fun k => decide (0 < h 31 k)) (8 * z) = fa_cnt (fun k => decide (0 < h 4 k)) (8 * z) := fa_cnt_cong (fun q hq => by rw [(iW.1 q (by omega)).1, (iW.1 q (by omega)).2.1])
    rw [ew]
    congr 2
    rcases (show k = 0 ∨ k = 1 ∨ k = 2 ∨ k = 3 ∨ k = 4 by omega) with rfl | rfl | rfl | rfl | rfl
    · exact iM.1.2.2.1.trans iT.1.2.2.1.symm
    · exact iM.1.2.2.2.trans iT.1.2.2.2.symm
    · exact iR.2.1.trans iR.1.2.1.symm
    · rfl
    · show (if h 40 0 = -4 then -4 else h 41 0) = (if h 20 1 = -1 then -4 else h 20 2)
      rcases (iH 0 (by decide)).1 with ⟨x1, m1⟩ | ⟨l, s, hl3, hs64, x1, m1, x2, m2⟩
      · rw [if_pos m1, if_pos x1]
      · rw [if_neg (by rw [m1]; exact l4_ne (by omega)), if_neg (by rw [x1]; exact l1_ne hl3), m2, x2]
end OPS
/-! draw -/
def okv (kd : Nat) (v : Int32) : Bool := if kd = 0 then rg 0 1000 v else rg (-100) 100 v
def fau (cell : Nat → Int32) (s f kd : Nat) : Nat → Nat → Int32
  | _, 0 => 0
  | j, d + 1 => if f + j < s then (if okv kd (cell (f + j)) = true then fau cell s f kd (j + 1) d else -20 - nI j) else -12
theorem fau_cong {c d : Nat → Int32} {s f kd : Nat} (h : ∀ i, i < s → c i = d i) : ∀ (m j : Nat), fau c s f kd j m = fau d s f kd j m
  | 0, _ => rfl
  | m + 1, j => by
    simp only [fau]
    by_cases q : f + j < s
    · rw [if_pos q, if_pos q, h _ q, fau_cong h m (j + 1)]
    · rw [if_neg q, if_neg q]
theorem m20_ne {j : Nat} (h : j ≤ 8) : ¬ (-20 - nI j : Int32) = 0 := by
  rcases (show j = 0 ∨ j = 1 ∨ j = 2 ∨ j = 3 ∨ j = 4 ∨ j = 5 ∨ j = 6 ∨ j = 7 ∨ j = 8 by omega) with rfl | rfl | rfl | rfl | rfl | rfl | rfl | rfl | rfl <;> decide
theorem fau_0 {c : Nat → Int32} {s f kd : Nat} : ∀ (m j : Nat), j + m ≤ 8 → fau c s f kd j m = 0 → ∀ i, j ≤ i → i < j + m → f + i < s ∧ okv kd (c (f + i)) = true
  | 0, j, _, _, i, h1, h2 => absurd h2 (by omega)
  | m + 1, j, h8, h, i, h1, h2 => by
    simp only [fau] at h
    by_cases q : f + j < s
    · rw [if_pos q] at h
      by_cases w : okv kd (c (f + j)) = true
      · rw [if_pos w] at h
        by_cases e : i = j
        · subst e; exact ⟨q, w⟩
        · exact fau_0 m (j + 1) (by omega) h i (by omega) (by omega)
      · rw [if_neg w] at h
        exact absurd h (m20_ne (by omega))
    · rw [if_neg q] at h
      exact absurd h (by decide)
section OPS
variable {h : Hp} {n z : Nat} {sm : Nat → Nat} {Q : Option Value → Hp → Prop}
theorem c_firstFault_bad {k s m : Nat} {kd f : Int32} (hk : k < 4) (hs : s ≤ 64) (hz : h (20 + k) 2 = nI s) (hf : rg 0 ((s : Int) - 1) f = false) (hm : 1 ≤ m) (hm8 : m ≤ 8) : Ctr jX4_firstFault [.ref (20 + k), .int kd, .int f, .int (nI m)] h (Ret (-12) h) := by
  refine ctr_start (by decide) (Nat.le_of_ble_eq_true rfl) rfl rfl ?_
  show SW jX4_firstFault E0 _ 0 [some (.ref (20 + k)), some (.int kd), some (.int f), some (.int (nI m)), none, none] [] _
  refine sw_iconst (v := nI 0) dX4_firstFault_0 (by decide) ?_
  refine sw_istore dX4_firstFault_1 (by decide) rfl ?_
  refine sw_iload dX4_firstFault_3 rfl ?_
  refine sw_iload_n dX4_firstFault_5 rfl ?_
  refine sw_icmpN_ge (tgt := 69) dX4_firstFault_6 (by decide) (by omega) (by omega) (fun hc => ?_) (fun hc => ?_)
  · omega
  · clear hc
    refine sw_aload_n dX4_firstFault_9 rfl ?_
    refine sw_iload_n dX4_firstFault_10 rfl ?_
    refine sw_iload dX4_firstFault_11 rfl ?_
    refine sw_iadd dX4_firstFault_13 ?_
    rw [show f + nI 0 = f from Int32.add_zero f]
    refine sw_cvi (c_hasCell hk hs hz f) dX4_firstFault_14 lkX4_201 (by decide) (obL hk) rfl rfl rfl (Nat.le_of_ble_eq_true rfl) ?_
    rw [hf]
    refine sw_if_ne (tgt := 23) dX4_firstFault_17 (by decide) (fun hc => ?_) (fun hc => ?_)
    · exact absurd rfl hc
    · refine sw_bipush (v := (-12)) dX4_firstFault_20 (by decide) ?_
      refine sw_iret dX4_firstFault_22 rfl rfl rfl ?_
      exact ⟨rfl, rfl⟩
theorem c_firstFault {k s m kd f : Nat} (hk : k < 4) (hs : s ≤ 64) (hz : h (20 + k) 2 = nI s) (hf : f < s) (hkd : kd < 2) (hm8 : m ≤ 8) : Ctr jX4_firstFault [.ref (20 + k), .int (nI kd), .int (nI f), .int (nI m)] h (Ret (fau (h (24 + k)) s f kd 0 m) h) := by
  refine ctr_start (by decide) (Nat.le_of_ble_eq_true rfl) rfl rfl ?_
  show SW jX4_firstFault E0 _ 0 [some (.ref (20 + k)), some (.int (nI kd)), some (.int (nI f)), some (.int (nI m)), none, none] [] _
  refine sw_iconst (v := nI 0) dX4_firstFault_0 (by decide) ?_
  refine sw_istore dX4_firstFault_1 (by decide) rfl ?_
  have key := lp_up (n := m) (S := fun j => fau (h (24 + k)) s f kd 0 m = fau (h (24 + k)) s f kd j (m - j) → ∀ v5, SW jX4_firstFault E0 (Zm (Ret (fau (h (24 + k)) s f kd 0 m) h)) 3 [some (.ref (20 + k)), some (.int (nI kd)), some (.int (nI f)), some (.int (nI m)), some (.int (nI j)), v5] [] h) ?_ ?_ 0 (Nat.zero_le _) rfl none
  · exact key
  · intro he v5
    rw [Nat.sub_self] at he
    refine sw_iload dX4_firstFault_3 rfl ?_
    refine sw_iload_n dX4_firstFault_5 rfl ?_
    refine sw_icmpN_ge (tgt := 69) dX4_firstFault_6 (by decide) (by omega) (by omega) (fun hc => ?_) (fun hc => ?_)
    · refine sw_iconst (v := nI 0) dX4_firstFault_69 (by decide) ?_
      refine sw_iret dX4_firstFault_70 rfl rfl rfl ?_
      exact ⟨by rw [he]; rfl, rfl⟩
    · omega
  · intro j hj ih he v5
    rw [show m - j = (m - (j + 1)) + 1 by omega] at he
    simp only [fau] at he
    refine sw_iload dX4_firstFault_3 rfl ?_
    refine sw_iload_n dX4_firstFault_5 rfl ?_
    refine sw_icmpN_ge (tgt := 69) dX4_firstFault_6 (by decide) (by omega) (by omega) (fun hc => ?_) (fun hc => ?_)
    · omega
    · clear hc
      refine sw_aload_n dX4_firstFault_9 rfl ?_
      refine sw_iload_n dX4_firstFault_10 rfl ?_
      refine sw_iload dX4_firstFault_11 rfl ?_
      refine sw_iaddN dX4_firstFault_13 ?_
      refine sw_cvi (c_hasCell hk hs hz (nI (f + j))) dX4_firstFault_14 lkX4_201 (by decide) (obL hk) rfl rfl rfl (Nat.le_of_ble_eq_true rfl) ?_
      refine sw_if_ne (tgt := 23) dX4_firstFault_17 (by decide) (fun hc => ?_) (fun hc => ?_)
      · have hin : f + j < s := by
          cases q : rg 0 ((s : Int) - 1) (nI (f + j)) with
          | true =>
            have := of_decide_eq_true q
            rw [t_N (by omega)] at this
            omega
          | false => rw [q] at hc; exact absurd rfl hc
        clear hc
        rw [if_pos hin] at he
        have bad : ¬ okv kd (h (24 + k) (f + j)) = true → SW jX4_firstFault E0 (Zm (Ret (fau (h (24 + k)) s f kd 0 m) h)) 57 [some (.ref (20 + k)), some (.int (nI kd)), some (.int (nI f)), some (.int (nI m)), some (.int (nI j)), some (.int (h (24 + k) (f + j)))] [] h := fun q => by
          rw [if_neg q] at he
          refine sw_bipush (v := (-20)) dX4_firstFault_57 (by decide) ?_
          refine sw_iload dX4_firstFault_59 rfl ?_
          refine sw_isub dX4_firstFault_61 ?_
          refine sw_iret dX4_firstFault_62 rfl rfl rfl ?_
          exact ⟨by rw [he], rfl⟩
        have good : okv kd (h (24 + k) (f + j)) = true → SW jX4_firstFault E0 (Zm (Ret (fau (h (24 + k)) s f kd 0 m) h)) 63 [some (.ref (20 + k)), some (.int (nI kd)), some (.int (nI f)), some (.int (nI m)), some (.int (nI j)), some (.int (h (24 + k) (f + j)))] [] h := fun q => by
          rw [if_pos q] at he
          first | refine sw_iincN (b := 1) dX4_firstFault_63 rfl (by decide) rfl ?_ | refine sw_iinc dX4_firstFault_63 rfl rfl (by decide) rfl ?_
          refine sw_goto (tgt := 3) dX4_firstFault_66 (by decide) ?_
          exact ih he _
        refine sw_aload_n dX4_firstFault_23 rfl ?_
        refine sw_getNR dX4_firstFault_24 fnX4_217 (obC hk) ?_
        refine sw_iload_n dX4_firstFault_27 rfl ?_
        refine sw_iload dX4_firstFault_28 rfl ?_
        refine sw_iaddN dX4_firstFault_30 ?_
        refine sw_iald dX4_firstFault_31 (isI_C hk) (by rw [plA_C hk]; omega) ?_
        refine sw_istore dX4_firstFault_32 (by decide) rfl ?_
        refine sw_iload_n dX4_firstFault_34 rfl ?_
        rcases (show kd = 0 ∨ kd = 1 by omega) with rfl | rfl
        · refine sw_if_ne (tgt := 49) dX4_firstFault_35 (by decide) (fun hc => ?_) (fun hc => ?_)
          · exact absurd rfl hc
          · clear hc
            refine sw_iload dX4_firstFault_38 rfl ?_
            refine sw_csi (c_isWeight _) dX4_firstFault_40 lkX4_85 (by decide) rfl rfl (Nat.le_of_ble_eq_true rfl) ?_
            refine sw_if_ne (tgt := 63) dX4_firstFault_43 (by decide) (fun hc => ?_) (fun hc => ?_)
            · refine good ?_
              cases q : rg 0 1000 (h (24 + k) (f + j)) with
              | true => exact q
              | false => rw [q] at hc; exact absurd rfl hc
            · have q := bI_0 hc
              refine sw_goto (tgt := 57) dX4_firstFault_46 (by decide) ?_
              exact bad (fun w => absurd (q.symm.trans w) (by decide))
        · refine sw_if_ne (tgt := 49) dX4_firstFault_35 (by decide) (fun hc => ?_) (fun hc => ?_)
          · clear hc
            refine sw_iload dX4_firstFault_49 rfl ?_
            refine sw_csi (c_isStake _) dX4_firstFault_51 lkX4_95 (by decide) rfl rfl (Nat.le_of_ble_eq_true rfl) ?_
            refine sw_if_ne (tgt := 63) dX4_firstFault_54 (by decide) (fun hc => ?_) (fun hc => ?_)
            · refine good ?_
              cases q : rg (-100) 100 (h (24 + k) (f + j)) with
              | true => exact q
              | false => rw [q] at hc; exact absurd rfl hc
            · have q := bI_0 hc
              exact bad (fun w => absurd (q.symm.trans w) (by decide))
          · exact absurd hc (by decide)
      · have hout : ¬ f + j < s := fun w => by
          rw [rg_nI (by omega) w] at hc
          exact absurd hc (by decide)
        rw [if_neg hout] at he
        refine sw_bipush (v := (-12)) dX4_firstFault_20 (by decide) ?_
        refine sw_iret dX4_firstFault_22 rfl rfl rfl ?_
        exact ⟨by rw [he], rfl⟩
end OPS
