/-! calls: sheet, lay, count -/
theorem k4c {k : Nat} (hk : k < 4) : isI (24 + k) = true := isI_C hk
section OPS
variable {h : Hp} {Q : Option Value → Hp → Prop}
theorem x_sheet {a l s : Int32} (k1 : ¬ (rg 0 3 a = true ∧ rg 0 2 l = true ∧ s.toInt ≤ 64) → Q (some (.int (-1))) h) (k2 : (rg 0 3 a = true ∧ rg 0 2 l = true ∧ s.toInt ≤ 64) → s.toInt < 0 → Q (some (.int (-14))) h) (k3 : ∀ k, k < 4 → a = nI k → rg 0 2 l = true → s.toInt ≤ 64 → ¬ s.toInt < 0 → Q (some (.int (nI 1))) (hset (hset (hfl h (24 + k) (nI 0) 64) (20 + k) 1 l) (20 + k) 2 s)) : Ctr jX4_sheet [.ref 0, .int a, .int l, .int s] h Q := by
  refine ctr_start (by decide) (Nat.le_of_ble_eq_true rfl) rfl rfl ?_
  show SW jX4_sheet E0 _ 0 [some (.ref 0), some (.int a), some (.int l), some (.int s)] [] _
  have bad : ¬ (rg 0 3 a = true ∧ rg 0 2 l = true ∧ s.toInt ≤ 64) → SW jX4_sheet E0 (Zm Q) 20 [some (.ref 0), some (.int a), some (.int l), some (.int s)] [] h := fun q => by
    refine sw_iconst (v := (-1)) dX4_sheet_20 (by decide) ?_
    refine sw_iret dX4_sheet_21 rfl rfl rfl ?_
    exact k1 q
  refine sw_iload_n dX4_sheet_0 rfl ?_
  refine sw_csi (c_isSheet a) dX4_sheet_1 lkX4_189 (by decide) rfl rfl (Nat.le_of_ble_eq_true rfl) ?_
  refine sw_if_eq (tgt := 20) dX4_sheet_4 (by decide) (fun hc => ?_) (fun hc => ?_)
  · exact bad (fun q => absurd ((bI_0 hc).symm.trans q.1) (by decide))
  · have a1 := bI_1 hc
    clear hc
    refine sw_iload_n dX4_sheet_7 rfl ?_
    refine sw_csi (c_isLane l) dX4_sheet_8 lkX4_192 (by decide) rfl rfl (Nat.le_of_ble_eq_true rfl) ?_
    refine sw_if_eq (tgt := 20) dX4_sheet_11 (by decide) (fun hc => ?_) (fun hc => ?_)
    · exact bad (fun q => absurd ((bI_0 hc).symm.trans q.2.1) (by decide))
    · have a2 := bI_1 hc
      clear hc
      refine sw_iload_n dX4_sheet_14 rfl ?_
      refine sw_bipush (v := nI 64) dX4_sheet_15 (by decide) ?_
      refine sw_icmp_le (tgt := 22) dX4_sheet_17 (by decide) (fun hc => ?_) (fun hc => ?_)
      · rw [i_le, t_N (by omega)] at hc
        have a3 : s.toInt ≤ 64 := hc
        clear hc
        refine sw_iload_n dX4_sheet_22 rfl ?_
        refine sw_if_ge (tgt := 29) dX4_sheet_23 (by decide) (fun hc => ?_) (fun hc => ?_)
        · rw [i_le, t_0] at hc
          obtain ⟨k, hk, rfl⟩ := rg_nat2 (z := 3) (c := a) (by decide) a1
          have hk4 : k < 4 := by omega
          have hQ := k3 k hk4 rfl a2 a3 (by omega)
          clear hc k1 k2 k3 bad
          refine sw_aload_n dX4_sheet_29 rfl ?_
          refine sw_getR dX4_sheet_30 flX4_32 ⟨by decide, _, rfl, rfl⟩ ?_
          refine sw_iload_n dX4_sheet_33 rfl ?_
          refine sw_aald dX4_sheet_34 (by omega) ?_
          refine sw_iload_n dX4_sheet_35 rfl ?_
          refine sw_iload_n dX4_sheet_36 rfl ?_
          refine sw_cvv (c_renew hk4 l s) dX4_sheet_37 lkX4_195 (by decide) (obL hk4) rfl rfl rfl (Nat.le_of_ble_eq_true rfl) ?_
          refine sw_iconst (v := nI 1) dX4_sheet_40 (by decide) ?_
          refine sw_iret dX4_sheet_41 rfl rfl rfl ?_
          exact hQ
        · rw [i_le, t_0] at hc
          refine sw_bipush (v := (-14)) dX4_sheet_26 (by decide) ?_
          refine sw_iret dX4_sheet_28 rfl rfl rfl ?_
          exact k2 ⟨a1, a2, a3⟩ (by omega)
      · rw [i_le, t_N (by omega)] at hc
        exact bad (fun q => hc q.2.2)
theorem m_sheet {a l s : Int32} (k1 : ¬ (rg 0 3 a = true ∧ rg 0 2 l = true ∧ s.toInt ≤ 64) → Q (some (.int (-1))) h) (k2 : (rg 0 3 a = true ∧ rg 0 2 l = true ∧ s.toInt ≤ 64) → s.toInt < 0 → Q (some (.int (-14))) h) (k3 : ∀ k, k < 4 → a = nI k → rg 0 2 l = true → s.toInt ≤ 64 → ¬ s.toInt < 0 → ∀ g : Hp, (∀ q, q ≠ 40 → q ≠ 41 → q ≠ 42 → g q = h q) → g 40 = upd (h 40) k l → g 41 = upd (h 41) k s → (∀ j, g 42 j = if 64 * k ≤ j ∧ j < 64 * k + 64 then nI 0 else h 42 j) → Q (some (.int (nI 1))) g) : Ctr jX5_sheet [.ref 28, .int a, .int l, .int s] h Q := by
  refine ctr_start (by decide) (Nat.le_of_ble_eq_true rfl) rfl rfl ?_
  show SW jX5_sheet E0 _ 0 [some (.ref 28), some (.int a), some (.int l), some (.int s), none] [] _
  have bad : ¬ (rg 0 3 a = true ∧ rg 0 2 l = true ∧ s.toInt ≤ 64) → SW jX5_sheet E0 (Zm Q) 14 [some (.ref 28), some (.int a), some (.int l), some (.int s), none] [] h := fun q => by
    refine sw_iconst (v := (-1)) dX5_sheet_14 (by decide) ?_
    refine sw_iret dX5_sheet_15 rfl rfl rfl ?_
    exact k1 q
  refine sw_iload_n dX5_sheet_0 rfl ?_
  refine sw_iload_n dX5_sheet_1 rfl ?_
  refine sw_csi (c_isSheetM a l) dX5_sheet_2 lkX5_171 (by decide) rfl rfl (Nat.le_of_ble_eq_true rfl) ?_
  refine sw_if_eq (tgt := 14) dX5_sheet_5 (by decide) (fun hc => ?_) (fun hc => ?_)
  · have h1 := bI_0 hc
    exact bad (fun q => by rw [q.1, q.2.1] at h1; exact absurd h1 (by decide))
  · have h1 := bI_1 hc
    rw [Bool.and_eq_true] at h1
    clear hc
    refine sw_iload_n dX5_sheet_8 rfl ?_
    refine sw_bipush (v := nI 64) dX5_sheet_9 (by decide) ?_
    refine sw_icmp_le (tgt := 16) dX5_sheet_11 (by decide) (fun hc => ?_) (fun hc => ?_)
    · rw [i_le, t_N (by omega)] at hc
      have a3 : s.toInt ≤ 64 := hc
      clear hc
      refine sw_iload_n dX5_sheet_16 rfl ?_
      refine sw_if_ge (tgt := 23) dX5_sheet_17 (by decide) (fun hc => ?_) (fun hc => ?_)
      · rw [i_le, t_0] at hc
        obtain ⟨k, hk, rfl⟩ := rg_nat2 (z := 3) (c := a) (by decide) h1.1
        have hQ := k3 k (by omega) rfl h1.2 a3 (by omega)
        clear hc k1 k2 k3 bad
        refine sw_aload_n dX5_sheet_23 rfl ?_
        refine sw_getR dX5_sheet_24 flX5_47 ⟨by decide, _, rfl, rfl⟩ ?_
        refine sw_iload_n dX5_sheet_27 rfl ?_
        refine sw_iload_n dX5_sheet_28 rfl ?_
        refine sw_iast dX5_sheet_29 rfl (by simp only [plA]; omega) ?_
        refine sw_aload_n dX5_sheet_30 rfl ?_
        refine sw_getR dX5_sheet_31 flX5_50 ⟨by decide, _, rfl, rfl⟩ ?_
        refine sw_iload_n dX5_sheet_34 rfl ?_
        refine sw_iload_n dX5_sheet_35 rfl ?_
        refine sw_iast dX5_sheet_36 rfl (by simp only [plA]; omega) ?_
        refine sw_iconst (v := nI 0) dX5_sheet_37 (by decide) ?_
        refine sw_istore dX5_sheet_38 (by decide) rfl ?_
        generalize hge : hset (hset h 40 k l) 41 k s = g0
        have e0 : ∀ q, q ≠ 40 → q ≠ 41 → g0 q = h q := fun q q1 q2 => by rw [← hge, hset_off q q2, hset_off q q1]
        have e40 : g0 40 = upd (h 40) k l := by rw [← hge, hset_off 40 (by decide), hset_same]
        have e41 : g0 41 = upd (h 41) k s := by rw [← hge, hset_same, hset_off 41 (by decide)]
        have key := lp_up (n := 64) (S := fun i => ∀ g : Hp, (∀ q, q ≠ 42 → g q = g0 q) → (∀ j, g 42 j = if 64 * k ≤ j ∧ j < 64 * k + i then nI 0 else h 42 j) → SW jX5_sheet E0 (Zm Q) 40 [some (.ref 28), some (.int (nI k)), some (.int l), some (.int s), some (.int (nI i))] [] g) ?_ ?_ 0 (Nat.zero_le _) g0 (fun _ _ => rfl) (fun j => by rw [if_neg (fun q => by omega), e0 42 (by decide) (by decide)])
        · exact key
        · intro g hS hj
          refine sw_iload dX5_sheet_40 rfl ?_
          refine sw_bipush (v := nI 64) dX5_sheet_42 (by decide) ?_
          refine sw_icmpN_ge (tgt := 66) dX5_sheet_44 (by decide) (by omega) (by omega) (fun hc => ?_) (fun hc => ?_)
          · refine sw_iconst (v := nI 1) dX5_sheet_66 (by decide) ?_
            refine sw_iret dX5_sheet_67 rfl rfl rfl ?_
            exact hQ g (fun q q1 q2 q3 => by rw [hS q q3, e0 q q1 q2]) (by rw [hS 40 (by decide), e40]) (by rw [hS 41 (by decide), e41]) hj
          · omega
        · intro i hi ih g hS hj
          refine sw_iload dX5_sheet_40 rfl ?_
          refine sw_bipush (v := nI 64) dX5_sheet_42 (by decide) ?_
          refine sw_icmpN_ge (tgt := 66) dX5_sheet_44 (by decide) (by omega) (by omega) (fun hc => ?_) (fun hc => ?_)
          · omega
          · clear hc
            refine sw_aload_n dX5_sheet_47 rfl ?_
            refine sw_getR dX5_sheet_48 flX5_53 ⟨by decide, _, rfl, rfl⟩ ?_
            refine sw_bipush (v := nI 64) dX5_sheet_51 (by decide) ?_
            refine sw_iload_n dX5_sheet_53 rfl ?_
            first | refine sw_imulN dX5_sheet_54 ?_ | refine sw_imul dX5_sheet_54 ?_
            refine sw_iload dX5_sheet_55 rfl ?_
            first | refine sw_iaddN dX5_sheet_57 ?_ | refine sw_iadd dX5_sheet_57 ?_
            refine sw_iconst (v := nI 0) dX5_sheet_58 (by decide) ?_
            refine sw_iast dX5_sheet_59 rfl (by simp only [plA]; omega) ?_
            first | refine sw_iincN (b := 1) dX5_sheet_60 rfl (by decide) rfl ?_ | refine sw_iinc dX5_sheet_60 rfl rfl (by decide) rfl ?_
            refine sw_goto (tgt := 40) dX5_sheet_63 (by decide) ?_
            refine ih _ (fun q q1 => by rw [hset_off q q1]; exact hS q q1) (fun j => ?_)
            rw [hset_same]
            by_cases e : j = 64 * k + i
            · rw [e, pk_us, if_pos ⟨by omega, by omega⟩]
            · rw [pk_un e, hj j]
              by_cases w : 64 * k ≤ j ∧ j < 64 * k + i
              · rw [if_pos w, if_pos ⟨by omega, by omega⟩]
              · rw [if_neg w, if_neg (fun z => by omega)]
      · rw [i_le, t_0] at hc
        refine sw_bipush (v := (-14)) dX5_sheet_20 (by decide) ?_
        refine sw_iret dX5_sheet_22 rfl rfl rfl ?_
        exact k2 ⟨h1.1, h1.2, a3⟩ (by omega)
    · rw [i_le, t_N (by omega)] at hc
      exact bad (fun q => hc q.2.2)
/-- the sheets alone have changed -/
theorem I0_sh {h g : Hp} {n z : Nat} {sm lf : Nat → Nat} {r K : Nat} (I : I0 h n z sm lf r K) (e : ∀ k, (k < 20 ∨ 27 < k) → (k < 40 ∨ 42 < k) → g k = h k) (hH : SH g) : I0 g n z sm lf r (K + 1) := by
  obtain ⟨i1, iT, iM, iW, iS, iC, iR, iH⟩ := I
  have e' : ∀ k, k < 20 → g k = h k := fun k hk => e k (Or.inl hk) (Or.inl (by omega))
  have e28 : g 28 = h 28 := e 28 (by decide) (by decide)
  refine ⟨i1, TX_keep iT (e' 1 (by decide)) (e' 2 (by decide)) (e' 6 (by decide)) (e' 7 (by decide)), TM_keep iM (by rw [e28]) (by rw [e28]) (e 29 (by decide) (by decide)), ?_, ?_, CK_eq (e' 1 (by decide)) (e' 10 (by decide)) (e' 11 (by decide)) iC, RI_eq (fun k k1 k2 => e' k (by omega)) (fun k k1 k2 => e k (by omega) (by omega)) (by rw [e28]) iR, hH⟩
  · unfold WI at iW ⊢
    rw [e' 4 (by decide), e 31 (by decide) (by decide)]
    exact iW
  · unfold SP at iS ⊢
    rw [e' 5 (by decide), e' 3 (by decide), e 32 (by decide) (by decide), e 30 (by decide) (by decide)]
    exact iS
theorem b_sheet (a l s : Int32) : Both jX4_sheet jX5_sheet [.int a, .int l, .int s] := by
  intro h K hK hI
  have hI0 := hI
  obtain ⟨n, z, sm, lf, r, I⟩ := hI
  have iH := I.2.2.2.2.2.2.2
  by_cases ok : rg 0 3 a = true ∧ rg 0 2 l = true ∧ s.toInt ≤ 64
  · by_cases hs : s.toInt < 0
    · exact ⟨-14, x_sheet (fun q => absurd ok q) (fun _ _ => ⟨rfl, m_sheet (fun q => absurd ok q) (fun _ _ => ⟨rfl, hI0.up⟩) (fun _ _ _ _ _ q => absurd hs q)⟩) (fun _ _ _ _ _ q => absurd hs q)⟩
    · refine ⟨nI 1, x_sheet (fun q => absurd ok q) (fun _ q => absurd q hs) (fun k hk ha hl _ _ => ⟨rfl, ?_⟩)⟩
      obtain ⟨l', hl', rfl⟩ := rg_nat2 (z := 2) (c := l) (by decide) hl
      obtain ⟨s', hs', rfl⟩ := rg_nat2 (z := 64) (c := s) (by decide) (rg_t (by omega) ok.2.2)
      subst ha
      generalize hge : hset (hset (hfl h (24 + k) (nI 0) 64) (20 + k) 1 (nI l')) (20 + k) 2 (nI s') = g
      have eg : ∀ q, q ≠ 24 + k → q ≠ 20 + k → g q = h q := fun q q1 q2 => by rw [← hge, hset_off q q2, hset_off q q2, hfl_off q1]
      have g1 : g (20 + k) 1 = nI l' := by rw [← hge, hset_i (by decide), hset_at]
      have g2 : g (20 + k) 2 = nI s' := by rw [← hge, hset_at]
      have g3 : ∀ i, i < 64 → g (24 + k) i = nI 0 := fun i hi => by rw [← hge, hset_off _ (by omega), hset_off _ (by omega), hfl_in hi]
      refine m_sheet (fun q => absurd ok q) (fun _ q => absurd q hs) (fun k' hk' ha' _ _ _ f ef f40 f41 f42 => ⟨rfl, ?_⟩)
      obtain rfl : k = k' := (nI_eq (by omega) (by omega)).mp ha'
      refine ⟨n, z, sm, lf, r, I0_sh I (fun q q1 q2 => ?_) (fun q hq => ?_)⟩
      · rw [ef q (by omega) (by omega) (by omega)]
        exact eg q (by omega) (by omega)
      · rw [f40, f41, eg 40 (by omega) (by omega), eg 41 (by omega) (by omega), ef (20 + q) (by omega) (by omega) (by omega), ef (24 + q) (by omega) (by omega) (by omega)]
        by_cases e : q = k
        · subst e
          refine ⟨Or.inr ⟨l', s', by omega, hs', g1, pk_us, g2, pk_us⟩, fun i hi => ?_⟩
          rw [g3 i hi, f42, if_pos ⟨by omega, by omega⟩]
        · rw [pk_un e, pk_un e, eg (20 + q) (by omega) (by omega), eg (24 + q) (by omega) (by omega)]
          refine ⟨(iH q hq).1, fun i hi => ?_⟩
          rw [f42, if_neg (fun w => by omega), eg 42 (by omega) (by omega)]
          exact (iH q hq).2 i hi
  · exact ⟨-1, x_sheet (fun _ => ⟨rfl, m_sheet (fun _ => ⟨rfl, hI0.up⟩) (fun q => absurd q ok) (fun k hk ha hl hs _ => absurd ⟨by rw [ha]; exact rg_t (by rw [t_N (by omega)]; omega) (by rw [t_N (by omega)]; omega), hl, hs⟩ ok)⟩) (fun q => absurd q ok) (fun k hk ha hl hs _ => absurd ⟨by rw [ha]; exact rg_t (by rw [t_N (by omega)]; omega) (by rw [t_N (by omega)]; omega), hl, hs⟩ ok)⟩
/-! lay -/
theorem x_lay_bad {a i v : Int32} (ha : rg 0 3 a = false) (hQ : Q (some (.int (-1))) h) : Ctr jX4_lay [.ref 0, .int a, .int i, .int v] h Q := by
  refine ctr_start (by decide) (Nat.le_of_ble_eq_true rfl) rfl rfl ?_
  show SW jX4_lay E0 _ 0 [some (.ref 0), some (.int a), some (.int i), some (.int v)] [] _
  refine sw_iload_n dX4_lay_0 rfl ?_
  refine sw_csi (c_isSheet a) dX4_lay_1 lkX4_189 (by decide) rfl rfl (Nat.le_of_ble_eq_true rfl) ?_
  rw [ha]
  refine sw_if_ne (tgt := 9) dX4_lay_4 (by decide) (fun hc => ?_) (fun hc => ?_)
  · exact absurd rfl hc
  · refine sw_iconst (v := (-1)) dX4_lay_7 (by decide) ?_
    refine sw_iret dX4_lay_8 rfl rfl rfl ?_
    exact hQ
theorem x_lay {k : Nat} {i v : Int32} (hk : k < 4) (k1 : h (20 + k) 1 = -1 → Q (some (.int (-11))) h) (k2 : ∀ s, ¬ h (20 + k) 1 = -1 → s ≤ 64 → h (20 + k) 2 = nI s → rg 0 ((s : Int) - 1) i = false → Q (some (.int (-12))) h) (k3 : ∀ s i', ¬ h (20 + k) 1 = -1 → s ≤ 64 → h (20 + k) 2 = nI s → i' < s → i = nI i' → Q (some (.int (nI 1))) (hset h (24 + k) i' (nar (h (20 + k) 1) v))) (hs : ¬ h (20 + k) 1 = -1 → ∃ s, s ≤ 64 ∧ h (20 + k) 2 = nI s) : Ctr jX4_lay [.ref 0, .int (nI k), .int i, .int v] h Q := by
  refine ctr_start (by decide) (Nat.le_of_ble_eq_true rfl) rfl rfl ?_
  show SW jX4_lay E0 _ 0 [some (.ref 0), some (.int (nI k)), some (.int i), some (.int v)] [] _
  refine sw_iload_n dX4_lay_0 rfl ?_
  refine sw_csi (c_isSheet (nI k)) dX4_lay_1 lkX4_189 (by decide) rfl rfl (Nat.le_of_ble_eq_true rfl) ?_
  rw [rg_t (v := nI k) (by rw [t_N (by omega)]; omega) (by rw [t_N (by omega)]; omega)]
  refine sw_if_ne (tgt := 9) dX4_lay_4 (by decide) (fun hc => ?_) (fun hc => ?_)
  · clear hc
    refine sw_aload_n dX4_lay_9 rfl ?_
    refine sw_getR dX4_lay_10 flX4_32 ⟨by decide, _, rfl, rfl⟩ ?_
    refine sw_iload_n dX4_lay_13 rfl ?_
    refine sw_aald dX4_lay_14 (by omega) ?_
    refine sw_cvi (c_isNothing hk) dX4_lay_15 lkX4_198 (by decide) (obL hk) rfl rfl rfl (Nat.le_of_ble_eq_true rfl) ?_
    refine sw_if_eq (tgt := 24) dX4_lay_18 (by decide) (fun hc => ?_) (fun hc => ?_)
    · have hn : ¬ h (20 + k) 1 = -1 := of_decide_eq_false (bI_0 hc)
      clear hc
      obtain ⟨s, hs64, hse⟩ := hs hn
      refine sw_aload_n dX4_lay_24 rfl ?_
      refine sw_getR dX4_lay_25 flX4_32 ⟨by decide, _, rfl, rfl⟩ ?_
      refine sw_iload_n dX4_lay_28 rfl ?_
      refine sw_aald dX4_lay_29 (by omega) ?_
      refine sw_iload_n dX4_lay_30 rfl ?_
      refine sw_cvi (c_hasCell hk hs64 hse i) dX4_lay_31 lkX4_201 (by decide) (obL hk) rfl rfl rfl (Nat.le_of_ble_eq_true rfl) ?_
      refine sw_if_ne (tgt := 40) dX4_lay_34 (by decide) (fun hc => ?_) (fun hc => ?_)
      · have hb : rg 0 ((s : Int) - 1) i = true := by
          cases q : rg 0 ((s : Int) - 1) i with
          | true => rfl
          | false => rw [q] at hc; exact absurd rfl hc
        clear hc
        obtain ⟨i', hi', rfl⟩ := rg_nat (by omega) hb
        have hQ := k3 s i' hn hs64 hse hi' rfl
        clear k1 k2 k3
        refine sw_aload_n dX4_lay_40 rfl ?_
        refine sw_getR dX4_lay_41 flX4_32 ⟨by decide, _, rfl, rfl⟩ ?_
        refine sw_iload_n dX4_lay_44 rfl ?_
        refine sw_aald dX4_lay_45 (by omega) ?_
        refine sw_iload_n dX4_lay_46 rfl ?_
        refine sw_iload_n dX4_lay_47 rfl ?_
        refine sw_cvv (c_write hk (i := i') (by omega) v) dX4_lay_48 lkX4_204 (by decide) (obL hk) rfl rfl rfl (Nat.le_of_ble_eq_true rfl) ?_
        refine sw_iconst (v := nI 1) dX4_lay_51 (by decide) ?_
        refine sw_iret dX4_lay_52 rfl rfl rfl ?_
        exact hQ
      · refine sw_bipush (v := (-12)) dX4_lay_37 (by decide) ?_
        refine sw_iret dX4_lay_39 rfl rfl rfl ?_
        exact k2 s hn hs64 hse (bI_0 hc)
    · have hn : h (20 + k) 1 = -1 := of_decide_eq_true (bI_1 hc)
      refine sw_bipush (v := (-11)) dX4_lay_21 (by decide) ?_
      refine sw_iret dX4_lay_23 rfl rfl rfl ?_
      exact k1 hn
  · exact absurd hc (by decide)
theorem m_lay_bad {a i v : Int32} (ha : rg 0 3 a = false) (hQ : Q (some (.int (-1))) h) : Ctr jX5_lay [.ref 28, .int a, .int i, .int v] h Q := by
  refine ctr_start (by decide) (Nat.le_of_ble_eq_true rfl) rfl rfl ?_
  show SW jX5_lay E0 _ 0 [some (.ref 28), some (.int a), some (.int i), some (.int v)] [] _
  refine sw_iload_n dX5_lay_0 rfl ?_
  refine sw_iconst (v := nI 0) dX5_lay_1 (by decide) ?_
  refine sw_csi (c_isSheetM a (nI 0)) dX5_lay_2 lkX5_171 (by decide) rfl rfl (Nat.le_of_ble_eq_true rfl) ?_
  rw [ha]
  refine sw_if_ne (tgt := 10) dX5_lay_5 (by decide) (fun hc => ?_) (fun hc => ?_)
  · exact absurd rfl hc
  · refine sw_iconst (v := (-1)) dX5_lay_8 (by decide) ?_
    refine sw_iret dX5_lay_9 rfl rfl rfl ?_
    exact hQ
theorem m_lay {k : Nat} {i v : Int32} (hk : k < 4) (k1 : h 40 k = -4 → Q (some (.int (-11))) h) (k2 : ∀ s, ¬ h 40 k = -4 → s ≤ 64 → h 41 k = nI s → rg 0 ((s : Int) - 1) i = false → Q (some (.int (-12))) h) (k3 : ∀ s i', ¬ h 40 k = -4 → s ≤ 64 → h 41 k = nI s → i' < s → i = nI i' → Q (some (.int (nI 1))) (hset h 42 (64 * k + i') (nar (h 40 k) v))) (hs : ¬ h 40 k = -4 → ∃ s, s ≤ 64 ∧ h 41 k = nI s) : Ctr jX5_lay [.ref 28, .int (nI k), .int i, .int v] h Q := by
  refine ctr_start (by decide) (Nat.le_of_ble_eq_true rfl) rfl rfl ?_
  show SW jX5_lay E0 _ 0 [some (.ref 28), some (.int (nI k)), some (.int i), some (.int v)] [] _
  refine sw_iload_n dX5_lay_0 rfl ?_
  refine sw_iconst (v := nI 0) dX5_lay_1 (by decide) ?_
  refine sw_csi (c_isSheetM (nI k) (nI 0)) dX5_lay_2 lkX5_171 (by decide) rfl rfl (Nat.le_of_ble_eq_true rfl) ?_
  rw [rg_t (v := nI k) (by rw [t_N (by omega)]; omega) (by rw [t_N (by omega)]; omega), show rg 0 2 (nI 0) = true by decide]
  refine sw_if_ne (tgt := 10) dX5_lay_5 (by decide) (fun hc => ?_) (fun hc => ?_)
  · clear hc
    refine sw_aload_n dX5_lay_10 rfl ?_
    refine sw_getR dX5_lay_11 flX5_47 ⟨by decide, _, rfl, rfl⟩ ?_
    refine sw_iload_n dX5_lay_14 rfl ?_
    refine sw_iald dX5_lay_15 rfl (by simp only [plA]; omega) ?_
    refine sw_bipush (v := (-4)) dX5_lay_16 (by decide) ?_
    refine sw_icmp_ne (tgt := 24) dX5_lay_18 (by decide) (fun hc => ?_) (fun hc => ?_)
    · have hn : ¬ h 40 k = -4 := hc
      clear hc
      obtain ⟨s, hs64, hse⟩ := hs hn
      refine sw_iload_n dX5_lay_24 rfl ?_
      refine sw_i2l dX5_lay_25 ?_
      refine sw_lconst (v := lN 0) dX5_lay_26 (by decide) ?_
      refine sw_aload_n dX5_lay_27 rfl ?_
      refine sw_getR dX5_lay_28 flX5_50 ⟨by decide, _, rfl, rfl⟩ ?_
      refine sw_iload_n dX5_lay_31 rfl ?_
      refine sw_iald dX5_lay_32 rfl (by simp only [plA]; omega) ?_
      rw [hse]
      refine sw_iconst (v := nI 1) dX5_lay_33 (by decide) ?_
      refine sw_isub dX5_lay_34 ?_
      refine sw_i2l dX5_lay_35 ?_
      refine sw_csi (c_inR (l := 0) (u := (s : Int) - 1) (by decide) (i64S (by omega))) dX5_lay_36 lkX5_59 (by decide) rfl rfl (Nat.le_of_ble_eq_true rfl) ?_
      refine sw_if_ne (tgt := 45) dX5_lay_39 (by decide) (fun hc => ?_) (fun hc => ?_)
      · have hb : rg 0 ((s : Int) - 1) i = true := by
          cases q : rg 0 ((s : Int) - 1) i with
          | true => rfl
          | false => rw [q] at hc; exact absurd rfl hc
        clear hc
        obtain ⟨i', hi', rfl⟩ := rg_nat (by omega) hb
        have hQ := k3 s i' hn hs64 hse hi' rfl
        clear k1 k2 k3
        have fin : ∀ w : Int32, w = nar (h 40 k) v → SW jX5_lay E0 (Zm Q) 85 [some (.ref 28), some (.int (nI k)), some (.int (nI i')), some (.int v)] [.int w, .int (nI (64 * k + i')), .ref 42] h := fun w hw => by
          refine sw_iast dX5_lay_85 rfl (by simp only [plA]; omega) ?_
          refine sw_iconst (v := nI 1) dX5_lay_86 (by decide) ?_
          refine sw_iret dX5_lay_87 rfl rfl rfl ?_
          rw [hw]
          exact hQ
        refine sw_aload_n dX5_lay_45 rfl ?_
        refine sw_getR dX5_lay_46 flX5_53 ⟨by decide, _, rfl, rfl⟩ ?_
        refine sw_bipush (v := nI 64) dX5_lay_49 (by decide) ?_
        refine sw_iload_n dX5_lay_51 rfl ?_
        first | refine sw_imulN dX5_lay_52 ?_ | refine sw_imul dX5_lay_52 ?_
        refine sw_iload_n dX5_lay_53 rfl ?_
        first | refine sw_iaddN dX5_lay_54 ?_ | refine sw_iadd dX5_lay_54 ?_
        refine sw_aload_n dX5_lay_55 rfl ?_
        refine sw_getR dX5_lay_56 flX5_47 ⟨by decide, _, rfl, rfl⟩ ?_
        refine sw_iload_n dX5_lay_59 rfl ?_
        refine sw_iald dX5_lay_60 rfl (by simp only [plA]; omega) ?_
        refine sw_if_ne (tgt := 69) dX5_lay_61 (by decide) (fun hc => ?_) (fun hc => ?_)
        · have h0 := hc
          clear hc
          refine sw_aload_n dX5_lay_69 rfl ?_
          refine sw_getR dX5_lay_70 flX5_47 ⟨by decide, _, rfl, rfl⟩ ?_
          refine sw_iload_n dX5_lay_73 rfl ?_
          refine sw_iald dX5_lay_74 rfl (by simp only [plA]; omega) ?_
          refine sw_iconst (v := nI 1) dX5_lay_75 (by decide) ?_
          refine sw_icmp_ne (tgt := 84) dX5_lay_76 (by decide) (fun hc => ?_) (fun hc => ?_)
          · refine sw_iload_n dX5_lay_84 rfl ?_
            exact fin v (by unfold nar; rw [if_neg h0, if_neg (show ¬ h 40 k = 1 from hc)])
          · refine sw_iload_n dX5_lay_79 rfl ?_
            refine sw_i2s dX5_lay_80 ?_
            refine sw_goto (tgt := 85) dX5_lay_81 (by decide) ?_
            exact fin _ (by unfold nar; rw [if_neg h0, if_pos (show h 40 k = 1 from hc)])
        · refine sw_iload_n dX5_lay_64 rfl ?_
          refine sw_i2b dX5_lay_65 ?_
          refine sw_goto (tgt := 85) dX5_lay_66 (by decide) ?_
          exact fin _ (by unfold nar; rw [if_pos hc])
      · refine sw_bipush (v := (-12)) dX5_lay_42 (by decide) ?_
        refine sw_iret dX5_lay_44 rfl rfl rfl ?_
        exact k2 s hn hs64 hse (bI_0 hc)
    · refine sw_bipush (v := (-11)) dX5_lay_21 (by decide) ?_
      refine sw_iret dX5_lay_23 rfl rfl rfl ?_
      exact k1 hc
  · exact absurd hc (by decide)
theorem l1_ne {l : Nat} (h : l < 3) : ¬ nI l = -1 := fun q => by
  have := congrArg Int32.toInt q
  rw [t_N (by omega), show (-1 : Int32).toInt = -1 by decide] at this
  omega
theorem l4_ne {l : Nat} (h : l ≤ 64) : ¬ nI l = -4 := fun q => by
  have := congrArg Int32.toInt q
  rw [t_N (by omega), show (-4 : Int32).toInt = -4 by decide] at this
  omega
theorem b_lay (a i v : Int32) : Both jX4_lay jX5_lay [.int a, .int i, .int v] := by
  intro h K hK hI
  have hI0 := hI
  obtain ⟨n, z, sm, lf, r, I⟩ := hI
  have iH := I.2.2.2.2.2.2.2
  cases ha : rg 0 3 a with
  | false => exact ⟨-1, x_lay_bad ha ⟨rfl, m_lay_bad ha ⟨rfl, hI0.up⟩⟩⟩
  | true =>
    obtain ⟨k, hk, rfl⟩ := rg_nat2 (z := 3) (c := a) (by decide) ha
    have hk4 : k < 4 := by omega
    obtain ⟨hl, hcell⟩ := iH k hk4
    rcases hl with ⟨x1, m1⟩ | ⟨l, s, hl3, hs64, x1, m1, x2, m2⟩
    · exact ⟨-11, x_lay hk4 (fun _ => ⟨rfl, m_lay hk4 (fun _ => ⟨rfl, hI0.up⟩) (fun _ q => absurd m1 q) (fun _ _ q => absurd m1 q) (fun q => absurd m1 q)⟩) (fun _ q => absurd x1 q) (fun _ _ q => absurd x1 q) (fun q => absurd x1 q)⟩
    · have nx : ¬ h (20 + k) 1 = -1 := by rw [x1]; exact l1_ne hl3
      have nm : ¬ h 40 k = -4 := by rw [m1]; exact l4_ne (by omega)
      cases hb : rg 0 ((s : Int) - 1) i with
      | false =>
        refine ⟨-12, x_lay hk4 (fun q => absurd q nx) (fun s' _ _ _ _ => ⟨rfl, m_lay hk4 (fun q => absurd q nm) (fun _ _ _ _ _ => ⟨rfl, hI0.up⟩) (fun s2 i2 _ hs2 e2 hi2 ei => ?_) (fun _ => ⟨s, hs64, m2⟩)⟩) (fun s2 i2 _ hs2 e2 hi2 ei => ?_) (fun _ => ⟨s, hs64, x2⟩)⟩
        · obtain rfl := (nI_eq (by omega) (by omega)).mp (e2.symm.trans m2)
          rw [ei, rg_nI (by omega) hi2] at hb
          exact absurd hb (by decide)
        · obtain rfl := (nI_eq (by omega) (by omega)).mp (e2.symm.trans x2)
          rw [ei, rg_nI (by omega) hi2] at hb
          exact absurd hb (by decide)
      | true =>
        obtain ⟨i', hi', rfl⟩ := rg_nat (by omega) hb
        refine ⟨nI 1, x_lay hk4 (fun q => absurd q nx) (fun s2 _ hs2 e2 q => ?_) (fun s2 i2 _ hs2 e2 hi2 ei => ⟨rfl, ?_⟩) (fun _ => ⟨s, hs64, x2⟩)⟩
        · obtain rfl := (nI_eq (by omega) (by omega)).mp (e2.symm.trans x2)
          exact absurd (hb.symm.trans q) (by decide)
        obtain rfl := (nI_eq (by omega) (by omega)).mp ei
        have g40 : ∀ w q, q ≠ 24 + k → hset h (24 + k) i' w q = h q := fun w q hq => hset_off q hq
        refine m_lay hk4 (fun q => absurd q (by rw [g40 _ 40 (by omega)]; exact nm)) (fun s2 _ hs2 e2 q => ?_) (fun s2 i2 _ hs2 e2 hi2 ei => ⟨rfl, ?_⟩) (fun _ => ⟨s, hs64, by rw [g40 _ 41 (by omega)]; exact m2⟩)
        · rw [g40 _ 41 (by omega)] at e2
          obtain rfl := (nI_eq (by omega) (by omega)).mp (e2.symm.trans m2)
          exact absurd (hb.symm.trans q) (by decide)
        obtain rfl := (nI_eq (by omega) (by omega)).mp ei
        rw [g40 _ 40 (by omega), m1, x1]
        refine ⟨n, z, sm, lf, r, I0_sh I (fun q q1 q2 => by rw [hset_off q (by omega), hset_off q (by omega)]) (fun q hq => ?_)⟩
        have hq2 := iH q hq
        rw [hset_off (20 + q) (by omega), hset_off (20 + q) (by omega), hset_off 40 (by omega), hset_off 40 (by omega), hset_off 41 (by omega), hset_off 41 (by omega)]
        refine ⟨hq2.1, fun j hj => ?_⟩
        rw [hset_off (24 + q) (by omega), hset_same, hset_off 42 (by omega)]
        by_cases e : q = k
        · subst e
          rw [hset_same]
          by_cases w : j = i'
          · rw [w, pk_us, pk_us]
          · rw [pk_un w, pk_un (by omega)]
            exact hq2.2 j hj
        · rw [hset_off (24 + q) (by omega), pk_un (by omega)]
          exact hq2.2 j hj
end OPS
