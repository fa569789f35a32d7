/-! calls: drop, told, weight, stake, parity, joint -/
theorem sS_same {h g : Hp} {n z : Nat} {sm lf : Nat → Nat} (T : TX h n z sm) (W : WI h z sm lf) (e : g 31 = h 31) {c : Nat} (hc : c < z) : sI (fun j => h 4 (8 * c + j)) (2 ^ pop (sm c)) = sI (fun j => g 31 (8 * c + j)) 8 := by
  have hz8 := T.1.2.1
  have hp := pow3 (T.2.1 c hc).2.2.2
  rw [e, ← sI_zero (f := fun j => h 4 (8 * c + j)) (n := 8) hp (fun j h1 h2 => by rw [(W.1 _ (by omega)).1, W.2 c j hc h1 h2]; rfl)]
  exact sI_cong (fun j hj => by rw [(W.1 _ (by omega)).1, (W.1 _ (by omega)).2.1])
section OPS
variable {h : Hp} {n z : Nat} {sm : Nat → Nat} {Q : Option Value → Hp → Prop}
theorem x_drop (hz8 : z ≤ 8) (hz : h 1 1 = nI z) (h0 : z = 0 → Q (some (.int (-4))) h) (h1 : ∀ y, z = y + 1 → Q (some (.int (nI y))) (hset (hset h 1 1 (nI y)) 1 2 (h 1 2 + nI 1))) : Ctr jX4_drop [.ref 0] h Q := by
  refine ctr_start (by decide) (Nat.le_of_ble_eq_true rfl) rfl rfl ?_
  show SW jX4_drop E0 _ 0 [some (.ref 0)] [] _
  refine sw_aload_n dX4_drop_0 rfl ?_
  refine sw_getR dX4_drop_1 flX4_10 ⟨by decide, _, rfl, rfl⟩ ?_
  refine sw_getNI dX4_drop_4 fnX4_59 ⟨by decide, _, rfl, rfl⟩ ?_
  rw [hz]
  refine sw_if_ne (tgt := 15) dX4_drop_7 (by decide) (fun hc => ?_) (fun hc => ?_)
  · have hp : ¬ z = 0 := fun q => hc (by rw [q]; rfl)
    obtain ⟨y, rfl⟩ : ∃ y, z = y + 1 := ⟨z - 1, by omega⟩
    refine sw_aload_n dX4_drop_15 rfl ?_
    refine sw_getR dX4_drop_16 flX4_10 ⟨by decide, _, rfl, rfl⟩ ?_
    refine sw_cvi (i := 0) (c_removeLatest3 hz) dX4_drop_19 lkX4_65 (by decide) ⟨by decide, _, rfl, rfl⟩ rfl rfl rfl (Nat.le_of_ble_eq_true rfl) ?_
    refine sw_iret dX4_drop_22 rfl rfl rfl ?_
    exact h1 y rfl
  · have hp : z = 0 := (nI_eq (b := 0) (by omega) (by omega)).mp hc
    refine sw_bipush (v := (-4)) dX4_drop_10 (by decide) ?_
    refine sw_goto (tgt := 22) dX4_drop_12 (by decide) ?_
    refine sw_iret dX4_drop_22 rfl rfl rfl ?_
    exact h0 hp
theorem m_drop (hz8 : z ≤ 8) (hz : h 28 1 = nI z) (h0 : z = 0 → Q (some (.int (-4))) h) (h1 : ∀ y, z = y + 1 → Q (some (.int (nI y))) (hset h 28 1 (nI y))) : Ctr jX5_drop [.ref 28] h Q := by
  refine ctr_start (by decide) (Nat.le_of_ble_eq_true rfl) rfl rfl ?_
  show SW jX5_drop E0 _ 0 [some (.ref 28)] [] _
  refine sw_aload_n dX5_drop_0 rfl ?_
  refine sw_getI dX5_drop_1 flX5_56 ⟨by decide, _, rfl, rfl⟩ ?_
  rw [hz]
  refine sw_if_ne (tgt := 10) dX5_drop_4 (by decide) (fun hc => ?_) (fun hc => ?_)
  · have hp : ¬ z = 0 := fun q => hc (by rw [q]; rfl)
    obtain ⟨y, rfl⟩ : ∃ y, z = y + 1 := ⟨z - 1, by omega⟩
    refine sw_aload_n dX5_drop_10 rfl ?_
    refine sw_dup dX5_drop_11 rfl ?_
    refine sw_getI dX5_drop_12 flX5_56 ⟨by decide, _, rfl, rfl⟩ ?_
    rw [hz]
    refine sw_iconst (v := nI 1) dX5_drop_15 (by decide) ?_
    first | refine sw_isubN dX5_drop_16 (by omega) ?_ | refine sw_isub dX5_drop_16 ?_
    rw [show y + 1 - 1 = y by omega]
    refine sw_put dX5_drop_17 fpX5_56 ⟨by decide, _, rfl, rfl⟩ rfl rfl ?_
    refine sw_aload_n dX5_drop_20 rfl ?_
    refine sw_getI dX5_drop_21 flX5_56 ⟨by decide, _, rfl, rfl⟩ ?_
    rw [hset_at]
    refine sw_iret dX5_drop_24 rfl rfl rfl ?_
    exact h1 y rfl
  · have hp : z = 0 := (nI_eq (b := 0) (by omega) (by omega)).mp hc
    refine sw_bipush (v := (-4)) dX5_drop_7 (by decide) ?_
    refine sw_iret dX5_drop_9 rfl rfl rfl ?_
    exact h0 hp
theorem b_drop : Both jX4_drop jX5_drop [] := by
  intro h K hK hI
  have hI0 := hI
  obtain ⟨n, z, sm, lf, r, i1, iT, iM, iW, iS, iC, iR, iH⟩ := hI
  cases z with
  | zero => exact ⟨-4, x_drop iT.1.2.1 iT.1.2.2.2 (fun _ => ⟨rfl, m_drop iM.1.2.1 iM.1.2.2.2 (fun _ => ⟨rfl, hI0.up⟩) (fun y q => by omega)⟩) (fun y q => by omega)⟩
  | succ z =>
    refine ⟨nI z, x_drop iT.1.2.1 iT.1.2.2.2 (fun q => by omega) (fun y hy => ?_)⟩
    obtain rfl : z = y := by omega
    refine ⟨rfl, ?_⟩
    generalize hge : hset (hset h 1 1 (nI z)) 1 2 (h 1 2 + nI 1) = g
    have eg : ∀ q, q ≠ 1 → g q = h q := fun q hq => by rw [← hge, hset_off q hq, hset_off q hq]
    have g0 : g 1 0 = h 1 0 := by rw [← hge, hset_i (by decide), hset_i (by decide)]
    have g1 : g 1 1 = nI z := by rw [← hge, hset_i (by decide), hset_at]
    have g2 : g 1 2 = h 1 2 + nI 1 := by rw [← hge, hset_at]
    refine m_drop iM.1.2.1 (by rw [eg 28 (by decide)]; exact iM.1.2.2.2) (fun q => by omega) (fun y hy => ?_)
    obtain rfl : z = y := by omega
    refine ⟨rfl, ?_⟩
    have efg : ∀ q, q ≠ 1 → q ≠ 28 → hset g 28 1 (nI z) q = h q := fun q h1 h2 => by rw [hset_off q h2, eg q h1]
    have ef1 : hset g 28 1 (nI z) 1 = g 1 := hset_off 1 (by decide)
    refine ⟨n, z, sm, lf, r, i1, ⟨⟨iT.1.1, by have := iT.1.2.1; omega, by rw [ef1, g0]; exact iT.1.2.2.1, by rw [ef1]; exact g1⟩, fun c hc => ?_, fun c x hc hx => ?_, fun c j hc hj => ?_⟩, ⟨⟨iT.1.1, by have := iT.1.2.1; omega, by rw [hset_i (by decide), eg 28 (by decide)]; exact iM.1.2.2.1, hset_at⟩, fun c hc => ?_⟩, ⟨?_, fun c j hc => iW.2 c j (by omega)⟩, ?_, CK_new (d := 1) iC hK (by omega) (by omega) (by rw [ef1]; exact g2) (by rw [efg 10 (by decide) (by decide)]), RI_eq (fun q q1 q2 => efg q (by omega) (by omega)) (fun q q1 q2 => efg q (by omega) (by omega)) (by rw [hset_i (by decide), eg 28 (by decide)]) iR, SH_eq (fun q q1 q2 => efg q (by omega) (by omega)) (fun q q1 q2 => efg q (by omega) (by omega)) iH⟩
    · rw [efg 2 (by decide) (by decide)]; exact iT.2.1 c (by omega)
    · rw [efg 7 (by decide) (by decide)]; exact iT.2.2.1 c x (by omega) hx
    · rw [efg 6 (by decide) (by decide)]; exact iT.2.2.2 c j (by omega) hj
    · rw [efg 29 (by decide) (by decide)]; exact iM.2 c (by omega)
    · rw [efg 4 (by decide) (by decide), efg 31 (by decide) (by decide)]
      exact iW.1
    · unfold SP at iS ⊢
      rw [efg 5 (by decide) (by decide), efg 32 (by decide) (by decide), efg 3 (by decide) (by decide), efg 30 (by decide) (by decide)]
      exact iS
theorem x_told_bad (T : TX h n z sm) {c w : Int32} (hb : rg 0 ((z : Int) - 1) c = false ∨ rg 0 3 w = false) (hQ : Q (some (.int (-1))) h) : Ctr jX4_told [.ref 0, .int c, .int w] h Q := by
  refine ctr_start (by decide) (Nat.le_of_ble_eq_true rfl) rfl rfl ?_
  show SW jX4_told E0 _ 0 [some (.ref 0), some (.int c), some (.int w)] [] _
  refine sw_aload_n dX4_told_0 rfl ?_
  refine sw_getR dX4_told_1 flX4_10 ⟨by decide, _, rfl, rfl⟩ ?_
  refine sw_iload_n dX4_told_4 rfl ?_
  refine sw_cvi (i := 0) (c_hasSet T c) dX4_told_5 lkX4_68 (by decide) ⟨by decide, _, rfl, rfl⟩ rfl rfl rfl (Nat.le_of_ble_eq_true rfl) ?_
  refine sw_if_ne (tgt := 13) dX4_told_8 (by decide) (fun hc => ?_) (fun hc => ?_)
  · have h1 := bI_1 hc
    rw [h1] at hb
    have h2 : rg 0 3 w = false := hb.resolve_left (by decide)
    clear hc
    refine sw_iload_n dX4_told_13 rfl ?_
    refine sw_tabOut (tgt := 86) dX4_told_14 ?_ (by decide) ?_
    · have := of_decide_eq_false h2
      omega
    · refine sw_iconst (v := (-1)) dX4_told_86 (by decide) ?_
      refine sw_iret dX4_told_87 rfl rfl rfl ?_
      exact hQ
  · refine sw_iconst (v := (-1)) dX4_told_11 (by decide) ?_
    refine sw_iret dX4_told_12 rfl rfl rfl ?_
    exact hQ
theorem m_told_bad (T : TM h n z sm) {c w : Int32} (hb : rg 0 ((z : Int) - 1) c = false ∨ rg 0 3 w = false) (hQ : Q (some (.int (-1))) h) : Ctr jX5_told [.ref 28, .int c, .int w] h Q := by
  refine ctr_start (by decide) (Nat.le_of_ble_eq_true rfl) rfl rfl ?_
  show SW jX5_told E0 _ 0 [some (.ref 28), some (.int c), some (.int w)] [] _
  refine sw_aload_n dX5_told_0 rfl ?_
  refine sw_iload_n dX5_told_1 rfl ?_
  refine sw_cvi (i := 0) (c_isSet T.1.2.1 T.1.2.2.2 c) dX5_told_2 lkX5_63 (by decide) ⟨by decide, _, rfl, rfl⟩ rfl rfl rfl (Nat.le_of_ble_eq_true rfl) ?_
  refine sw_if_eq (tgt := 20) dX5_told_5 (by decide) (fun hc => ?_) (fun hc => ?_)
  · refine sw_iconst (v := (-1)) dX5_told_20 (by decide) ?_
    refine sw_iret dX5_told_21 rfl rfl rfl ?_
    exact hQ
  · have h1 := bI_1 hc
    rw [h1] at hb
    have h2 : rg 0 3 w = false := hb.resolve_left (by decide)
    clear hc
    refine sw_iload_n dX5_told_8 rfl ?_
    refine sw_i2l dX5_told_9 ?_
    refine sw_lconst (v := lN 0) dX5_told_10 (by decide) ?_
    refine sw_ldc2_w (v := lN 3) dX5_told_11 (by decide +kernel) ?_
    refine sw_csi (c_inR (l := 0) (u := 3) (by decide) (by decide)) dX5_told_14 lkX5_59 (by decide) rfl rfl (Nat.le_of_ble_eq_true rfl) ?_
    rw [h2]
    refine sw_if_ne (tgt := 22) dX5_told_17 (by decide) (fun hc => ?_) (fun hc => ?_)
    · exact absurd rfl hc
    · refine sw_iconst (v := (-1)) dX5_told_20 (by decide) ?_
      refine sw_iret dX5_told_21 rfl rfl rfl ?_
      exact hQ
theorem x_told (T : TX h n z sm) {c : Nat} (hc : c < z) {w : Nat} (hw : w < 4) (hQ : Q (some (.int (if w = 0 then nI (sm c) else if w = 1 then nI (pop (sm c)) else if w = 2 then sI (fun j => h 4 (8 * c + j)) (2 ^ pop (sm c)) else h 3 c))) h) : Ctr jX4_told [.ref 0, .int (nI c), .int (nI w)] h Q := by
  have hz8 := T.1.2.1
  have h64 := T.s64 hc
  have hcc := hc
  clear hc
  refine ctr_start (by decide) (Nat.le_of_ble_eq_true rfl) rfl rfl ?_
  show SW jX4_told E0 _ 0 [some (.ref 0), some (.int (nI c)), some (.int (nI w))] [] _
  refine sw_aload_n dX4_told_0 rfl ?_
  refine sw_getR dX4_told_1 flX4_10 ⟨by decide, _, rfl, rfl⟩ ?_
  refine sw_iload_n dX4_told_4 rfl ?_
  refine sw_cvi (i := 0) (c_hasSet T (nI c)) dX4_told_5 lkX4_68 (by decide) ⟨by decide, _, rfl, rfl⟩ rfl rfl rfl (Nat.le_of_ble_eq_true rfl) ?_
  rw [rg_nI (by omega) hcc]
  refine sw_if_ne (tgt := 13) dX4_told_8 (by decide) (fun hc => ?_) (fun hc => ?_)
  · clear hc
    refine sw_iload_n dX4_told_13 rfl ?_
    rcases (show w = 0 ∨ w = 1 ∨ w = 2 ∨ w = 3 by omega) with rfl | rfl | rfl | rfl
    · refine sw_tabIn (off := 30) (tgt := 44) dX4_told_14 (by decide) (by decide) (by decide) (by decide) ?_
      refine sw_aload_n dX4_told_44 rfl ?_
      refine sw_getR dX4_told_45 flX4_10 ⟨by decide, _, rfl, rfl⟩ ?_
      refine sw_getNR dX4_told_48 fnX4_71 ⟨by decide, _, rfl, rfl⟩ ?_
      refine sw_iload_n dX4_told_51 rfl ?_
      refine sw_iald dX4_told_52 rfl (by simp only [plA]; omega) ?_
      rw [(T.2.1 c hcc).1]
      refine sw_iret dX4_told_53 rfl rfl rfl ?_
      exact hQ
    · refine sw_tabIn (off := 40) (tgt := 54) dX4_told_14 (by decide) (by decide) (by decide) (by decide) ?_
      refine sw_aload_n dX4_told_54 rfl ?_
      refine sw_getR dX4_told_55 flX4_10 ⟨by decide, _, rfl, rfl⟩ ?_
      refine sw_getNR dX4_told_58 fnX4_71 ⟨by decide, _, rfl, rfl⟩ ?_
      refine sw_iload_n dX4_told_61 rfl ?_
      refine sw_iald dX4_told_62 rfl (by simp only [plA]; omega) ?_
      rw [(T.2.1 c hcc).1]
      refine sw_csi (c_bitCount (by omega)) dX4_told_63 lkX4_49 (by decide) rfl rfl (Nat.le_of_ble_eq_true rfl) ?_
      refine sw_iret dX4_told_66 rfl rfl rfl ?_
      exact hQ
    · refine sw_tabIn (off := 53) (tgt := 67) dX4_told_14 (by decide) (by decide) (by decide) (by decide) ?_
      refine sw_aload_n dX4_told_67 rfl ?_
      refine sw_getR dX4_told_68 flX4_10 ⟨by decide, _, rfl, rfl⟩ ?_
      refine sw_iload_n dX4_told_71 rfl ?_
      refine sw_cvi (i := 0) (c_weightSum T hcc) dX4_told_72 lkX4_75 (by decide) ⟨by decide, _, rfl, rfl⟩ rfl rfl rfl (Nat.le_of_ble_eq_true rfl) ?_
      refine sw_iret dX4_told_75 rfl rfl rfl ?_
      exact hQ
    · refine sw_tabIn (off := 62) (tgt := 76) dX4_told_14 (by decide) (by decide) (by decide) (by decide) ?_
      refine sw_aload_n dX4_told_76 rfl ?_
      refine sw_getR dX4_told_77 flX4_10 ⟨by decide, _, rfl, rfl⟩ ?_
      refine sw_getNR dX4_told_80 fnX4_78 ⟨by decide, _, rfl, rfl⟩ ?_
      refine sw_iload_n dX4_told_83 rfl ?_
      refine sw_iald dX4_told_84 rfl (by simp only [plA]; omega) ?_
      refine sw_iret dX4_told_85 rfl rfl rfl ?_
      exact hQ
  · exact absurd hc (by decide)
theorem m_told (T : TM h n z sm) {c : Nat} (hc : c < z) {w : Nat} (hw : w < 4) (hQ : Q (some (.int (if w = 0 then nI (sm c) else if w = 1 then nI (pop (sm c)) else if w = 2 then sI (fun j => h 31 (8 * c + j)) 8 else h 30 c))) h) : Ctr jX5_told [.ref 28, .int (nI c), .int (nI w)] h Q := by
  have hz8 := T.1.2.1
  have h64 := T.s64 hc
  have hcc := hc
  clear hc
  refine ctr_start (by decide) (Nat.le_of_ble_eq_true rfl) rfl rfl ?_
  show SW jX5_told E0 _ 0 [some (.ref 28), some (.int (nI c)), some (.int (nI w))] [] _
  refine sw_aload_n dX5_told_0 rfl ?_
  refine sw_iload_n dX5_told_1 rfl ?_
  refine sw_cvi (i := 0) (c_isSet T.1.2.1 T.1.2.2.2 (nI c)) dX5_told_2 lkX5_63 (by decide) ⟨by decide, _, rfl, rfl⟩ rfl rfl rfl (Nat.le_of_ble_eq_true rfl) ?_
  rw [rg_nI (by omega) hcc]
  refine sw_if_eq (tgt := 20) dX5_told_5 (by decide) (fun hc => ?_) (fun hc => ?_)
  · exact absurd hc (by decide)
  · clear hc
    refine sw_iload_n dX5_told_8 rfl ?_
    refine sw_i2l dX5_told_9 ?_
    refine sw_lconst (v := lN 0) dX5_told_10 (by decide) ?_
    refine sw_ldc2_w (v := lN 3) dX5_told_11 (by decide +kernel) ?_
    refine sw_csi (c_inR (l := 0) (u := 3) (by decide) (by decide)) dX5_told_14 lkX5_59 (by decide) rfl rfl (Nat.le_of_ble_eq_true rfl) ?_
    rw [rg_t (v := nI w) (by rw [t_N (by omega)]; omega) (by rw [t_N (by omega)]; omega)]
    refine sw_if_ne (tgt := 22) dX5_told_17 (by decide) (fun hc => ?_) (fun hc => ?_)
    · clear hc
      refine sw_iload_n dX5_told_22 rfl ?_
      rcases (show w = 0 ∨ w = 1 ∨ w = 2 ∨ w = 3 by omega) with rfl | rfl | rfl | rfl
      · refine sw_if_ne (tgt := 35) dX5_told_23 (by decide) (fun hc => ?_) (fun hc => ?_)
        · exact absurd rfl hc
        · refine sw_aload_n dX5_told_26 rfl ?_
          refine sw_getR dX5_told_27 flX5_13 ⟨by decide, _, rfl, rfl⟩ ?_
          refine sw_iload_n dX5_told_30 rfl ?_
          refine sw_iald dX5_told_31 rfl (by simp only [plA]; omega) ?_
          rw [(T.2 c hcc).1]
          refine sw_goto (tgt := 71) dX5_told_32 (by decide) ?_
          refine sw_iret dX5_told_71 rfl rfl rfl ?_
          exact hQ
      · refine sw_if_ne (tgt := 35) dX5_told_23 (by decide) (fun hc => ?_) (fun hc => ?_)
        · clear hc
          refine sw_iload_n dX5_told_35 rfl ?_
          refine sw_iconst (v := nI 1) dX5_told_36 (by decide) ?_
          refine sw_icmp_ne (tgt := 52) dX5_told_37 (by decide) (fun hc => ?_) (fun hc => ?_)
          · exact absurd rfl hc
          · refine sw_aload_n dX5_told_40 rfl ?_
            refine sw_getR dX5_told_41 flX5_13 ⟨by decide, _, rfl, rfl⟩ ?_
            refine sw_iload_n dX5_told_44 rfl ?_
            refine sw_iald dX5_told_45 rfl (by simp only [plA]; omega) ?_
            rw [(T.2 c hcc).1]
            refine sw_csi (c_bits (by omega)) dX5_told_46 lkX5_67 (by decide) rfl rfl (Nat.le_of_ble_eq_true rfl) ?_
            refine sw_goto (tgt := 71) dX5_told_49 (by decide) ?_
            refine sw_iret dX5_told_71 rfl rfl rfl ?_
            exact hQ
        · exact absurd hc (by decide)
      · refine sw_if_ne (tgt := 35) dX5_told_23 (by decide) (fun hc => ?_) (fun hc => ?_)
        · clear hc
          refine sw_iload_n dX5_told_35 rfl ?_
          refine sw_iconst (v := nI 1) dX5_told_36 (by decide) ?_
          refine sw_icmp_ne (tgt := 52) dX5_told_37 (by decide) (fun hc => ?_) (fun hc => ?_)
          · clear hc
            refine sw_iload_n dX5_told_52 rfl ?_
            refine sw_iconst (v := nI 2) dX5_told_53 (by decide) ?_
            refine sw_icmp_ne (tgt := 65) dX5_told_54 (by decide) (fun hc => ?_) (fun hc => ?_)
            · exact absurd rfl hc
            · refine sw_aload_n dX5_told_57 rfl ?_
              refine sw_iload_n dX5_told_58 rfl ?_
              refine sw_cvi (i := 0) (c_sumOf (by omega)) dX5_told_59 lkX5_75 (by decide) ⟨by decide, _, rfl, rfl⟩ rfl rfl rfl (Nat.le_of_ble_eq_true rfl) ?_
              refine sw_goto (tgt := 71) dX5_told_62 (by decide) ?_
              refine sw_iret dX5_told_71 rfl rfl rfl ?_
              exact hQ
          · exact absurd hc (by decide)
        · exact absurd hc (by decide)
      · refine sw_if_ne (tgt := 35) dX5_told_23 (by decide) (fun hc => ?_) (fun hc => ?_)
        · clear hc
          refine sw_iload_n dX5_told_35 rfl ?_
          refine sw_iconst (v := nI 1) dX5_told_36 (by decide) ?_
          refine sw_icmp_ne (tgt := 52) dX5_told_37 (by decide) (fun hc => ?_) (fun hc => ?_)
          · clear hc
            refine sw_iload_n dX5_told_52 rfl ?_
            refine sw_iconst (v := nI 2) dX5_told_53 (by decide) ?_
            refine sw_icmp_ne (tgt := 65) dX5_told_54 (by decide) (fun hc => ?_) (fun hc => ?_)
            · refine sw_aload_n dX5_told_65 rfl ?_
              refine sw_getR dX5_told_66 flX5_17 ⟨by decide, _, rfl, rfl⟩ ?_
              refine sw_iload_n dX5_told_69 rfl ?_
              refine sw_iald dX5_told_70 rfl (by simp only [plA]; omega) ?_
              refine sw_iret dX5_told_71 rfl rfl rfl ?_
              exact hQ
            · exact absurd hc (by decide)
          · exact absurd hc (by decide)
        · exact absurd hc (by decide)
    · exact absurd hc (by decide)
theorem b_told (c w : Int32) : Both jX4_told jX5_told [.int c, .int w] := by
  intro h K hK hI
  have hI0 := hI
  obtain ⟨n, z, sm, lf, r, i1, iT, iM, iW, iS, iC, iR, iH⟩ := hI
  by_cases hb : rg 0 ((z : Int) - 1) c = false ∨ rg 0 3 w = false
  · exact ⟨-1, x_told_bad iT hb ⟨rfl, m_told_bad iM hb ⟨rfl, hI0.up⟩⟩⟩
  · have h1 : rg 0 ((z : Int) - 1) c = true := by
      cases q : rg 0 ((z : Int) - 1) c with
      | true => rfl
      | false => exact absurd (Or.inl q) hb
    have h2 : rg 0 3 w = true := by
      cases q : rg 0 3 w with
      | true => rfl
      | false => exact absurd (Or.inr q) hb
    have hz8 := iT.1.2.1
    obtain ⟨k, hk, rfl⟩ := rg_nat (by omega) h1
    obtain ⟨v, hv, rfl⟩ := rg_nat2 (z := 3) (by omega) h2
    refine ⟨_, x_told iT hk (w := v) (by omega) ⟨rfl, m_told iM hk (w := v) (by omega) ⟨?_, hI0.up⟩⟩⟩
    rw [sS_same iT iW rfl hk, (iS.2 k (by omega)).1]
/-- what becomes of one weight -/
theorem x_weight_bad (T : TX h n z sm) {c j v : Int32} (hb : (rg 0 ((z : Int) - 1) c && rg 0 (((2 ^ pop (sm c.toNatClampNeg) : Nat) : Int) - 1) j) = false ∨ rg 0 1000 v = false) (hQ : Q (some (.int (-1))) h) : Ctr jX4_weight [.ref 0, .int c, .int j, .int v] h Q := by
  refine ctr_start (by decide) (Nat.le_of_ble_eq_true rfl) rfl rfl ?_
  show SW jX4_weight E0 _ 0 [some (.ref 0), some (.int c), some (.int j), some (.int v), none, none] [] _
  refine sw_aload_n dX4_weight_0 rfl ?_
  refine sw_getR dX4_weight_1 flX4_10 ⟨by decide, _, rfl, rfl⟩ ?_
  refine sw_iload_n dX4_weight_4 rfl ?_
  refine sw_iload_n dX4_weight_5 rfl ?_
  refine sw_cvi (i := 0) (c_hasJoint T c j) dX4_weight_6 lkX4_81 (by decide) ⟨by decide, _, rfl, rfl⟩ rfl rfl rfl (Nat.le_of_ble_eq_true rfl) ?_
  refine sw_if_eq (tgt := 19) dX4_weight_9 (by decide) (fun hc => ?_) (fun hc => ?_)
  · refine sw_iconst (v := (-1)) dX4_weight_19 (by decide) ?_
    refine sw_iret dX4_weight_20 rfl rfl rfl ?_
    exact hQ
  · have h1 := bI_1 hc
    rw [h1] at hb
    have h2 : rg 0 1000 v = false := hb.resolve_left (by decide)
    clear hc
    refine sw_iload_n dX4_weight_12 rfl ?_
    refine sw_csi (c_isWeight v) dX4_weight_13 lkX4_85 (by decide) rfl rfl (Nat.le_of_ble_eq_true rfl) ?_
    rw [h2]
    refine sw_if_ne (tgt := 21) dX4_weight_16 (by decide) (fun hc => ?_) (fun hc => ?_)
    · exact absurd rfl hc
    · refine sw_iconst (v := (-1)) dX4_weight_19 (by decide) ?_
      refine sw_iret dX4_weight_20 rfl rfl rfl ?_
      exact hQ
theorem m_weight_bad (T : TM h n z sm) {c j v : Int32} (hb : (rg 0 ((z : Int) - 1) c && rg 0 (((2 ^ pop (sm c.toNatClampNeg) : Nat) : Int) - 1) j) = false ∨ rg 0 1000 v = false) (hQ : Q (some (.int (-1))) h) : Ctr jX5_weight [.ref 28, .int c, .int j, .int v] h Q := by
  refine ctr_start (by decide) (Nat.le_of_ble_eq_true rfl) rfl rfl ?_
  show SW jX5_weight E0 _ 0 [some (.ref 28), some (.int c), some (.int j), some (.int v), none] [] _
  refine sw_aload_n dX5_weight_0 rfl ?_
  refine sw_iload_n dX5_weight_1 rfl ?_
  refine sw_iload_n dX5_weight_2 rfl ?_
  refine sw_cvi (i := 0) (c_isJoint T c j) dX5_weight_3 lkX5_78 (by decide) ⟨by decide, _, rfl, rfl⟩ rfl rfl rfl (Nat.le_of_ble_eq_true rfl) ?_
  refine sw_if_eq (tgt := 21) dX5_weight_6 (by decide) (fun hc => ?_) (fun hc => ?_)
  · refine sw_iconst (v := (-1)) dX5_weight_21 (by decide) ?_
    refine sw_iret dX5_weight_22 rfl rfl rfl ?_
    exact hQ
  · have h1 := bI_1 hc
    rw [h1] at hb
    have h2 : rg 0 1000 v = false := hb.resolve_left (by decide)
    clear hc
    refine sw_iload_n dX5_weight_9 rfl ?_
    refine sw_i2l dX5_weight_10 ?_
    refine sw_lconst (v := lN 0) dX5_weight_11 (by decide) ?_
    refine sw_ldc2_w (v := lN 1000) dX5_weight_12 (by decide +kernel) ?_
    refine sw_csi (c_inR (l := 0) (u := 1000) (by decide) (by decide)) dX5_weight_15 lkX5_59 (by decide) rfl rfl (Nat.le_of_ble_eq_true rfl) ?_
    rw [h2]
    refine sw_if_ne (tgt := 23) dX5_weight_18 (by decide) (fun hc => ?_) (fun hc => ?_)
    · exact absurd rfl hc
    · refine sw_iconst (v := (-1)) dX5_weight_21 (by decide) ?_
      refine sw_iret dX5_weight_22 rfl rfl rfl ?_
      exact hQ
theorem x_weight (T : TX h n z sm) {c j : Nat} {v : Int32} (hc : c < z) (hj : j < 8) (hjt : rg 0 (((2 ^ pop (sm c) : Nat) : Int) - 1) (nI j) = true) (hv : rg 0 1000 v = true) (hQ : Q (some (.int (h 4 (8 * c + j)))) (hset (hset h 4 (8 * c + j) v) 1 2 (h 1 2 + nI 1))) : Ctr jX4_weight [.ref 0, .int (nI c), .int (nI j), .int v] h Q := by
  have hz8 := T.1.2.1
  have hcc := hc
  clear hc
  refine ctr_start (by decide) (Nat.le_of_ble_eq_true rfl) rfl rfl ?_
  show SW jX4_weight E0 _ 0 [some (.ref 0), some (.int (nI c)), some (.int (nI j)), some (.int v), none, none] [] _
  refine sw_aload_n dX4_weight_0 rfl ?_
  refine sw_getR dX4_weight_1 flX4_10 ⟨by decide, _, rfl, rfl⟩ ?_
  refine sw_iload_n dX4_weight_4 rfl ?_
  refine sw_iload_n dX4_weight_5 rfl ?_
  refine sw_cvi (i := 0) (c_hasJoint T (nI c) (nI j)) dX4_weight_6 lkX4_81 (by decide) ⟨by decide, _, rfl, rfl⟩ rfl rfl rfl (Nat.le_of_ble_eq_true rfl) ?_
  rw [rg_nI (by omega) hcc, nI_clamp (by omega), hjt]
  refine sw_if_eq (tgt := 19) dX4_weight_9 (by decide) (fun hc => ?_) (fun hc => ?_)
  · exact absurd hc (by decide)
  · clear hc
    refine sw_iload_n dX4_weight_12 rfl ?_
    refine sw_csi (c_isWeight v) dX4_weight_13 lkX4_85 (by decide) rfl rfl (Nat.le_of_ble_eq_true rfl) ?_
    rw [hv]
    refine sw_if_ne (tgt := 21) dX4_weight_16 (by decide) (fun hc => ?_) (fun hc => ?_)
    · clear hc
      refine sw_bipush (v := nI 8) dX4_weight_21 (by decide) ?_
      refine sw_iload_n dX4_weight_23 rfl ?_
      first | refine sw_imulN dX4_weight_24 ?_ | refine sw_imul dX4_weight_24 ?_
      refine sw_iload_n dX4_weight_25 rfl ?_
      first | refine sw_iaddN dX4_weight_26 ?_ | refine sw_iadd dX4_weight_26 ?_
      refine sw_istore dX4_weight_27 (by decide) rfl ?_
      refine sw_aload_n dX4_weight_29 rfl ?_
      refine sw_getR dX4_weight_30 flX4_10 ⟨by decide, _, rfl, rfl⟩ ?_
      refine sw_getNR dX4_weight_33 fnX4_88 ⟨by decide, _, rfl, rfl⟩ ?_
      refine sw_iload dX4_weight_36 rfl ?_
      refine sw_iald dX4_weight_38 rfl (by simp only [plA]; omega) ?_
      refine sw_istore dX4_weight_39 (by decide) rfl ?_
      refine sw_aload_n dX4_weight_41 rfl ?_
      refine sw_getR dX4_weight_42 flX4_10 ⟨by decide, _, rfl, rfl⟩ ?_
      refine sw_iload dX4_weight_45 rfl ?_
      refine sw_iload_n dX4_weight_47 rfl ?_
      refine sw_cvv (i := 0) (c_setWeight (k := 8 * c + j) (by omega) v) dX4_weight_48 lkX4_91 (by decide) ⟨by decide, _, rfl, rfl⟩ rfl rfl rfl (Nat.le_of_ble_eq_true rfl) ?_
      refine sw_iload dX4_weight_51 rfl ?_
      refine sw_iret dX4_weight_53 rfl rfl rfl ?_
      exact hQ
    · exact absurd hc (by decide)
theorem m_weight (T : TM h n z sm) {c j : Nat} {v : Int32} (hc : c < z) (hj : j < 8) (hjt : rg 0 (((2 ^ pop (sm c) : Nat) : Int) - 1) (nI j) = true) (hv : rg 0 1000 v = true) (hQ : Q (some (.int (h 31 (8 * c + j)))) (hset h 31 (8 * c + j) v)) : Ctr jX5_weight [.ref 28, .int (nI c), .int (nI j), .int v] h Q := by
  have hz8 := T.1.2.1
  have hcc := hc
  clear hc
  refine ctr_start (by decide) (Nat.le_of_ble_eq_true rfl) rfl rfl ?_
  show SW jX5_weight E0 _ 0 [some (.ref 28), some (.int (nI c)), some (.int (nI j)), some (.int v), none] [] _
  refine sw_aload_n dX5_weight_0 rfl ?_
  refine sw_iload_n dX5_weight_1 rfl ?_
  refine sw_iload_n dX5_weight_2 rfl ?_
  refine sw_cvi (i := 0) (c_isJoint T (nI c) (nI j)) dX5_weight_3 lkX5_78 (by decide) ⟨by decide, _, rfl, rfl⟩ rfl rfl rfl (Nat.le_of_ble_eq_true rfl) ?_
  rw [rg_nI (by omega) hcc, nI_clamp (by omega), hjt]
  refine sw_if_eq (tgt := 21) dX5_weight_6 (by decide) (fun hc => ?_) (fun hc => ?_)
  · exact absurd hc (by decide)
  · clear hc
    refine sw_iload_n dX5_weight_9 rfl ?_
    refine sw_i2l dX5_weight_10 ?_
    refine sw_lconst (v := lN 0) dX5_weight_11 (by decide) ?_
    refine sw_ldc2_w (v := lN 1000) dX5_weight_12 (by decide +kernel) ?_
    refine sw_csi (c_inR (l := 0) (u := 1000) (by decide) (by decide)) dX5_weight_15 lkX5_59 (by decide) rfl rfl (Nat.le_of_ble_eq_true rfl) ?_
    rw [hv]
    refine sw_if_ne (tgt := 23) dX5_weight_18 (by decide) (fun hc => ?_) (fun hc => ?_)
    · clear hc
      refine sw_aload_n dX5_weight_23 rfl ?_
      refine sw_getR dX5_weight_24 flX5_20 ⟨by decide, _, rfl, rfl⟩ ?_
      refine sw_bipush (v := nI 8) dX5_weight_27 (by decide) ?_
      refine sw_iload_n dX5_weight_29 rfl ?_
      first | refine sw_imulN dX5_weight_30 ?_ | refine sw_imul dX5_weight_30 ?_
      refine sw_iload_n dX5_weight_31 rfl ?_
      first | refine sw_iaddN dX5_weight_32 ?_ | refine sw_iadd dX5_weight_32 ?_
      refine sw_iald dX5_weight_33 rfl (by simp only [plA]; omega) ?_
      refine sw_istore dX5_weight_34 (by decide) rfl ?_
      refine sw_aload_n dX5_weight_36 rfl ?_
      refine sw_getR dX5_weight_37 flX5_20 ⟨by decide, _, rfl, rfl⟩ ?_
      refine sw_bipush (v := nI 8) dX5_weight_40 (by decide) ?_
      refine sw_iload_n dX5_weight_42 rfl ?_
      first | refine sw_imulN dX5_weight_43 ?_ | refine sw_imul dX5_weight_43 ?_
      refine sw_iload_n dX5_weight_44 rfl ?_
      first | refine sw_iaddN dX5_weight_45 ?_ | refine sw_iadd dX5_weight_45 ?_
      refine sw_iload_n dX5_weight_46 rfl ?_
      refine sw_iast dX5_weight_47 rfl (by simp only [plA]; omega) ?_
      refine sw_iload dX5_weight_48 rfl ?_
      refine sw_iret dX5_weight_50 rfl rfl rfl ?_
      exact hQ
    · exact absurd hc (by decide)
theorem b_weight (c j v : Int32) : Both jX4_weight jX5_weight [.int c, .int j, .int v] := by
  intro h K hK hI
  have hI0 := hI
  obtain ⟨n, z, sm, lf, r, i1, iT, iM, iW, iS, iC, iR, iH⟩ := hI
  by_cases hb : (rg 0 ((z : Int) - 1) c && rg 0 (((2 ^ pop (sm c.toNatClampNeg) : Nat) : Int) - 1) j) = false ∨ rg 0 1000 v = false
  · exact ⟨-1, x_weight_bad iT hb ⟨rfl, m_weight_bad iM hb ⟨rfl, hI0.up⟩⟩⟩
  · have h1 : (rg 0 ((z : Int) - 1) c && rg 0 (((2 ^ pop (sm c.toNatClampNeg) : Nat) : Int) - 1) j) = true := by
      cases q : (rg 0 ((z : Int) - 1) c && rg 0 (((2 ^ pop (sm c.toNatClampNeg) : Nat) : Int) - 1) j) with
      | true => rfl
      | false => exact absurd (Or.inl q) hb
    have h2 : rg 0 1000 v = true := by
      cases q : rg 0 1000 v with
      | true => rfl
      | false => exact absurd (Or.inr q) hb
    rw [Bool.and_eq_true] at h1
    have hz8 := iT.1.2.1
    obtain ⟨k, hk, rfl⟩ := rg_nat (by omega) h1.1
    have hjt := h1.2
    rw [nI_clamp (by omega)] at hjt
    have hp := pow3 (iT.2.1 k hk).2.2.2
    obtain ⟨i, hi, rfl⟩ := rg_nat (by omega) hjt
    obtain ⟨u, hu, rfl⟩ := rg_nat2 (z := 1000) (by omega) h2
    refine ⟨_, x_weight iT hk (j := i) (by omega) hjt h2 ⟨rfl, ?_⟩⟩
    generalize hge : hset (hset h 4 (8 * k + i) (nI u)) 1 2 (h 1 2 + nI 1) = g
    have eg : ∀ q, q ≠ 1 → q ≠ 4 → g q = h q := fun q h1 h4 => by rw [← hge, hset_off q h1, hset_off q h4]
    have g0 : ∀ i, i ≠ 2 → g 1 i = h 1 i := fun i hi => by rw [← hge, hset_i hi, hset_k (by decide)]
    have g2 : g 1 2 = h 1 2 + nI 1 := by rw [← hge, hset_at]
    have g4 : g 4 = upd (h 4) (8 * k + i) (nI u) := by rw [← hge, hset_off 4 (by decide), hset_same]
    have iM' : TM g n z sm := TM_keep iM (by rw [eg 28 (by decide) (by decide)]) (by rw [eg 28 (by decide) (by decide)]) (eg 29 (by decide) (by decide))
    refine m_weight iM' hk (j := i) (by omega) hjt h2 ⟨by rw [eg 31 (by decide) (by decide), (iW.1 _ (by omega)).1, (iW.1 _ (by omega)).2.1], ?_⟩
    have ef : ∀ q, q ≠ 31 → hset g 31 (8 * k + i) (nI u) q = g q := fun q hq => hset_off q hq
    have efg : ∀ q, q ≠ 1 → q ≠ 4 → q ≠ 31 → hset g 31 (8 * k + i) (nI u) q = h q := fun q h1 h4 h3 => by rw [ef q h3, eg q h1 h4]
    refine ⟨n, z, sm, upN lf (8 * k + i) u, r, i1, ⟨⟨iT.1.1, hz8, by rw [ef 1 (by decide), g0 0 (by decide)]; exact iT.1.2.2.1, by rw [ef 1 (by decide), g0 1 (by decide)]; exact iT.1.2.2.2⟩, by rw [efg 2 (by decide) (by decide) (by decide)]; exact iT.2.1, by rw [efg 7 (by decide) (by decide) (by decide)]; exact iT.2.2.1, by rw [efg 6 (by decide) (by decide) (by decide)]; exact iT.2.2.2⟩, TM_keep iM (by rw [efg 28 (by decide) (by decide) (by decide)]) (by rw [efg 28 (by decide) (by decide) (by decide)]) (efg 29 (by decide) (by decide) (by decide)), ⟨fun q hq => ?_, fun c' j' hc' h1 h2 => ?_⟩, ?_, CK_new (d := 1) iC hK (by omega) (by omega) (by rw [ef 1 (by decide)]; exact g2) (by rw [efg 10 (by decide) (by decide) (by decide)]), RI_eq (fun q q1 q2 => efg q (by omega) (by omega) (by omega)) (fun q q1 q2 => efg q (by omega) (by omega) (by omega)) (by rw [efg 28 (by decide) (by decide) (by decide)]) iR, SH_eq (fun q q1 q2 => efg q (by omega) (by omega) (by omega)) (fun q q1 q2 => efg q (by omega) (by omega) (by omega)) iH⟩
    · rw [ef 4 (by decide), g4, hset_same, eg 31 (by decide) (by decide)]
      unfold upN
      by_cases e : q = 8 * k + i
      · rw [e, pk_us, pk_us, if_pos rfl]
        exact ⟨rfl, rfl, hu⟩
      · rw [pk_un e, pk_un e, if_neg e]
        exact iW.1 q hq
    · unfold upN
      by_cases e : 8 * c' + j' = 8 * k + i
      · obtain rfl : c' = k := by omega
        omega
      · rw [if_neg e]
        exact iW.2 c' j' hc' h1 h2
    · unfold SP at iS ⊢
      rw [efg 5 (by decide) (by decide) (by decide), efg 32 (by decide) (by decide) (by decide), efg 3 (by decide) (by decide) (by decide), efg 30 (by decide) (by decide) (by decide)]
      exact iS
end OPS
