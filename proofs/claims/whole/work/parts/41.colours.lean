/-! call: colours -/
theorem S2P2 (e : Nat → Nat → Bool) (r : Nat) : fb_sm (S2 e r) r = fb_sm (P2 e) r := by
  show fb_sm (fun a => fb_sm (fun b => f2 e a b) r) r = _
  rw [sm_swap]
  refine fb_sm_cong (fun b hb => ?_)
  refine (fb_sm_z (k := b) (Nat.le_of_lt hb) (fun j hj _ => ?_)).trans (fb_sm_cong (fun a _ => rfl))
  unfold f2
  rw [if_neg (fun q => by omega)]
theorem S3P3 (e : Nat → Nat → Bool) (r : Nat) : fb_sm (S3 e r) r = fb_sm (P3 e) r := by
  show fb_sm (fun a => fb_sm (fun b => fb_sm (fun c => f3 e a b c) r) r) r = _
  have s1 : ∀ a, fb_sm (fun b => fb_sm (fun c => f3 e a b c) r) r = fb_sm (fun c => fb_sm (fun b => f3 e a b c) r) r := fun a => sm_swap _ _ _
  rw [fb_sm_cong (fun a _ => s1 a), sm_swap]
  refine fb_sm_cong (fun c hc => ?_)
  rw [sm_swap]
  show fb_sm (fun b => fb_sm (fun a => f3 e a b c) r) r = fb_sm (fun b => fb_sm (f3r e c b) b) c
  refine (fb_sm_z (k := c) (Nat.le_of_lt hc) (fun b hb _ => ?_)).trans (fb_sm_cong (fun b hb => ?_))
  · refine fb_sm_0 (fun a _ => ?_)
    unfold f3
    rw [if_neg (fun q => by omega)]
  · refine (fb_sm_z (k := b) (by omega) (fun a ha _ => ?_)).trans (fb_sm_cong (fun a _ => rfl))
    unfold f3
    rw [if_neg (fun q => by omega)]
theorem trS_cong {e d : Nat → Nat → Bool} {r : Nat} (h : ∀ i j, i < r → j < r → e i j = d i j) {a b c : Nat} (ha : a < r) (hb : b < r) (hc : c < r) : trS e a b c = trS d a b c := by
  unfold trS
  rw [h a b ha hb, h a c ha hc, h b c hb hc]
theorem P2_cong {e d : Nat → Nat → Bool} {r : Nat} (h : ∀ i j, i < r → j < r → e i j = d i j) : fb_sm (P2 e) r = fb_sm (P2 d) r := by
  refine fb_sm_cong (fun b hb => fb_sm_cong (fun a ha => ?_))
  unfold f2r
  rw [h a b (by omega) hb]
theorem P3_cong {e d : Nat → Nat → Bool} {r : Nat} (h : ∀ i j, i < r → j < r → e i j = d i j) : fb_sm (P3 e) r = fb_sm (P3 d) r := by
  refine fb_sm_cong (fun c hc => fb_sm_cong (fun b hb => fb_sm_cong (fun a ha => ?_)))
  unfold f3r
  rw [trS_cong h (by omega) (by omega) hc]
theorem colB_cong {e d : Nat → Nat → Bool} {r : Nat} (h : ∀ i j, i < r → j < r → e i j = d i j) (m : Nat) : colB e r m = colB d r m := by
  unfold colB triB sqB
  congr 1
  · refine allB_cong (fun a ha => allB_cong (fun b hb => allB_cong (fun c hc => ?_)))
    rw [trS_cong h ha hb hc]
  · refine allB_cong (fun i hi => ?_)
    rw [bm_cong (fun j hj => h i j hi hj)]
theorem fstR_cong {p q : Nat → Bool} : ∀ {n : Nat}, (∀ k, k < n → p k = q k) → fstL p n = fstL q n
  | 0, _ => rfl
  | n + 1, h => by
    simp only [fstL]
    rw [fstR_cong (fun k hk => h k (by omega)), h n (by omega), fa_cnt_cong (fun k hk => h k (by omega))]
def mostN (p : Nat → Bool) : Nat → Nat
  | 0 => 0
  | i + 1 => if p i then (if mostN p i < pop i then pop i else mostN p i) else mostN p i
theorem mostN_cong {p q : Nat → Bool} : ∀ {n : Nat}, (∀ k, k < n → p k = q k) → mostN p n = mostN q n
  | 0, _ => rfl
  | n + 1, h => by
    simp only [mostN]
    rw [mostN_cong (fun k hk => h k (by omega)), h n (by omega)]
theorem mostN_le (p : Nat → Bool) : ∀ n, mostN p n ≤ 16
  | 0 => by simp [mostN]
  | n + 1 => by
    have := mostN_le p n
    have h2 : pop n ≤ 16 := bs_le _ _
    simp only [mostN]
    split
    · split <;> omega
    · omega
theorem mostXN (p : Nat → Bool) : ∀ n, (fa_cnt p n = 0 → mostX p n = -4 ∧ mostN p n = 0) ∧ (¬ fa_cnt p n = 0 → mostX p n = nI (mostN p n))
  | 0 => ⟨fun _ => ⟨rfl, rfl⟩, fun h => absurd rfl h⟩
  | n + 1 => by
    obtain ⟨h1, h2⟩ := mostXN p n
    have hp : pop n ≤ 16 := bs_le _ _
    have hm := mostN_le p n
    cases q : p n with
    | false =>
      rw [fa_cnt_no q]
      simp only [mostX, mostN, q]
      exact ⟨h1, h2⟩
    | true =>
      rw [fa_cnt_yes q]
      refine ⟨fun w => by omega, fun _ => ?_⟩
      simp only [mostX, mostN, q, if_true]
      by_cases w : fa_cnt p n = 0
      · obtain ⟨a, b⟩ := h1 w
        rw [a, b, if_pos (by rw [i_lt, t_N (by omega), show (-4 : Int32).toInt = -4 by decide]; omega)]
        by_cases z : 0 < pop n
        · rw [if_pos z]
        · rw [if_neg z, show pop n = 0 by omega]
      · rw [h2 w]
        by_cases z : mostN p n < pop n
        · rw [if_pos z, if_pos (by rw [i_lt, t_N (by omega), t_N (by omega)]; omega)]
        · rw [if_neg z, if_neg (by rw [i_lt, t_N (by omega), t_N (by omega)]; omega)]
theorem fstL_4 (p : Nat → Bool) : ∀ n, n ≤ 4096 → (fstL p n = -4 ↔ fa_cnt p n = 0)
  | 0, _ => ⟨fun _ => rfl, fun _ => rfl⟩
  | n + 1, hn => by
    have ih := fstL_4 p n (by omega)
    cases q : p n with
    | false =>
      rw [fa_cnt_no q]
      simp only [fstL, q]
      exact ih
    | true =>
      rw [fa_cnt_yes q]
      refine ⟨fun w => ?_, fun w => by omega⟩
      simp only [fstL, q, if_true] at w
      by_cases z : fa_cnt p n = 0
      · rw [if_pos z] at w
        have := congrArg Int32.toInt w
        rw [t_N (by omega), show (-4 : Int32).toInt = -4 by decide] at this
        omega
      · rw [if_neg z] at w
        exact absurd (ih.mp w) z
theorem fa_cnt_pos {p : Nat → Bool} : ∀ {n k : Nat}, k < n → p k = true → ¬ fa_cnt p n = 0
  | 0, k, h, _ => absurd h (Nat.not_lt_zero _)
  | n + 1, k, h, hp => by
    by_cases e : k = n
    · subst e; rw [fa_cnt_yes hp]; omega
    · have ih := fa_cnt_pos (n := n) (k := k) (by omega) hp
      cases q : p n with
      | false => rw [fa_cnt_no q]; exact ih
      | true => rw [fa_cnt_yes q]; omega
def mAns (e : Nat → Nat → Bool) (r k : Nat) : Int32 := if k = 0 then nI (fb_sm (P2 e) r) else if k = 1 then nI (fb_sm (P3 e) r) else if k = 2 then nI (fa_cnt (colB e r) (2 ^ r)) else if k = 3 then fstL (colB e r) (2 ^ r) else nI (mostN (colB e r) (2 ^ r))
section OPS
variable {h : Hp} {r : Nat} {Q : Option Value → Hp → Prop}
theorem x_colours_bad {a : Int32} (ha : rg 0 4 a = false) (hQ : Q (some (.int (-1))) h) : Ctr jX4_colours [.ref 0, .int a] h Q := by
  refine ctr_start (by decide) (Nat.le_of_ble_eq_true rfl) rfl rfl ?_
  show SW jX4_colours E0 _ 0 [some (.ref 0), some (.int a)] [] _
  refine sw_iload_n dX4_colours_0 rfl ?_
  refine sw_if_lt (tgt := 9) dX4_colours_1 (by decide) (fun hc => ?_) (fun hc => ?_)
  · refine sw_iconst (v := (-1)) dX4_colours_9 (by decide) ?_
    refine sw_iret dX4_colours_10 rfl rfl rfl ?_
    exact hQ
  · rw [i_lt, t_0] at hc
    have h0 := hc
    clear hc
    refine sw_iload_n dX4_colours_4 rfl ?_
    refine sw_iconst (v := nI 4) dX4_colours_5 (by decide) ?_
    refine sw_icmp_le (tgt := 11) dX4_colours_6 (by decide) (fun hc => ?_) (fun hc => ?_)
    · rw [i_le, t_N (by omega)] at hc
      exact absurd (rg_t (lo := 0) (hi := 4) (v := a) (by omega) (by omega)) (by rw [ha]; decide)
    · refine sw_iconst (v := (-1)) dX4_colours_9 (by decide) ?_
      refine sw_iret dX4_colours_10 rfl rfl rfl ?_
      exact hQ
theorem x_colours (V : RV h r) (hj : ¬ h 13 6 = 0 → JD h r) {k : Nat} (hk : k ≤ 4) (k1 : ∀ g : Hp, KR h g → g 13 0 = h 13 0 → ¬ g 13 6 = 0 → JD g r → Q (some (.int (g 13 (7 + k)))) g) : Ctr jX4_colours [.ref 0, .int (nI k)] h Q := by
  refine ctr_start (by decide) (Nat.le_of_ble_eq_true rfl) rfl rfl ?_
  show SW jX4_colours E0 _ 0 [some (.ref 0), some (.int (nI k))] [] _
  refine sw_iload_n dX4_colours_0 rfl ?_
  refine sw_if_lt (tgt := 9) dX4_colours_1 (by decide) (fun hc => ?_) (fun hc => ?_)
  · rw [i_lt, t_0, t_N (by omega)] at hc
    omega
  · clear hc
    refine sw_iload_n dX4_colours_4 rfl ?_
    refine sw_iconst (v := nI 4) dX4_colours_5 (by decide) ?_
    refine sw_icmpN_le (tgt := 11) dX4_colours_6 (by decide) (by omega) (by omega) (fun hc => ?_) (fun hc => ?_)
    · clear hc
      refine sw_aload_n dX4_colours_11 rfl ?_
      refine sw_getR dX4_colours_12 flX4_26 ⟨by decide, _, rfl, rfl⟩ ?_
      refine sw_callV (i := 0) (c_judge V hj) dX4_colours_15 lkX4_171 (by decide) ⟨by decide, _, rfl, rfl⟩ rfl rfl rfl (Nat.le_of_ble_eq_true rfl) (fun v h1 hq => ?_)
      obtain ⟨rfl, q1, q2, q3, q4⟩ := hq
      have kk := k1 h1 q1 q2 q3 q4
      refine sw_iload_n dX4_colours_18 rfl ?_
      rcases (show k = 0 ∨ k = 1 ∨ k = 2 ∨ k = 3 ∨ k = 4 by omega) with rfl | rfl | rfl | rfl | rfl
      · refine sw_tabIn (tgt := 48) dX4_colours_19 (by decide) (by decide) (off := 29) (by decide) (by decide) ?_
        refine sw_aload_n dX4_colours_48 rfl ?_
        refine sw_getR dX4_colours_49 flX4_26 ⟨by decide, _, rfl, rfl⟩ ?_
        refine sw_getNI dX4_colours_52 fnX4_174 ⟨by decide, _, rfl, rfl⟩ ?_
        refine sw_iret dX4_colours_55 rfl rfl rfl ?_
        exact kk
      · refine sw_tabIn (tgt := 56) dX4_colours_19 (by decide) (by decide) (off := 37) (by decide) (by decide) ?_
        refine sw_aload_n dX4_colours_56 rfl ?_
        refine sw_getR dX4_colours_57 flX4_26 ⟨by decide, _, rfl, rfl⟩ ?_
        refine sw_getNI dX4_colours_60 fnX4_177 ⟨by decide, _, rfl, rfl⟩ ?_
        refine sw_iret dX4_colours_63 rfl rfl rfl ?_
        exact kk
      · refine sw_tabIn (tgt := 64) dX4_colours_19 (by decide) (by decide) (off := 45) (by decide) (by decide) ?_
        refine sw_aload_n dX4_colours_64 rfl ?_
        refine sw_getR dX4_colours_65 flX4_26 ⟨by decide, _, rfl, rfl⟩ ?_
        refine sw_getNI dX4_colours_68 fnX4_180 ⟨by decide, _, rfl, rfl⟩ ?_
        refine sw_iret dX4_colours_71 rfl rfl rfl ?_
        exact kk
      · refine sw_tabIn (tgt := 72) dX4_colours_19 (by decide) (by decide) (off := 53) (by decide) (by decide) ?_
        refine sw_aload_n dX4_colours_72 rfl ?_
        refine sw_getR dX4_colours_73 flX4_26 ⟨by decide, _, rfl, rfl⟩ ?_
        refine sw_getNI dX4_colours_76 fnX4_183 ⟨by decide, _, rfl, rfl⟩ ?_
        refine sw_iret dX4_colours_79 rfl rfl rfl ?_
        exact kk
      · refine sw_tabOut (tgt := 80) dX4_colours_19 (Or.inr (by decide)) (by decide) ?_
        refine sw_aload_n dX4_colours_80 rfl ?_
        refine sw_getR dX4_colours_81 flX4_26 ⟨by decide, _, rfl, rfl⟩ ?_
        refine sw_getNI dX4_colours_84 fnX4_186 ⟨by decide, _, rfl, rfl⟩ ?_
        refine sw_iret dX4_colours_87 rfl rfl rfl ?_
        exact kk
    · omega
theorem m_colours_bad {a : Int32} (ha : rg 0 4 a = false) (hQ : Q (some (.int (-1))) h) : Ctr jX5_colours [.ref 28, .int a] h Q := by
  refine ctr_start (by decide) (Nat.le_of_ble_eq_true rfl) rfl rfl ?_
  show SW jX5_colours E0 _ 0 [some (.ref 28), some (.int a), none, none, none, none, none] [] _
  refine sw_iload_n dX5_colours_0 rfl ?_
  refine sw_i2l dX5_colours_1 ?_
  refine sw_lconst (v := lN 0) dX5_colours_2 (by decide) ?_
  refine sw_ldc2_w (v := lN 4) dX5_colours_3 (by decide +kernel) ?_
  refine sw_csi (c_inR (l := 0) (u := 4) (by decide) (by decide)) dX5_colours_6 lkX5_59 (by decide) rfl rfl (Nat.le_of_ble_eq_true rfl) ?_
  rw [ha]
  refine sw_if_ne (tgt := 14) dX5_colours_9 (by decide) (fun hc => ?_) (fun hc => ?_)
  · exact absurd rfl hc
  · refine sw_iconst (v := (-1)) dX5_colours_12 (by decide) ?_
    refine sw_iret dX5_colours_13 rfl rfl rfl ?_
    exact hQ
theorem m_colours (hr : r ≤ 12) (hz : h 28 9 = nI r) {k : Nat} (hk : k ≤ 4) (k1 : ∀ g : Hp, PM h g r → Q (some (.int (mAns (om h) r k))) g) : Ctr jX5_colours [.ref 28, .int (nI k)] h Q := by
  have h12 := pow12 hr
  refine ctr_start (by decide) (Nat.le_of_ble_eq_true rfl) rfl rfl ?_
  show SW jX5_colours E0 _ 0 [some (.ref 28), some (.int (nI k)), none, none, none, none, none] [] _
  refine sw_iload_n dX5_colours_0 rfl ?_
  refine sw_i2l dX5_colours_1 ?_
  refine sw_lconst (v := lN 0) dX5_colours_2 (by decide) ?_
  refine sw_ldc2_w (v := lN 4) dX5_colours_3 (by decide +kernel) ?_
  refine sw_csi (c_inR (l := 0) (u := 4) (by decide) (by decide)) dX5_colours_6 lkX5_59 (by decide) rfl rfl (Nat.le_of_ble_eq_true rfl) ?_
  rw [rg_t (v := nI k) (by rw [t_N (by omega)]; omega) (by rw [t_N (by omega)]; omega)]
  refine sw_if_ne (tgt := 14) dX5_colours_9 (by decide) (fun hc => ?_) (fun hc => ?_)
  · clear hc
    refine sw_aload_n dX5_colours_14 rfl ?_
    refine sw_callV (i := 0) (c_findThrees hr hz) dX5_colours_15 lkX5_163 (by decide) ⟨by decide, _, rfl, rfl⟩ rfl rfl rfl (Nat.le_of_ble_eq_true rfl) (fun v h1 hq => ?_)
    obtain ⟨rfl, PMg⟩ := hq
    have kk := k1 h1 PMg
    obtain ⟨K, hi, q15, hle, q38, hTL⟩ := PMg
    have z1 : h1 28 9 = nI r := by rw [hi 9 (by decide)]; exact hz
    refine sw_istore_n dX5_colours_18 (by decide) rfl ?_
    refine sw_iconst (v := nI 0) dX5_colours_19 (by decide) ?_
    refine sw_istore_n dX5_colours_20 (by decide) rfl ?_
    refine sw_bipush (v := (-4)) dX5_colours_21 (by decide) ?_
    refine sw_istore dX5_colours_23 (by decide) rfl ?_
    refine sw_iconst (v := nI 0) dX5_colours_25 (by decide) ?_
    refine sw_istore dX5_colours_26 (by decide) rfl ?_
    refine sw_iconst (v := nI 0) dX5_colours_28 (by decide) ?_
    refine sw_istore dX5_colours_29 (by decide) rfl ?_
    have fin : ∀ (n most red : Nat) (least : Int32), n ≤ 4096 → most ≤ 16 → (k = 2 → n = fa_cnt (colB (om h) r) (2 ^ r)) → (k = 3 → least = fstL (colB (om h) r) (2 ^ r)) → (k = 4 → most = mostN (colB (om h) r) (2 ^ r)) → SW jX5_colours E0 (Zm Q) 103 [some (.ref 28), some (.int (nI k)), some (.int (nI (fb_sm (P2 (om h)) r))), some (.int (nI n)), some (.int least), some (.int (nI most)), some (.int (nI red))] [] h1 := by
      intro n most red least hn hm e2 e3 e4
      rcases (show k = 0 ∨ k = 1 ∨ k = 2 ∨ k = 3 ∨ k = 4 by omega) with rfl | rfl | rfl | rfl | rfl
      · refine sw_iload_n dX5_colours_103 rfl ?_
        refine sw_if_ne (tgt := 111) dX5_colours_104 (by decide) (fun hc => ?_) (fun hc => ?_)
        · exact absurd rfl hc
        · refine sw_iload_n dX5_colours_107 rfl ?_
          refine sw_goto (tgt := 144) dX5_colours_108 (by decide) ?_
          refine sw_iret dX5_colours_144 rfl rfl rfl ?_
          exact kk
      · refine sw_iload_n dX5_colours_103 rfl ?_
        refine sw_if_ne (tgt := 111) dX5_colours_104 (by decide) (fun hc => ?_) (fun hc => ?_)
        · refine sw_iload_n dX5_colours_111 rfl ?_
          refine sw_iconst (v := nI 1) dX5_colours_112 (by decide) ?_
          clear hc
          refine sw_icmp_ne (tgt := 123) dX5_colours_113 (by decide) (fun hc => ?_) (fun hc => ?_)
          · exact absurd rfl hc
          · refine sw_aload_n dX5_colours_116 rfl ?_
            refine sw_getI dX5_colours_117 flX5_158 ⟨by decide, _, rfl, rfl⟩ ?_
            rw [q15]
            refine sw_goto (tgt := 144) dX5_colours_120 (by decide) ?_
            refine sw_iret dX5_colours_144 rfl rfl rfl ?_
            exact kk
        · exact absurd hc (by decide)
      · refine sw_iload_n dX5_colours_103 rfl ?_
        refine sw_if_ne (tgt := 111) dX5_colours_104 (by decide) (fun hc => ?_) (fun hc => ?_)
        · refine sw_iload_n dX5_colours_111 rfl ?_
          refine sw_iconst (v := nI 1) dX5_colours_112 (by decide) ?_
          clear hc
          refine sw_icmp_ne (tgt := 123) dX5_colours_113 (by decide) (fun hc => ?_) (fun hc => ?_)
          · refine sw_iload_n dX5_colours_123 rfl ?_
            refine sw_iconst (v := nI 2) dX5_colours_124 (by decide) ?_
            clear hc
            refine sw_icmp_ne (tgt := 132) dX5_colours_125 (by decide) (fun hc => ?_) (fun hc => ?_)
            · exact absurd rfl hc
            · rw [e2 rfl]
              refine sw_iload_n dX5_colours_128 rfl ?_
              refine sw_goto (tgt := 144) dX5_colours_129 (by decide) ?_
              refine sw_iret dX5_colours_144 rfl rfl rfl ?_
              exact kk
          · exact absurd hc (by decide)
        · exact absurd hc (by decide)
      · refine sw_iload_n dX5_colours_103 rfl ?_
        refine sw_if_ne (tgt := 111) dX5_colours_104 (by decide) (fun hc => ?_) (fun hc => ?_)
        · refine sw_iload_n dX5_colours_111 rfl ?_
          refine sw_iconst (v := nI 1) dX5_colours_112 (by decide) ?_
          clear hc
          refine sw_icmp_ne (tgt := 123) dX5_colours_113 (by decide) (fun hc => ?_) (fun hc => ?_)
          · refine sw_iload_n dX5_colours_123 rfl ?_
            refine sw_iconst (v := nI 2) dX5_colours_124 (by decide) ?_
            clear hc
            refine sw_icmp_ne (tgt := 132) dX5_colours_125 (by decide) (fun hc => ?_) (fun hc => ?_)
            · refine sw_iload_n dX5_colours_132 rfl ?_
              refine sw_iconst (v := nI 3) dX5_colours_133 (by decide) ?_
              clear hc
              refine sw_icmp_ne (tgt := 142) dX5_colours_134 (by decide) (fun hc => ?_) (fun hc => ?_)
              · exact absurd rfl hc
              · rw [e3 rfl]
                refine sw_iload dX5_colours_137 rfl ?_
                refine sw_goto (tgt := 144) dX5_colours_139 (by decide) ?_
                refine sw_iret dX5_colours_144 rfl rfl rfl ?_
                exact kk
            · exact absurd hc (by decide)
          · exact absurd hc (by decide)
        · exact absurd hc (by decide)
      · refine sw_iload_n dX5_colours_103 rfl ?_
        refine sw_if_ne (tgt := 111) dX5_colours_104 (by decide) (fun hc => ?_) (fun hc => ?_)
        · refine sw_iload_n dX5_colours_111 rfl ?_
          refine sw_iconst (v := nI 1) dX5_colours_112 (by decide) ?_
          clear hc
          refine sw_icmp_ne (tgt := 123) dX5_colours_113 (by decide) (fun hc => ?_) (fun hc => ?_)
          · refine sw_iload_n dX5_colours_123 rfl ?_
            refine sw_iconst (v := nI 2) dX5_colours_124 (by decide) ?_
            clear hc
            refine sw_icmp_ne (tgt := 132) dX5_colours_125 (by decide) (fun hc => ?_) (fun hc => ?_)
            · refine sw_iload_n dX5_colours_132 rfl ?_
              refine sw_iconst (v := nI 3) dX5_colours_133 (by decide) ?_
              clear hc
              refine sw_icmp_ne (tgt := 142) dX5_colours_134 (by decide) (fun hc => ?_) (fun hc => ?_)
              · rw [e4 rfl]
                refine sw_iload dX5_colours_142 rfl ?_
                refine sw_iret dX5_colours_144 rfl rfl rfl ?_
                exact kk
              · exact absurd hc (by decide)
            · exact absurd hc (by decide)
          · exact absurd hc (by decide)
        · exact absurd hc (by decide)
    refine lp_up (n := 2 ^ r) (S := fun i => (i = 0 ∨ 1 < k) → SW jX5_colours E0 (Zm Q) 31 [some (.ref 28), some (.int (nI k)), some (.int (nI (fb_sm (P2 (om h)) r))), some (.int (nI (fa_cnt (colB (om h) r) i))), some (.int (fstL (colB (om h) r) i)), some (.int (nI (mostN (colB (om h) r) i))), some (.int (nI i))] [] h1) ?_ ?_ 0 (Nat.zero_le _) (Or.inl rfl)
    · intro _
      have hcl := fa_cnt_le (colB (om h) r) (2 ^ r)
      refine sw_iload dX5_colours_31 rfl ?_
      refine sw_iconst (v := nI 1) dX5_colours_33 (by decide) ?_
      refine sw_aload_n dX5_colours_34 rfl ?_
      refine sw_getI dX5_colours_35 flX5_149 ⟨by decide, _, rfl, rfl⟩ ?_
      rw [z1]
      first | refine sw_ishlN dX5_colours_38 (by omega) (by omega) ?_ | refine sw_ishl dX5_colours_38 ?_
      rw [Nat.one_mul]
      refine sw_icmpN_ge (tgt := 103) dX5_colours_39 (by decide) (by omega) (by omega) (fun hc => ?_) (fun hc => ?_)
      · exact fin _ _ _ _ (by omega) (mostN_le _ _) (fun _ => rfl) (fun _ => rfl) (fun _ => rfl)
      · omega
    · intro i hi2 ih hor
      have hcl := fa_cnt_le (colB (om h) r) i
      have hml := mostN_le (colB (om h) r) i
      have hpl : pop i ≤ 16 := bs_le _ _
      refine sw_iload dX5_colours_31 rfl ?_
      refine sw_iconst (v := nI 1) dX5_colours_33 (by decide) ?_
      refine sw_aload_n dX5_colours_34 rfl ?_
      refine sw_getI dX5_colours_35 flX5_149 ⟨by decide, _, rfl, rfl⟩ ?_
      rw [z1]
      first | refine sw_ishlN dX5_colours_38 (by omega) (by omega) ?_ | refine sw_ishl dX5_colours_38 ?_
      rw [Nat.one_mul]
      refine sw_icmpN_ge (tgt := 103) dX5_colours_39 (by decide) (by omega) (by omega) (fun hc => ?_) (fun hc => ?_)
      · omega
      · clear hc
        refine sw_iload_n dX5_colours_42 rfl ?_
        refine sw_iconst (v := nI 1) dX5_colours_43 (by decide) ?_
        refine sw_icmpN_le (tgt := 103) dX5_colours_44 (by decide) (by omega) (by omega) (fun hc => ?_) (fun hc => ?_)
        · exact fin _ _ _ _ (by omega) (mostN_le _ _) (fun q => by omega) (fun q => by omega) (fun q => by omega)
        · have ih := ih (Or.inr (by omega))
          clear hc
          refine sw_aload_n dX5_colours_47 rfl ?_
          refine sw_iload dX5_colours_48 rfl ?_
          refine sw_cvi (i := 0) (c_isColour hr (om h) z1 q15 hle q38 hTL (m := i) (by omega)) dX5_colours_50 lkX5_166 (by decide) ⟨by decide, _, rfl, rfl⟩ rfl rfl rfl (Nat.le_of_ble_eq_true rfl) ?_
          refine sw_if_eq (tgt := 97) dX5_colours_53 (by decide) (fun hc => ?_) (fun hc => ?_)
          · have hno := bI_0 hc
            have e1 : fa_cnt (colB (om h) r) (i + 1) = fa_cnt (colB (om h) r) i := fa_cnt_no hno
            have e2 : fstL (colB (om h) r) (i + 1) = fstL (colB (om h) r) i := by simp only [fstL, hno]; rfl
            have e3 : mostN (colB (om h) r) (i + 1) = mostN (colB (om h) r) i := by simp only [mostN, hno]; rfl
            rw [e1, e2, e3] at ih
            first | refine sw_iincN (b := 1) dX5_colours_97 rfl (by decide) rfl ?_ | refine sw_iinc dX5_colours_97 rfl rfl (by decide) rfl ?_
            refine sw_goto (tgt := 31) dX5_colours_100 (by decide) ?_
            exact ih
          · have hyes := bI_1 hc
            clear hc
            have e1 : fa_cnt (colB (om h) r) (i + 1) = fa_cnt (colB (om h) r) i + 1 := fa_cnt_yes hyes
            have h4 := fstL_4 (colB (om h) r) i (by omega)
            have last : ∀ v : Int32, v = fstL (colB (om h) r) (i + 1) → SW jX5_colours E0 (Zm Q) 73 [some (.ref 28), some (.int (nI k)), some (.int (nI (fb_sm (P2 (om h)) r))), some (.int (nI (fa_cnt (colB (om h) r) i + 1))), some (.int (fstL (colB (om h) r) i)), some (.int (nI (mostN (colB (om h) r) i))), some (.int (nI i))] [.int v] h1 := fun v hv => by
              rw [← hv, e1] at ih
              refine sw_istore dX5_colours_73 (by decide) rfl ?_
              refine sw_iload dX5_colours_75 rfl ?_
              refine sw_csi (c_bits (by omega)) dX5_colours_77 lkX5_67 (by decide) rfl rfl (Nat.le_of_ble_eq_true rfl) ?_
              refine sw_iload dX5_colours_80 rfl ?_
              refine sw_icmpN_le (tgt := 93) dX5_colours_82 (by decide) (by omega) (by omega) (fun hc => ?_) (fun hc => ?_)
              · have e3 : mostN (colB (om h) r) (i + 1) = mostN (colB (om h) r) i := by simp only [mostN, hyes, if_true]; rw [if_neg (by omega)]
                rw [e3] at ih
                clear hc
                refine sw_iload dX5_colours_93 rfl ?_
                refine sw_istore dX5_colours_95 (by decide) rfl ?_
                first | refine sw_iincN (b := 1) dX5_colours_97 rfl (by decide) rfl ?_ | refine sw_iinc dX5_colours_97 rfl rfl (by decide) rfl ?_
                refine sw_goto (tgt := 31) dX5_colours_100 (by decide) ?_
                exact ih
              · have e3 : mostN (colB (om h) r) (i + 1) = pop i := by simp only [mostN, hyes, if_true]; rw [if_pos (by omega)]
                rw [e3] at ih
                clear hc
                refine sw_iload dX5_colours_85 rfl ?_
                refine sw_csi (c_bits (by omega)) dX5_colours_87 lkX5_67 (by decide) rfl rfl (Nat.le_of_ble_eq_true rfl) ?_
                refine sw_goto (tgt := 95) dX5_colours_90 (by decide) ?_
                refine sw_istore dX5_colours_95 (by decide) rfl ?_
                first | refine sw_iincN (b := 1) dX5_colours_97 rfl (by decide) rfl ?_ | refine sw_iinc dX5_colours_97 rfl rfl (by decide) rfl ?_
                refine sw_goto (tgt := 31) dX5_colours_100 (by decide) ?_
                exact ih
            first | refine sw_iincN (b := 1) dX5_colours_56 rfl (by decide) rfl ?_ | refine sw_iinc dX5_colours_56 rfl rfl (by decide) rfl ?_
            refine sw_iload dX5_colours_59 rfl ?_
            refine sw_bipush (v := (-4)) dX5_colours_61 (by decide) ?_
            refine sw_icmp_ne (tgt := 71) dX5_colours_63 (by decide) (fun hc => ?_) (fun hc => ?_)
            · have hne : ¬ fa_cnt (colB (om h) r) i = 0 := fun q => hc (h4.mpr q)
              clear hc
              refine sw_iload dX5_colours_71 rfl ?_
              exact last _ (by simp only [fstL, hyes, if_true]; rw [if_neg hne])
            · have heq : fa_cnt (colB (om h) r) i = 0 := h4.mp hc
              clear hc
              refine sw_iload dX5_colours_66 rfl ?_
              refine sw_goto (tgt := 73) dX5_colours_68 (by decide) ?_
              exact last _ (by simp only [fstL, hyes, if_true]; rw [if_pos heq])
  · exact absurd hc (by decide)
end OPS
theorem b_colours (a : Int32) : Both jX4_colours jX5_colours [.int a] := by
  intro h K hK hI
  cases ha : rg 0 4 a with
  | false => exact ⟨-1, x_colours_bad ha ⟨rfl, m_colours_bad ha ⟨rfl, hI.up⟩⟩⟩
  | true =>
    obtain ⟨n, z, sm, lf, r, I⟩ := hI
    have iR := I.2.2.2.2.2.2.1
    have hr := iR.1.1
    have h12 := pow12 hr
    have ho : ∀ i j, i < r → j < r → om h i j = ox h i j := fun i j hi hj => oxm iR (by omega) (by omega)
    obtain ⟨k, hk, rfl⟩ := rg_nat2 (z := 4) (c := a) (by decide) ha
    obtain ⟨m, hm, hcol⟩ := ks32 iR
    have hpos := fa_cnt_pos hm hcol
    refine ⟨mAns (om h) r k, x_colours iR.1 iR.2.2.2.2.2 hk (fun g Kg g0 g6 J => ⟨?_, ?_⟩)⟩
    · obtain ⟨j7, j8, j9, j10, j11⟩ := J
      rw [Kg.oxe] at j7 j8 j9 j10 j11
      congr 2
      rcases (show k = 0 ∨ k = 1 ∨ k = 2 ∨ k = 3 ∨ k = 4 by omega) with rfl | rfl | rfl | rfl | rfl
      · exact j7.trans (by rw [S2P2, ← P2_cong ho]; rfl)
      · exact j8.trans (by rw [S3P3, ← P3_cong ho]; rfl)
      · exact j9.trans (by rw [← fa_cnt_cong (fun k _ => colB_cong ho k)]; rfl)
      · exact j10.trans (by rw [← fstR_cong (fun k _ => colB_cong ho k)]; rfl)
      · exact j11.trans (by rw [(mostXN _ _).2 hpos, ← mostN_cong (fun k _ => colB_cong ho k)]; rfl)
    · have eom : om g = om h := by
        funext i j
        unfold om
        rw [Kg 35 (by decide) (by decide), Kg 36 (by decide) (by decide), Kg 37 (by decide) (by decide)]
      refine m_colours hr (by rw [Kg 28 (by decide) (by decide)]; exact iR.2.1) hk (fun f P => ⟨by rw [eom], ?_⟩)
      obtain ⟨KM1, f28, _⟩ := P
      have ef : ∀ q, q ≠ 13 → q ≠ 18 → q ≠ 28 → q ≠ 38 → q ≠ 39 → f q = h q := fun q q1 q2 q3 q4 q5 => by rw [KM1 q q3 q4 q5]; exact Kg q q1 q2
      have f9 : f 28 9 = h 28 9 := by rw [f28 9 (by decide), Kg 28 (by decide) (by decide)]
      have f13 : f 13 = g 13 := KM1 13 (by decide) (by decide) (by decide)
      refine ⟨n, z, sm, lf, r, I0_ri I (fun q q1 q2 q3 => ef q (by omega) (by omega) q2 (by omega) (by omega)) (fun i i9 i15 => by rw [f28 i i15, Kg 28 (by decide) (by decide)]) ⟨?_, by rw [f9]; exact iR.2.1, ?_, ?_, ?_, fun q => ?_⟩⟩
      · refine ⟨hr, by rw [f13, g0]; exact iR.1.2.1, ?_⟩
        unfold ox
        rw [ef 17 (by decide) (by decide) (by decide) (by decide) (by decide), ef 14 (by decide) (by decide) (by decide) (by decide) (by decide), ef 15 (by decide) (by decide) (by decide) (by decide) (by decide), ef 16 (by decide) (by decide) (by decide) (by decide) (by decide)]
        exact iR.1.2.2
      · rw [ef 14 (by decide) (by decide) (by decide) (by decide) (by decide), ef 15 (by decide) (by decide) (by decide) (by decide) (by decide), ef 16 (by decide) (by decide) (by decide) (by decide) (by decide), ef 35 (by decide) (by decide) (by decide) (by decide) (by decide), ef 36 (by decide) (by decide) (by decide) (by decide) (by decide), ef 37 (by decide) (by decide) (by decide) (by decide) (by decide)]
        exact iR.2.2.1
      · rw [ef 14 (by decide) (by decide) (by decide) (by decide) (by decide), ef 15 (by decide) (by decide) (by decide) (by decide) (by decide), ef 16 (by decide) (by decide) (by decide) (by decide) (by decide)]
        exact iR.2.2.2.1
      · rw [ef 14 (by decide) (by decide) (by decide) (by decide) (by decide), ef 15 (by decide) (by decide) (by decide) (by decide) (by decide), ef 16 (by decide) (by decide) (by decide) (by decide) (by decide)]
        exact iR.2.2.2.2.1
      · exact JD_eq f13 (KM1 14 (by decide) (by decide) (by decide)) (KM1 15 (by decide) (by decide) (by decide)) (KM1 16 (by decide) (by decide) (by decide)) J
