/-! calls: draw -/
/-- m numbers of s, from f, over those of o from 8c -/
def drw (s o : Nat → Int32) (c f m : Nat) (i : Nat) : Int32 := if 8 * c ≤ i ∧ i < 8 * c + m then s (f + (i - 8 * c)) else o i
theorem drw_0 {s o : Nat → Int32} {c f i : Nat} : drw s o c f 0 i = o i := if_neg (fun w => by omega)
theorem drw_s {s o : Nat → Int32} {c f m i : Nat} : drw s o c f (m + 1) i = if i = 8 * c + m then s (f + m) else drw s o c f m i := by
  unfold drw
  by_cases e : i = 8 * c + m
  · rw [if_pos e, if_pos ⟨by omega, by omega⟩, show i - 8 * c = m by omega]
  · rw [if_neg e]
    by_cases w : 8 * c ≤ i ∧ i < 8 * c + m
    · rw [if_pos w, if_pos ⟨by omega, by omega⟩]
    · rw [if_neg w, if_neg (fun z => by omega)]
def D0 (h g : Hp) (c k f m : Nat) : Prop := (∀ q, q ≠ 1 → q ≠ 4 → g q = h q) ∧ (∀ i, i ≠ 2 → g 1 i = h 1 i) ∧ g 1 2 = h 1 2 + nI m ∧ ∀ i, g 4 i = drw (h (24 + k)) (h 4) c f m i
def D1 (q : Nat) (s : Nat → Int32) (h g : Hp) (c f m : Nat) : Prop := (∀ p, p ≠ q → g p = h p) ∧ ∀ i, g q i = drw s (h q) c f m i
theorem D1_s {q : Nat} {s : Nat → Int32} {h g : Hp} {c f m : Nat} (D : D1 q s h g c f m) : D1 q s h (hset g q (8 * c + m) (s (f + m))) c f (m + 1) := by
  refine ⟨fun p hp => by rw [hset_off p hp]; exact D.1 p hp, fun i => ?_⟩
  rw [hset_same, drw_s]
  by_cases e : i = 8 * c + m
  · rw [e, pk_us, if_pos rfl]
  · rw [pk_un e, if_neg e, D.2 i]
theorem D0_s {h g : Hp} {c k f m : Nat} (D : D0 h g c k f m) : D0 h (hset (hset g 4 (8 * c + m) (h (24 + k) (f + m))) 1 2 (g 1 2 + nI 1)) c k f (m + 1) := by
  refine ⟨fun p h1 h4 => by rw [hset_off p h1, hset_off p h4]; exact D.1 p h1 h4, fun i hi => by rw [hset_i hi, hset_k (by decide)]; exact D.2.1 i hi, ?_, fun i => ?_⟩
  · rw [hset_at, D.2.2.1, Int32.add_assoc]
    rw [nI_add]
  · rw [hset_off 4 (by decide), hset_same, drw_s]
    by_cases e : i = 8 * c + m
    · rw [e, pk_us, if_pos rfl]
    · rw [pk_un e, if_neg e, D.2.2.2 i]
section OPS
variable {h : Hp} {n z : Nat} {sm : Nat → Nat} {Q : Option Value → Hp → Prop}
theorem x_draw_bad (T : TX h n z sm) {c kd a l f : Int32} (hb : ¬ (rg 0 ((z : Int) - 1) c = true ∧ rg 0 1 kd = true ∧ rg 0 3 a = true ∧ rg 0 2 l = true)) (hQ : Q (some (.int (-1))) h) : Ctr jX4_draw [.ref 0, .int c, .int kd, .int a, .int l, .int f] h Q := by
  refine ctr_start (by decide) (Nat.le_of_ble_eq_true rfl) rfl rfl ?_
  show SW jX4_draw E0 _ 0 [some (.ref 0), some (.int c), some (.int kd), some (.int a), some (.int l), some (.int f), none, none, none, none] [] _
  have bad : SW jX4_draw E0 (Zm Q) 35 [some (.ref 0), some (.int c), some (.int kd), some (.int a), some (.int l), some (.int f), none, none, none, none] [] h := by
    refine sw_iconst (v := (-1)) dX4_draw_35 (by decide) ?_
    refine sw_iret dX4_draw_36 rfl rfl rfl ?_
    exact hQ
  refine sw_aload_n dX4_draw_0 rfl ?_
  refine sw_getR dX4_draw_1 flX4_10 ⟨by decide, _, rfl, rfl⟩ ?_
  refine sw_iload_n dX4_draw_4 rfl ?_
  refine sw_cvi (i := 0) (c_hasSet T c) dX4_draw_5 lkX4_68 (by decide) ⟨by decide, _, rfl, rfl⟩ rfl rfl rfl (Nat.le_of_ble_eq_true rfl) ?_
  refine sw_if_eq (tgt := 35) dX4_draw_8 (by decide) (fun hc => ?_) (fun hc => ?_)
  · exact bad
  · have a1 := bI_1 hc
    clear hc
    have go : rg 0 1 kd = true → SW jX4_draw E0 (Zm Q) 20 [some (.ref 0), some (.int c), some (.int kd), some (.int a), some (.int l), some (.int f), none, none, none, none] [] h := fun a2 => by
      refine sw_iload_n dX4_draw_20 rfl ?_
      refine sw_csi (c_isSheet a) dX4_draw_21 lkX4_189 (by decide) rfl rfl (Nat.le_of_ble_eq_true rfl) ?_
      refine sw_if_eq (tgt := 35) dX4_draw_24 (by decide) (fun hc => ?_) (fun hc => ?_)
      · exact bad
      · have a3 := bI_1 hc
        clear hc
        refine sw_iload dX4_draw_27 rfl ?_
        refine sw_csi (c_isLane l) dX4_draw_29 lkX4_192 (by decide) rfl rfl (Nat.le_of_ble_eq_true rfl) ?_
        refine sw_if_ne (tgt := 37) dX4_draw_32 (by decide) (fun hc => ?_) (fun hc => ?_)
        · refine absurd ⟨a1, a2, a3, ?_⟩ hb
          cases q : rg 0 2 l with
          | true => rfl
          | false => rw [q] at hc; exact absurd rfl hc
        · exact bad
    refine sw_iload_n dX4_draw_11 rfl ?_
    refine sw_if_eq (tgt := 20) dX4_draw_12 (by decide) (fun hc => ?_) (fun hc => ?_)
    · refine go ?_
      rw [show kd = nI 0 from hc]
      decide
    · clear hc
      refine sw_iload_n dX4_draw_15 rfl ?_
      refine sw_iconst (v := nI 1) dX4_draw_16 (by decide) ?_
      refine sw_icmp_ne (tgt := 35) dX4_draw_17 (by decide) (fun hc => ?_) (fun hc => ?_)
      · exact bad
      · refine go ?_
        rw [show kd = nI 1 from hc]
        decide
theorem m_draw_bad (T : TM h n z sm) {c kd a l f : Int32} (hb : ¬ (rg 0 ((z : Int) - 1) c = true ∧ rg 0 1 kd = true ∧ rg 0 3 a = true ∧ rg 0 2 l = true)) (hQ : Q (some (.int (-1))) h) : Ctr jX5_draw [.ref 28, .int c, .int kd, .int a, .int l, .int f] h Q := by
  refine ctr_start (by decide) (Nat.le_of_ble_eq_true rfl) rfl rfl ?_
  show SW jX5_draw E0 _ 0 [some (.ref 28), some (.int c), some (.int kd), some (.int a), some (.int l), some (.int f), none, none, none, none] [] _
  have bad : SW jX5_draw E0 (Zm Q) 27 [some (.ref 28), some (.int c), some (.int kd), some (.int a), some (.int l), some (.int f), none, none, none, none] [] h := by
    refine sw_iconst (v := (-1)) dX5_draw_27 (by decide) ?_
    refine sw_iret dX5_draw_28 rfl rfl rfl ?_
    exact hQ
  refine sw_aload_n dX5_draw_0 rfl ?_
  refine sw_iload_n dX5_draw_1 rfl ?_
  refine sw_cvi (i := 0) (c_isSet T.1.2.1 T.1.2.2.2 c) dX5_draw_2 lkX5_63 (by decide) ⟨by decide, _, rfl, rfl⟩ rfl rfl rfl (Nat.le_of_ble_eq_true rfl) ?_
  refine sw_if_eq (tgt := 27) dX5_draw_5 (by decide) (fun hc => ?_) (fun hc => ?_)
  · exact bad
  · have a1 := bI_1 hc
    clear hc
    refine sw_iload_n dX5_draw_8 rfl ?_
    refine sw_i2l dX5_draw_9 ?_
    refine sw_lconst (v := lN 0) dX5_draw_10 (by decide) ?_
    refine sw_lconst (v := lN 1) dX5_draw_11 (by decide) ?_
    refine sw_csi (c_inR (l := 0) (u := 1) (by decide) (by decide)) dX5_draw_12 lkX5_59 (by decide) rfl rfl (Nat.le_of_ble_eq_true rfl) ?_
    refine sw_if_eq (tgt := 27) dX5_draw_15 (by decide) (fun hc => ?_) (fun hc => ?_)
    · exact bad
    · have a2 := bI_1 hc
      clear hc
      refine sw_iload_n dX5_draw_18 rfl ?_
      refine sw_iload dX5_draw_19 rfl ?_
      refine sw_csi (c_isSheetM a l) dX5_draw_21 lkX5_171 (by decide) rfl rfl (Nat.le_of_ble_eq_true rfl) ?_
      refine sw_if_ne (tgt := 29) dX5_draw_24 (by decide) (fun hc => ?_) (fun hc => ?_)
      · have a3 : (rg 0 3 a && rg 0 2 l) = true := by
          cases q : (rg 0 3 a && rg 0 2 l) with
          | true => rfl
          | false => rw [q] at hc; exact absurd rfl hc
        rw [Bool.and_eq_true] at a3
        exact absurd ⟨a1, a2, a3.1, a3.2⟩ hb
      · exact bad
theorem x_draw (T : TX h n z sm) {c kd k l s : Nat} {f : Int32} (hc : c < z) (hkd : kd < 2) (hk : k < 4) (hl : l < 3) (hs64 : s ≤ 64) (hs : ¬ h (20 + k) 1 = -1 → h (20 + k) 2 = nI s) (k1 : h (20 + k) 1 = -1 → Q (some (.int (-11))) h) (k2 : ¬ h (20 + k) 1 = -1 → ¬ h (20 + k) 1 = nI l → Q (some (.int (-13))) h) (k3 : h (20 + k) 1 = nI l → rg 0 ((s : Int) - 1) f = false → Q (some (.int (-12))) h) (k4 : ∀ f', h (20 + k) 1 = nI l → f' < s → f = nI f' → ¬ fau (h (24 + k)) s f' kd 0 (2 ^ pop (sm c)) = 0 → Q (some (.int (fau (h (24 + k)) s f' kd 0 (2 ^ pop (sm c))))) h) (k5 : ∀ f', h (20 + k) 1 = nI l → f' < s → f = nI f' → fau (h (24 + k)) s f' kd 0 (2 ^ pop (sm c)) = 0 → ∀ g, (kd = 0 → D0 h g c k f' (2 ^ pop (sm c))) → (kd = 1 → D1 5 (h (24 + k)) h g c f' (2 ^ pop (sm c))) → Q (some (.int (nI 1))) g) : Ctr jX4_draw [.ref 0, .int (nI c), .int (nI kd), .int (nI k), .int (nI l), .int f] h Q := by
  have hz8 := T.1.2.1
  have hp := pow3 (T.2.1 c hc).2.2.2
  have hp1 : 1 ≤ 2 ^ pop (sm c) := Nat.two_pow_pos _
  have hcz := hc
  clear hc
  refine ctr_start (by decide) (Nat.le_of_ble_eq_true rfl) rfl rfl ?_
  show SW jX4_draw E0 _ 0 [some (.ref 0), some (.int (nI c)), some (.int (nI kd)), some (.int (nI k)), some (.int (nI l)), some (.int f), none, none, none, none] [] _
  refine sw_aload_n dX4_draw_0 rfl ?_
  refine sw_getR dX4_draw_1 flX4_10 ⟨by decide, _, rfl, rfl⟩ ?_
  refine sw_iload_n dX4_draw_4 rfl ?_
  refine sw_cvi (i := 0) (c_hasSet T (nI c)) dX4_draw_5 lkX4_68 (by decide) ⟨by decide, _, rfl, rfl⟩ rfl rfl rfl (Nat.le_of_ble_eq_true rfl) ?_
  rw [rg_nI (by omega) hcz]
  refine sw_if_eq (tgt := 35) dX4_draw_8 (by decide) (fun hc => ?_) (fun hc => ?_)
  · exact absurd hc (by decide)
  clear hc
  have go : SW jX4_draw E0 (Zm Q) 20 [some (.ref 0), some (.int (nI c)), some (.int (nI kd)), some (.int (nI k)), some (.int (nI l)), some (.int f), none, none, none, none] [] h := by
    refine sw_iload_n dX4_draw_20 rfl ?_
    refine sw_csi (c_isSheet (nI k)) dX4_draw_21 lkX4_189 (by decide) rfl rfl (Nat.le_of_ble_eq_true rfl) ?_
    rw [rg_t (v := nI k) (by rw [t_N (by omega)]; omega) (by rw [t_N (by omega)]; omega)]
    refine sw_if_eq (tgt := 35) dX4_draw_24 (by decide) (fun hc => ?_) (fun hc => ?_)
    · exact absurd hc (by decide)
    clear hc
    refine sw_iload dX4_draw_27 rfl ?_
    refine sw_csi (c_isLane (nI l)) dX4_draw_29 lkX4_192 (by decide) rfl rfl (Nat.le_of_ble_eq_true rfl) ?_
    rw [rg_t (v := nI l) (by rw [t_N (by omega)]; omega) (by rw [t_N (by omega)]; omega)]
    refine sw_if_ne (tgt := 37) dX4_draw_32 (by decide) (fun hc => ?_) (fun hc => ?_)
    · clear hc
      refine sw_aload_n dX4_draw_37 rfl ?_
      refine sw_getR dX4_draw_38 flX4_32 ⟨by decide, _, rfl, rfl⟩ ?_
      refine sw_iload_n dX4_draw_41 rfl ?_
      refine sw_aald dX4_draw_42 (by omega) ?_
      refine sw_cvi (c_isNothing hk) dX4_draw_43 lkX4_198 (by decide) (obL hk) rfl rfl rfl (Nat.le_of_ble_eq_true rfl) ?_
      refine sw_if_eq (tgt := 52) dX4_draw_46 (by decide) (fun hc => ?_) (fun hc => ?_)
      · have hn : ¬ h (20 + k) 1 = -1 := of_decide_eq_false (bI_0 hc)
        clear hc
        have hse := hs hn
        refine sw_aload_n dX4_draw_52 rfl ?_
        refine sw_getR dX4_draw_53 flX4_32 ⟨by decide, _, rfl, rfl⟩ ?_
        refine sw_iload_n dX4_draw_56 rfl ?_
        refine sw_aald dX4_draw_57 (by omega) ?_
        refine sw_getNI dX4_draw_58 fnX4_207 (obL hk) ?_
        refine sw_iload dX4_draw_61 rfl ?_
        refine sw_icmp_eq (tgt := 69) dX4_draw_63 (by decide) (fun hc => ?_) (fun hc => ?_)
        · have hl1 : h (20 + k) 1 = nI l := hc
          clear hc
          refine sw_aload_n dX4_draw_69 rfl ?_
          refine sw_getR dX4_draw_70 flX4_10 ⟨by decide, _, rfl, rfl⟩ ?_
          refine sw_iload_n dX4_draw_73 rfl ?_
          refine sw_cvi (i := 0) (c_jointCount T hcz) dX4_draw_74 lkX4_210 (by decide) ⟨by decide, _, rfl, rfl⟩ rfl rfl rfl (Nat.le_of_ble_eq_true rfl) ?_
          generalize hm : 2 ^ pop (sm c) = m at hp hp1 k4 k5 ⊢
          cases hb : rg 0 ((s : Int) - 1) f with
          | false =>
            refine sw_istore dX4_draw_77 (by decide) rfl ?_
            refine sw_aload_n dX4_draw_79 rfl ?_
            refine sw_getR dX4_draw_80 flX4_32 ⟨by decide, _, rfl, rfl⟩ ?_
            refine sw_iload_n dX4_draw_83 rfl ?_
            refine sw_aald dX4_draw_84 (by omega) ?_
            refine sw_iload_n dX4_draw_85 rfl ?_
            refine sw_iload dX4_draw_86 rfl ?_
            refine sw_iload dX4_draw_88 rfl ?_
            refine sw_csi (c_firstFault_bad hk hs64 hse hb hp1 hp) dX4_draw_90 lkX4_213 (by decide) rfl rfl (Nat.le_of_ble_eq_true rfl) ?_
            refine sw_istore dX4_draw_93 (by decide) rfl ?_
            refine sw_iload dX4_draw_95 rfl ?_
            refine sw_if_eq (tgt := 103) dX4_draw_97 (by decide) (fun hc => ?_) (fun hc => ?_)
            · exact absurd hc (by decide)
            · refine sw_iload dX4_draw_100 rfl ?_
              refine sw_iret dX4_draw_102 rfl rfl rfl ?_
              exact k3 hl1 hb
          | true =>
            obtain ⟨f', hf', rfl⟩ := rg_nat (by omega) hb
            refine sw_istore dX4_draw_77 (by decide) rfl ?_
            refine sw_aload_n dX4_draw_79 rfl ?_
            refine sw_getR dX4_draw_80 flX4_32 ⟨by decide, _, rfl, rfl⟩ ?_
            refine sw_iload_n dX4_draw_83 rfl ?_
            refine sw_aald dX4_draw_84 (by omega) ?_
            refine sw_iload_n dX4_draw_85 rfl ?_
            refine sw_iload dX4_draw_86 rfl ?_
            refine sw_iload dX4_draw_88 rfl ?_
            refine sw_csi (c_firstFault hk hs64 hse hf' hkd hp) dX4_draw_90 lkX4_213 (by decide) rfl rfl (Nat.le_of_ble_eq_true rfl) ?_
            refine sw_istore dX4_draw_93 (by decide) rfl ?_
            refine sw_iload dX4_draw_95 rfl ?_
            refine sw_if_eq (tgt := 103) dX4_draw_97 (by decide) (fun hc => ?_) (fun hc => ?_)
            · have h0 : fau (h (24 + k)) s f' kd 0 m = 0 := hc
              have hQ := k5 f' hl1 hf' rfl h0
              have hF := fau_0 m 0 (by omega) h0
              clear hc k1 k2 k3 k4 k5
              generalize fau (h (24 + k)) s f' kd 0 m = F
              refine sw_iconst (v := nI 0) dX4_draw_103 (by decide) ?_
              refine sw_istore dX4_draw_104 (by decide) rfl ?_
              rcases (show kd = 0 ∨ kd = 1 by omega) with rfl | rfl
              · have key := lp_up (n := m) (S := fun j => ∀ g v9, D0 h g c k f' j → SW jX4_draw E0 (Zm Q) 106 [some (.ref 0), some (.int (nI c)), some (.int (nI 0)), some (.int (nI k)), some (.int (nI l)), some (.int (nI f')), some (.int (nI m)), some (.int F), some (.int (nI j)), v9] [] g) ?_ ?_ 0 (Nat.zero_le _) h none ⟨fun _ _ _ => rfl, fun _ _ => rfl, (Int32.add_zero _).symm, fun _ => drw_0.symm⟩
                · exact key
                · intro g v9 hD
                  refine sw_iload dX4_draw_106 rfl ?_
                  refine sw_iload dX4_draw_108 rfl ?_
                  refine sw_icmpN_ge (tgt := 176) dX4_draw_110 (by decide) (by omega) (by omega) (fun hc => ?_) (fun hc => ?_)
                  · refine sw_iconst (v := nI 1) dX4_draw_176 (by decide) ?_
                    refine sw_iret dX4_draw_177 rfl rfl rfl ?_
                    exact hQ g (fun _ => hD) (fun q => absurd q (by decide))
                  · omega
                · intro j hj ih g v9 hD
                  have hin := (hF j (Nat.zero_le _) (by omega)).1
                  refine sw_iload dX4_draw_106 rfl ?_
                  refine sw_iload dX4_draw_108 rfl ?_
                  refine sw_icmpN_ge (tgt := 176) dX4_draw_110 (by decide) (by omega) (by omega) (fun hc => ?_) (fun hc => ?_)
                  · omega
                  · clear hc
                    refine sw_aload_n dX4_draw_113 rfl ?_
                    refine sw_getR dX4_draw_114 flX4_32 ⟨by decide, _, rfl, rfl⟩ ?_
                    refine sw_iload_n dX4_draw_117 rfl ?_
                    refine sw_aald dX4_draw_118 (by omega) ?_
                    refine sw_getNR dX4_draw_119 fnX4_217 (obC hk) ?_
                    refine sw_iload dX4_draw_122 rfl ?_
                    refine sw_iload dX4_draw_124 rfl ?_
                    refine sw_iaddN dX4_draw_126 ?_
                    refine sw_iald dX4_draw_127 (isI_C hk) (by rw [plA_C hk]; omega) ?_
                    rw [hD.1 (24 + k) (by omega) (by omega)]
                    refine sw_istore dX4_draw_128 (by decide) rfl ?_
                    refine sw_iload_n dX4_draw_130 rfl ?_
                    refine sw_if_ne (tgt := 153) dX4_draw_131 (by decide) (fun hc => ?_) (fun hc => ?_)
                    · exact absurd rfl hc
                    · clear hc
                      refine sw_aload_n dX4_draw_134 rfl ?_
                      refine sw_getR dX4_draw_135 flX4_10 ⟨by decide, _, rfl, rfl⟩ ?_
                      refine sw_bipush (v := nI 8) dX4_draw_138 (by decide) ?_
                      refine sw_iload_n dX4_draw_140 rfl ?_
                      first | refine sw_imulN dX4_draw_141 ?_ | refine sw_imul dX4_draw_141 ?_
                      refine sw_iload dX4_draw_142 rfl ?_
                      first | refine sw_iaddN dX4_draw_144 ?_ | refine sw_iadd dX4_draw_144 ?_
                      refine sw_iload dX4_draw_145 rfl ?_
                      refine sw_cvv (i := 0) (c_setWeight (k := 8 * c + j) (by omega) (h (24 + k) (f' + j))) dX4_draw_147 lkX4_91 (by decide) ⟨by decide, _, rfl, rfl⟩ rfl rfl rfl (Nat.le_of_ble_eq_true rfl) ?_
                      refine sw_goto (tgt := 170) dX4_draw_150 (by decide) ?_
                      first | refine sw_iincN (b := 1) dX4_draw_170 rfl (by decide) rfl ?_ | refine sw_iinc dX4_draw_170 rfl rfl (by decide) rfl ?_
                      refine sw_goto (tgt := 106) dX4_draw_173 (by decide) ?_
                      exact ih _ _ (D0_s hD)
              · have key := lp_up (n := m) (S := fun j => ∀ g v9, D1 5 (h (24 + k)) h g c f' j → SW jX4_draw E0 (Zm Q) 106 [some (.ref 0), some (.int (nI c)), some (.int (nI 1)), some (.int (nI k)), some (.int (nI l)), some (.int (nI f')), some (.int (nI m)), some (.int F), some (.int (nI j)), v9] [] g) ?_ ?_ 0 (Nat.zero_le _) h none ⟨fun _ _ => rfl, fun _ => drw_0.symm⟩
                · exact key
                · intro g v9 hD
                  refine sw_iload dX4_draw_106 rfl ?_
                  refine sw_iload dX4_draw_108 rfl ?_
                  refine sw_icmpN_ge (tgt := 176) dX4_draw_110 (by decide) (by omega) (by omega) (fun hc => ?_) (fun hc => ?_)
                  · refine sw_iconst (v := nI 1) dX4_draw_176 (by decide) ?_
                    refine sw_iret dX4_draw_177 rfl rfl rfl ?_
                    exact hQ g (fun q => absurd q (by decide)) (fun _ => hD)
                  · omega
                · intro j hj ih g v9 hD
                  have hin := (hF j (Nat.zero_le _) (by omega)).1
                  refine sw_iload dX4_draw_106 rfl ?_
                  refine sw_iload dX4_draw_108 rfl ?_
                  refine sw_icmpN_ge (tgt := 176) dX4_draw_110 (by decide) (by omega) (by omega) (fun hc => ?_) (fun hc => ?_)
                  · omega
                  · clear hc
                    refine sw_aload_n dX4_draw_113 rfl ?_
                    refine sw_getR dX4_draw_114 flX4_32 ⟨by decide, _, rfl, rfl⟩ ?_
                    refine sw_iload_n dX4_draw_117 rfl ?_
                    refine sw_aald dX4_draw_118 (by omega) ?_
                    refine sw_getNR dX4_draw_119 fnX4_217 (obC hk) ?_
                    refine sw_iload dX4_draw_122 rfl ?_
                    refine sw_iload dX4_draw_124 rfl ?_
                    refine sw_iaddN dX4_draw_126 ?_
                    refine sw_iald dX4_draw_127 (isI_C hk) (by rw [plA_C hk]; omega) ?_
                    rw [hD.1 (24 + k) (by omega)]
                    refine sw_istore dX4_draw_128 (by decide) rfl ?_
                    refine sw_iload_n dX4_draw_130 rfl ?_
                    refine sw_if_ne (tgt := 153) dX4_draw_131 (by decide) (fun hc => ?_) (fun hc => ?_)
                    · clear hc
                      refine sw_aload_n dX4_draw_153 rfl ?_
                      refine sw_getR dX4_draw_154 flX4_10 ⟨by decide, _, rfl, rfl⟩ ?_
                      refine sw_getNR dX4_draw_157 fnX4_98 ⟨by decide, _, rfl, rfl⟩ ?_
                      refine sw_bipush (v := nI 8) dX4_draw_160 (by decide) ?_
                      refine sw_iload_n dX4_draw_162 rfl ?_
                      first | refine sw_imulN dX4_draw_163 ?_ | refine sw_imul dX4_draw_163 ?_
                      refine sw_iload dX4_draw_164 rfl ?_
                      first | refine sw_iaddN dX4_draw_166 ?_ | refine sw_iadd dX4_draw_166 ?_
                      refine sw_iload dX4_draw_167 rfl ?_
                      refine sw_iast dX4_draw_169 rfl (by simp only [plA]; omega) ?_
                      first | refine sw_iincN (b := 1) dX4_draw_170 rfl (by decide) rfl ?_ | refine sw_iinc dX4_draw_170 rfl rfl (by decide) rfl ?_
                      refine sw_goto (tgt := 106) dX4_draw_173 (by decide) ?_
                      exact ih _ _ (D1_s hD)
                    · exact absurd hc (by decide)
            · refine sw_iload dX4_draw_100 rfl ?_
              refine sw_iret dX4_draw_102 rfl rfl rfl ?_
              exact k4 f' hl1 hf' rfl hc
        · refine sw_bipush (v := (-13)) dX4_draw_66 (by decide) ?_
          refine sw_iret dX4_draw_68 rfl rfl rfl ?_
          exact k2 hn hc
      · have hn : h (20 + k) 1 = -1 := of_decide_eq_true (bI_1 hc)
        refine sw_bipush (v := (-11)) dX4_draw_49 (by decide) ?_
        refine sw_iret dX4_draw_51 rfl rfl rfl ?_
        exact k1 hn
    · exact absurd hc (by decide)
  refine sw_iload_n dX4_draw_11 rfl ?_
  rcases (show kd = 0 ∨ kd = 1 by omega) with rfl | rfl
  · refine sw_if_eq (tgt := 20) dX4_draw_12 (by decide) (fun hc => ?_) (fun hc => ?_)
    · exact go
    · exact absurd rfl hc
  · refine sw_if_eq (tgt := 20) dX4_draw_12 (by decide) (fun hc => ?_) (fun hc => ?_)
    · exact absurd hc (by decide)
    · clear hc
      refine sw_iload_n dX4_draw_15 rfl ?_
      refine sw_iconst (v := nI 1) dX4_draw_16 (by decide) ?_
      refine sw_icmp_ne (tgt := 35) dX4_draw_17 (by decide) (fun hc => ?_) (fun hc => ?_)
      · exact absurd rfl hc
      · exact go
end OPS
