/-! THE LAW: its loop, its start -/
theorem l_loop {M : Nat} {xs : Nat → Int32} (hM : M ≤ 3072) {h : Hp} (hI : Inv h 0) : SW jL_law (EL M xs) ZL 18 (LL4 0) [] h := by
  have key := lp_up (n := M / 6) (S := fun t => ∀ h, Inv h t → SW jL_law (EL M xs) ZL 18 (LL4 t) [] h) ?_ ?_ 0 (Nat.zero_le _) h hI
  · exact key
  · intro h hI
    refine sw_iload_n dL_law_18 rfl ?_
    refine sw_aload_n dL_law_19 rfl ?_
    refine sw_slen dL_law_20 ?_
    refine sw_bipush (v := nI 6) dL_law_21 (by decide) ?_
    refine sw_isub dL_law_23 ?_
    refine sw_icmp_gt (tgt := 897) dL_law_24 (by decide) (fun hc => ?_) (fun hc => ?_)
    · refine sw_iconst (v := nI 1) dL_law_897 (by decide) ?_
      exact sw_lret dL_law_898
    · refine absurd ?_ hc
      rw [Int32.lt_iff_toInt_lt, pk_sub_toInt (by omega) (by omega), t_N (by omega)]
      omega
  · intro t ht ih h hI
    refine sw_iload_n dL_law_18 rfl ?_
    refine sw_aload_n dL_law_19 rfl ?_
    refine sw_slen dL_law_20 ?_
    refine sw_bipush (v := nI 6) dL_law_21 (by decide) ?_
    refine sw_isub dL_law_23 ?_
    refine sw_icmp_gt (tgt := 897) dL_law_24 (by decide) (fun hc => ?_) (fun hc => ?_)
    · rw [Int32.lt_iff_toInt_lt, pk_sub_toInt (by omega) (by omega), t_N (by omega)] at hc
      omega
    · refine l_body hM (by omega) hI (fun f hf => ?_)
      first | refine sw_iincN (b := 6) dL_law_891 rfl (by decide) rfl ?_ | refine sw_iinc dL_law_891 rfl rfl (by decide) rfl ?_
      refine sw_goto (tgt := 18) dL_law_894 (by decide) ?_
      exact ih f hf
/-- the world behind the constructors -/
def hI0 : Hp := fun k => match k with
  | 1 => fun i => match i with
    | 0 => nI 4
    | _ => nI 0
  | 10 => fun i => match i with
    | 5 => (-1)
    | _ => nI 0
  | 13 => fun i => match i with
    | 10 => (-4)
    | 11 => (-4)
    | _ => nI 0
  | 20 => fun i => match i with
    | 1 => (-1)
    | _ => nI 0
  | 21 => fun i => match i with
    | 1 => (-1)
    | _ => nI 0
  | 22 => fun i => match i with
    | 1 => (-1)
    | _ => nI 0
  | 23 => fun i => match i with
    | 1 => (-1)
    | _ => nI 0
  | 28 => fun i => match i with
    | 0 => nI 4
    | _ => 0
  | 40 => upd (upd (upd (upd (fun _ => 0) 0 (-4)) 1 (-4)) 2 (-4)) 3 (-4)
  | _ => fun _ => 0
theorem inv0 : Inv hI0 0 := by
  refine ⟨4, 0, fun _ => 0, fun _ => 0, 0, by decide, ⟨⟨by decide, by decide, rfl, rfl⟩, fun c hc => absurd hc (Nat.not_lt_zero _), fun c x hc => absurd hc (Nat.not_lt_zero _), fun c j hc => absurd hc (Nat.not_lt_zero _)⟩, ⟨⟨by decide, by decide, rfl, rfl⟩, fun c hc => absurd hc (Nat.not_lt_zero _)⟩, ⟨fun k _ => ⟨rfl, rfl, Nat.zero_le _⟩, fun c j hc => absurd hc (Nat.not_lt_zero _)⟩, ⟨fun k _ => rfl, fun c _ => ⟨rfl, ?_⟩⟩, ⟨0, rfl, by decide, Or.inl rfl, fun q => absurd q (by decide)⟩, ⟨?_, rfl, fun i _ => ⟨rfl, rfl, rfl⟩, fun i hi => absurd hi (Nat.not_lt_zero _), fun i j _ hj => absurd hj (Nat.not_lt_zero _), fun q => absurd rfl q⟩, fun k hk => ⟨Or.inl ?_, fun i _ => ?_⟩⟩
  · exact Or.inl rfl
  · exact ⟨by decide, rfl, fun i hi => absurd hi (Nat.not_lt_zero _)⟩
  · rcases (show k = 0 ∨ k = 1 ∨ k = 2 ∨ k = 3 by omega) with rfl | rfl | rfl | rfl <;> exact ⟨rfl, by decide⟩
  · rcases (show k = 0 ∨ k = 1 ∨ k = 2 ∨ k = 3 by omega) with rfl | rfl | rfl | rfl <;> rfl
def EB (b M : Nat) (xs : Nat → Int32) (sz : Nat) : EXT := fun s args => args = #[.ref b] ∧ va_X b M xs s s.heap ∧ b < s.heap.size ∧ s.heap.size = sz
def ZB : CZT := fun below args s => lw_Z below args s
theorem cw_law {b M sz : Nat} {xs : Nat → Int32} {dC : Nat → ClassId} {dI : Nat → Nat → Nat} {cI cZ cS : ClassId} {ad : Nat → Nat} {x0 m0 : Nat} (hx : ad 0 = x0) (hm : ad 28 = m0) (hb : ad 99 = b) (k : SW jL_law (EL M xs) ZL 16 [some (.ref 99), some (.ref 0), some (.ref 28), none] [] hI0) : CW jL_law (EB b M xs sz) (dC, dI, cI, cZ, cS, fun q => sz ≤ q) ZB 43 2292 16 [some (.ref b), some (.ref x0), some (.ref m0), none] [] (wW cI cZ cS ad hI0) := by
  intro p l e s m args below meth c F H locs ls hP hD hS hl
  obtain ⟨F1, F2, F3, F4, F5, F6, F7, F8, F9, -, -, e1, e2, e3, e4⟩ := F
  subst hx
  subst hm
  subst hb
  refine va_forget (fun q hq => by rw [e4]; exact hS.2.2 q hq) ?_
  refine k p l e s m args below meth c dC dI cI cZ cS ad ⟨F1, F2, F3, F4, F5, F6, F7.1, F8, F9, e1, e2, e3, fun i hi => ?_⟩ H [] ls hP (wW_D hD) ⟨hS.1, fun q h1 _ => hS.2.1 q h1 (fun w => ?_), fun q hq => absurd hq List.not_mem_nil⟩ ⟨hl.1, hl.2.1, fun i v hi => ?_⟩
  · rw [e4]
    exact hD.2 i _ (wW_get hi)
  · have w : sz ≤ q := w
    omega
  · match i, hi with
    | 0, hi => cases hi; exact hl.2.2 0 (.ref (ad 99)) rfl
    | 1, hi => cases hi; exact hl.2.2 1 (.ref (ad 0)) rfl
    | 2, hi => cases hi; exact hl.2.2 2 (.ref (ad 28)) rfl
    | 3, hi => cases hi
    | i + 4, hi => simp at hi
theorem nsT_in : ∀ q ∈ nsT, nsC q ∈ lw_tbl := by decide +kernel
theorem nsM_in : ∀ q ∈ nsM, nsMC q ∈ lw_tbl := by decide +kernel
theorem ao_in : Cond.arrayOver (.object RX2) ∈ lw_tbl := by decide +kernel
theorem inst_in : ∀ w ∈ [Cond.instantiable RX0 6, .instantiable RX1 12, .instantiable RX2 3, .instantiable RX3 11, .instantiable RX4 4, .instantiable RX5 19], w ∈ ws0 := by decide +kernel
theorem l_known {s : State} {args : Array Value} (hts : ∀ w ∈ lw_tbl, w.before args s = true) : ∃ (dC : Nat → ClassId) (dI : Nat → Nat → Nat) (cI cZ cS : ClassId), va_K (dC, dI) clsX (tysX cI cZ cS) s ∧ XN s := by
  have hts0 : ∀ w ∈ ws0, w.before args s = true := fun w hw => hts w (ws0_tbl hw)
  obtain ⟨c0, iS0, h0⟩ := u_known (C := RX0) (T := TX0) (N := 6) (n := 6) hts0 lay0 (hts0 _ (inst_in _ (by simp)))
  obtain ⟨c1, iS1, h1⟩ := u_known (C := RX1) (T := TX1) (N := 12) (n := 12) hts0 lay1 (hts0 _ (inst_in _ (by simp)))
  obtain ⟨c2, iS2, h2⟩ := u_known (C := RX2) (T := TX2) (N := 3) (n := 3) hts0 lay2 (hts0 _ (inst_in _ (by simp)))
  obtain ⟨c3, iS3, h3⟩ := u_known (C := RX3) (T := TX3) (N := 11) (n := 11) hts0 lay3 (hts0 _ (inst_in _ (by simp)))
  obtain ⟨c4, iS4, h4⟩ := u_known (C := RX4) (T := TX4) (N := 4) (n := 4) hts0 lay4 (hts0 _ (inst_in _ (by simp)))
  obtain ⟨c5, iS5, h5⟩ := u_known (C := RX5) (T := TX5) (N := 19) (n := 19) hts0 lay5 (hts0 _ (inst_in _ (by simp)))
  obtain ⟨cI, kI, pI, i1, i2, i3⟩ := Cond.arrayClass_spec (hts0 _ ws0_ar.1)
  obtain ⟨cZ, kZ, pZ, z1, z2, z3⟩ := Cond.arrayClass_spec (hts0 _ ws0_ar.2)
  obtain ⟨pS, cS, kS, s1, s2, s3, s4, s5⟩ := Cond.arrayOver_spec (hts _ ao_in)
  refine ⟨fun k => [c0, c1, c2, c3, c4, c5].getD k c0, fun k => [iS0, iS1, iS2, iS3, iS4, iS5].getD k iS0, cI, cZ, cS, ⟨fun k q hq => ?_, fun k q hq => ?_⟩, fun q hq => va_Nw.of rfl (hts _ (nsT_in q hq)), va_AO.of (hts _ ao_in), fun q hq => va_Nw.of rfl (hts _ (nsM_in q hq))⟩
  · match k, hq with
    | 0, hq => cases hq; exact h0
    | 1, hq => cases hq; exact h1
    | 2, hq => cases hq; exact h2
    | 3, hq => cases hq; exact h3
    | 4, hq => cases hq; exact h4
    | 5, hq => cases hq; exact h5
    | k + 6, hq => simp [clsX] at hq
  · match k, hq with
    | 0, hq => cases hq; exact ⟨fun n z => ⟨fun k h => (by cases h), kI, i2, pI, i3⟩, i1⟩
    | 1, hq => cases hq; exact ⟨fun n z => ⟨fun k h => (by cases h), kZ, z2, pZ, z3⟩, z1⟩
    | 2, hq => cases hq; exact ⟨fun n z => ⟨fun k h => (by cases h), kS, s3, pS, s4⟩, kS, pS, s3, s4, s1, s5⟩
    | k + 3, hq => simp [tysX] at hq
