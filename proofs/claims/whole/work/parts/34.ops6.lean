/-! calls: parted, part -/
def AgC (h g : Hp) : Prop := (∀ k, k ≠ 8 → k ≠ 9 → k ≠ 10 → k ≠ 11 → k ≠ 12 → k ≠ 28 → k ≠ 33 → k ≠ 34 → k ≠ 38 → k ≠ 39 → g k = h k) ∧ ∀ i, i ≠ 8 → i ≠ 15 → g 28 i = h 28 i
theorem AgC.c {h g : Hp} (a : AgC h g) {k : Nat} (hk : k ≠ 8 ∧ k ≠ 9 ∧ k ≠ 10 ∧ k ≠ 11 ∧ k ≠ 12 ∧ k ≠ 28 ∧ k ≠ 33 ∧ k ≠ 34 ∧ k ≠ 38 ∧ k ≠ 39) : g k = h k := a.1 k hk.1 hk.2.1 hk.2.2.1 hk.2.2.2.1 hk.2.2.2.2.1 hk.2.2.2.2.2.1 hk.2.2.2.2.2.2.1 hk.2.2.2.2.2.2.2.1 hk.2.2.2.2.2.2.2.2.1 hk.2.2.2.2.2.2.2.2.2
theorem TM_agc {h g : Hp} {n z : Nat} {sm : Nat → Nat} (a : AgC h g) (T : TM h n z sm) : TM g n z sm := TM_keep T (a.2 0 (by decide) (by decide)) (a.2 1 (by decide) (by decide)) (a.c (k := 29) (by decide))
theorem I0_agc {h g : Hp} {n z : Nat} {sm lf : Nat → Nat} {r K : Nat} (I : I0 h n z sm lf r K) (a : AgC h g) (hC : CK g n z sm lf (K + 1)) : I0 g n z sm lf r (K + 1) := by
  obtain ⟨i1, iT, iM, iW, iS, iC, iR, iH⟩ := I
  refine ⟨i1, TX_keep iT (a.c (by decide)) (a.c (by decide)) (a.c (by decide)) (a.c (by decide)), TM_agc a iM, ?_, ?_, hC, RI_eq (fun k k1 k2 => a.c (by omega)) (fun k k1 k2 => a.c (by omega)) (a.2 9 (by decide) (by decide)) iR, SH_eq (fun k k1 k2 => a.c (by omega)) (fun k k1 k2 => a.c (by omega)) iH⟩
  · unfold WI at iW ⊢
    rw [a.c (k := 4) (by decide), a.c (k := 31) (by decide)]
    exact iW
  · unfold SP at iS ⊢
    rw [a.c (k := 5) (by decide), a.c (k := 3) (by decide), a.c (k := 32) (by decide), a.c (k := 30) (by decide)]
    exact iS
abbrev SR (n z : Nat) (sm lf : Nat → Nat) : Int32 × Nat × (Nat → Nat) := srch (2 ^ n) (fb_sm lf 8) z sm 40001 0 0 0 lf (fun _ => 0)
theorem srch_out {N T z : Nat} {sm : Nat → Nat} : ∀ (f p x tr : Nat) (lf rw : Nat → Nat), (srch N T z sm f p x tr lf rw).1 = 1 ∨ (srch N T z sm f p x tr lf rw).1 = 0 ∨ (srch N T z sm f p x tr lf rw).1 = -6
  | 0, _, _, _, _, _ => Or.inr (Or.inr rfl)
  | f + 1, p, x, tr, lf, rw => by
    simp only [srch]
    split
    · exact Or.inl rfl
    · split
      · split
        · exact Or.inr (Or.inl rfl)
        · exact srch_out f _ _ _ _ _
      · split
        · exact Or.inr (Or.inr rfl)
        · split
          · exact srch_out f _ _ _ _ _
          · exact srch_out f _ _ _ _ _
theorem fb_sm_z {f : Nat → Nat} {k : Nat} : ∀ {n : Nat}, k ≤ n → (∀ j, k ≤ j → j < n → f j = 0) → fb_sm f n = fb_sm f k
  | 0, h1, _ => by rw [show k = 0 by omega]
  | n + 1, h1, h2 => by
    rcases Nat.lt_or_ge n k with q | q
    · rw [show k = n + 1 by omega]
    · simp only [fb_sm]
      rw [h2 n q (by omega), fb_sm_z q (fun j a b => h2 j a (by omega)), Nat.add_zero]
theorem tot_le {h : Hp} {z : Nat} {sm lf : Nat → Nat} (W : WI h z sm lf) : ∀ m, m ≤ 64 → fb_sm lf m ≤ 1000 * m
  | 0, _ => Nat.le_refl _
  | m + 1, hm => by
    have := tot_le W m (by omega)
    have := (W.1 m (by omega)).2.2
    simp only [fb_sm]
    omega
theorem totX {h : Hp} {n z : Nat} {sm lf : Nat → Nat} (T : TX h n z sm) (W : WI h z sm lf) (hz : 0 < z) : sI (fun j => h 4 (8 * 0 + j)) (2 ^ pop (sm 0)) = nI (fb_sm lf 8) := by
  have hp := pow3 (T.2.1 0 hz).2.2.2
  rw [wS_nat (z := z) (sm := sm) (fun k hk => (W.1 k hk).1) (c := 0) (by omega) hp]
  congr 1
  rw [fb_sm_cong (g := lf) (fun k hk => by rw [Nat.mul_zero, Nat.zero_add])]
  exact (fb_sm_z (n := 8) hp (fun j h1 h2 => by have := W.2 0 j hz h1 h2; rw [Nat.mul_zero, Nat.zero_add] at this; exact this)).symm
theorem totM {h g : Hp} {z : Nat} {sm lf : Nat → Nat} (W : WI h z sm lf) (e : g 31 = h 31) : sI (fun j => g 31 (8 * 0 + j)) 8 = nI (fb_sm lf 8) := by
  rw [e, wS_nat (z := z) (sm := sm) (fun k hk => (W.1 k hk).2.1) (c := 0) (by omega) (Nat.le_refl 8)]
  first | (congr 1; done) | (congr 1; exact fb_sm_cong (fun k hk => by rw [Nat.mul_zero, Nat.zero_add]))
abbrev ptB (u : Nat → Nat → Bool) (z : Nat) (lf : Nat → Nat) : Bool := decide (0 < z) && (decide (fq u z = -4) && rg 1 24 (nI (fb_sm lf 8)))
section OPS
variable {h : Hp} {n z : Nat} {sm lf : Nat → Nat} {Q : Option Value → Hp → Prop}
theorem c_canBeSearched (T : TX h n z sm) (W : WI h z sm lf) : Ctr jX4_canBeSearched [.ref 0] h (fun v g => v = some (.int (bI (ptB (uX h sm) z lf))) ∧ Sam 8 h g) := by
  have hz8 := T.1.2.1
  refine ctr_start (by decide) (Nat.le_of_ble_eq_true rfl) rfl rfl ?_
  show SW jX4_canBeSearched E0 _ 0 [some (.ref 0), none] [] _
  refine sw_aload_n dX4_canBeSearched_0 rfl ?_
  refine sw_getR dX4_canBeSearched_1 flX4_10 ⟨by decide, _, rfl, rfl⟩ ?_
  refine sw_getNI dX4_canBeSearched_4 fnX4_59 ⟨by decide, _, rfl, rfl⟩ ?_
  rw [T.1.2.2.2]
  refine sw_if_eq (tgt := 22) dX4_canBeSearched_7 (by decide) (fun hc => ?_) (fun hc => ?_)
  · rw [z0_iff hz8] at hc
    refine sw_iconst (v := nI 0) dX4_canBeSearched_22 (by decide) ?_
    refine sw_zret dX4_canBeSearched_23 rfl rfl rfl rfl ?_
    exact ⟨by unfold ptB; rw [decide_eq_false (by omega), Bool.false_and]; rfl, Sam.rf⟩
  · rw [z0_iff hz8] at hc
    have hz : 0 < z := by omega
    clear hc
    refine sw_aload_n dX4_canBeSearched_10 rfl ?_
    refine sw_getR dX4_canBeSearched_11 flX4_10 ⟨by decide, _, rfl, rfl⟩ ?_
    refine sw_callV (i := 0) (c_firstQuarrel T) dX4_canBeSearched_14 lkX4_105 (by decide) ⟨by decide, _, rfl, rfl⟩ rfl rfl rfl (Nat.le_of_ble_eq_true rfl) (fun v h1 hq => ?_)
    obtain ⟨rfl, hS⟩ := hq
    rename Hp => g
    have T' := hS.T (by decide) T
    show SW jX4_canBeSearched E0 _ 17 _ [.int (fq (uX h sm) z)] _
    refine sw_bipush (v := (-4)) dX4_canBeSearched_17 (by decide) ?_
    refine sw_icmp_eq (tgt := 24) dX4_canBeSearched_19 (by decide) (fun hc => ?_) (fun hc => ?_)
    · have hf := hc
      clear hc
      refine sw_aload_n dX4_canBeSearched_24 rfl ?_
      refine sw_getR dX4_canBeSearched_25 flX4_10 ⟨by decide, _, rfl, rfl⟩ ?_
      refine sw_iconst (v := nI 0) dX4_canBeSearched_28 (by decide) ?_
      refine sw_cvi (i := 0) (c_weightSum T' hz) dX4_canBeSearched_29 lkX4_75 (by decide) ⟨by decide, _, rfl, rfl⟩ rfl rfl rfl (Nat.le_of_ble_eq_true rfl) ?_
      rw [hS 4 (by decide), totX T W hz]
      refine sw_istore_n dX4_canBeSearched_32 (by decide) rfl ?_
      refine sw_iload_n dX4_canBeSearched_33 rfl ?_
      refine sw_iconst (v := nI 1) dX4_canBeSearched_34 (by decide) ?_
      refine sw_icmp_lt (tgt := 48) dX4_canBeSearched_35 (by decide) (fun hc => ?_) (fun hc => ?_)
      · rw [i_lt, show (nI 1).toInt = 1 by decide] at hc
        refine sw_iconst (v := nI 0) dX4_canBeSearched_48 (by decide) ?_
        refine sw_zret dX4_canBeSearched_49 rfl rfl rfl rfl ?_
        exact ⟨by unfold ptB; rw [rg_f1 (by omega), Bool.and_false, Bool.and_false]; rfl, hS⟩
      · rw [i_lt, show (nI 1).toInt = 1 by decide] at hc
        have h1 := hc
        clear hc
        refine sw_iload_n dX4_canBeSearched_38 rfl ?_
        refine sw_bipush (v := nI 24) dX4_canBeSearched_39 (by decide) ?_
        refine sw_icmp_gt (tgt := 48) dX4_canBeSearched_41 (by decide) (fun hc => ?_) (fun hc => ?_)
        · rw [i_lt, show (nI 24).toInt = 24 by decide] at hc
          refine sw_iconst (v := nI 0) dX4_canBeSearched_48 (by decide) ?_
          refine sw_zret dX4_canBeSearched_49 rfl rfl rfl rfl ?_
          exact ⟨by unfold ptB; rw [rg_f2 (by omega), Bool.and_false, Bool.and_false]; rfl, hS⟩
        · rw [i_lt, show (nI 24).toInt = 24 by decide] at hc
          refine sw_iconst (v := nI 1) dX4_canBeSearched_44 (by decide) ?_
          refine sw_goto (tgt := 49) dX4_canBeSearched_45 (by decide) ?_
          refine sw_zret dX4_canBeSearched_49 rfl rfl rfl rfl ?_
          exact ⟨by unfold ptB; rw [rg_t (by omega) (by omega), decide_eq_true hz, decide_eq_true hf]; rfl, hS⟩
    · refine sw_iconst (v := nI 0) dX4_canBeSearched_22 (by decide) ?_
      refine sw_zret dX4_canBeSearched_23 rfl rfl rfl rfl ?_
      exact ⟨by unfold ptB; rw [decide_eq_false hc, Bool.false_and, Bool.and_false]; rfl, hS⟩
theorem pt_T {u : Nat → Nat → Bool} {h : Hp} (W : WI h z sm lf) (hp : ptB u z lf = true) : 0 < z ∧ 1 ≤ fb_sm lf 8 ∧ fb_sm lf 8 ≤ 24 := by
  unfold ptB at hp
  simp only [Bool.and_eq_true, decide_eq_true_eq] at hp
  have := of_decide_eq_true hp.2.2
  have h2 := tot_le W 8 (by omega)
  rw [t_N (by omega)] at this
  exact ⟨hp.1, by omega, by omega⟩
/-- behind the class's search -/
def afX (h : Hp) (n z : Nat) (sm lf : Nat → Nat) (g : Hp) : Prop := (∀ k, k ≠ 8 → k ≠ 10 → k ≠ 11 → k ≠ 12 → g k = h k) ∧ g 10 5 = h 1 2 ∧ kept g n z sm (fb_sm lf 8) lf
theorem x_parted (T : TX h n z sm) (W : WI h z sm lf) (hk : h 10 5 = h 1 2 → kept h n z sm (fb_sm lf 8) lf) (h0 : ptB (uX h sm) z lf = false → ∀ g, Sam 8 h g → Q (some (.int (-2))) g) (k1 : ptB (uX h sm) z lf = true → ∀ g, afX h n z sm lf g → Q (some (.int (SR n z sm lf).1)) g) : Ctr jX4_parted [.ref 0] h Q := by
  refine ctr_start (by decide) (Nat.le_of_ble_eq_true rfl) rfl rfl ?_
  show SW jX4_parted E0 _ 0 [some (.ref 0)] [] _
  refine sw_aload_n dX4_parted_0 rfl ?_
  refine sw_callV (i := 0) (c_canBeSearched T W) dX4_parted_1 lkX4_127 (by decide) ⟨by decide, _, rfl, rfl⟩ rfl rfl rfl (Nat.le_of_ble_eq_true rfl) (fun v h1 hq => ?_)
  obtain ⟨rfl, hS⟩ := hq
  rename Hp => g
  show SW jX4_parted E0 _ 4 _ [.int (bI (ptB (uX h sm) z lf))] _
  refine sw_if_ne (tgt := 10) dX4_parted_4 (by decide) (fun hc => ?_) (fun hc => ?_)
  · have hp := bI_1 hc
    clear hc
    obtain ⟨hz, t1, t2⟩ := pt_T W hp
    have T' := hS.T (by decide) T
    have W' : ∀ k, k < 64 → g 4 k = nI (lf k) := fun k hk => by rw [hS 4 (by decide)]; exact (W.1 k hk).1
    refine sw_aload_n dX4_parted_10 rfl ?_
    refine sw_getR dX4_parted_11 flX4_19 ⟨by decide, _, rfl, rfl⟩ ?_
    refine sw_aload_n dX4_parted_14 rfl ?_
    refine sw_getR dX4_parted_15 flX4_10 ⟨by decide, _, rfl, rfl⟩ ?_
    refine sw_callV (i := 0) (c_search0 T' hz (T := fb_sm lf 8) t2 (by rw [hS 4 (by decide)]; exact totX T W hz) W' (fun k hk => (W.1 k hk).2.2) (fun q => kept_eq (hS 10 (by decide)) (hS 11 (by decide)) (hk (by rw [hS 10 (by decide), hS 1 (by decide)] at q; exact q)))) dX4_parted_18 lkX4_131 (by decide) ⟨by decide, _, rfl, rfl⟩ rfl rfl rfl (Nat.le_of_ble_eq_true rfl) (fun v h1 hq => ?_)
    obtain ⟨rfl, q1, q2, q3⟩ := hq
    rename Hp => f
    have hQ := k1 hp f ⟨fun k k8 k10 k11 k12 => by rw [q1 k k10 k11 k12, hS k k8], by rw [q2, hS 1 (by decide)], q3⟩
    refine sw_aload_n dX4_parted_21 rfl ?_
    refine sw_getR dX4_parted_22 flX4_19 ⟨by decide, _, rfl, rfl⟩ ?_
    refine sw_getNI dX4_parted_25 fnX4_135 ⟨by decide, _, rfl, rfl⟩ ?_
    rw [q3.2.1]
    refine sw_iret dX4_parted_28 rfl rfl rfl ?_
    exact hQ
  · have hp := bI_0 hc
    refine sw_bipush (v := (-2)) dX4_parted_7 (by decide) ?_
    refine sw_iret dX4_parted_9 rfl rfl rfl ?_
    exact h0 hp g hS
theorem m_parted (T : TM h n z sm) {g0 : Hp} (W : WI g0 z sm lf) (e : h 31 = g0 31) (h0 : ptB (uM h n sm) z lf = false → Q (some (.int (-2))) h) (k1 : ptB (uM h n sm) z lf = true → ∀ g, frM h (fb_sm lf 8) (SR n z sm lf) (some (.int (SR n z sm lf).1)) g → Q (some (.int (SR n z sm lf).1)) g) : Ctr jX5_parted [.ref 28] h Q := by
  refine ctr_start (by decide) (Nat.le_of_ble_eq_true rfl) rfl rfl ?_
  show SW jX5_parted E0 _ 0 [some (.ref 28)] [] _
  refine sw_aload_n dX5_parted_0 rfl ?_
  refine sw_cvi (i := 0) (c_isPartable T) dX5_parted_1 lkX5_133 (by decide) ⟨by decide, _, rfl, rfl⟩ rfl rfl rfl (Nat.le_of_ble_eq_true rfl) ?_
  rw [totM W e]
  refine sw_if_eq (tgt := 14) dX5_parted_4 (by decide) (fun hc => ?_) (fun hc => ?_)
  · refine sw_bipush (v := (-2)) dX5_parted_14 (by decide) ?_
    refine sw_iret dX5_parted_16 rfl rfl rfl ?_
    exact h0 (bI_0 hc)
  · have hp := bI_1 hc
    clear hc
    obtain ⟨hz, t1, t2⟩ := pt_T W hp
    refine sw_aload_n dX5_parted_7 rfl ?_
    refine sw_callV (i := 0) (c_searchM T t2 (totM W e) (fun k hk => by rw [e]; exact (W.1 k hk).2.1) (fun k hk => (W.1 k hk).2.2)) dX5_parted_8 lkX5_137 (by decide) ⟨by decide, _, rfl, rfl⟩ rfl rfl rfl (Nat.le_of_ble_eq_true rfl) (fun v h1 hq => ?_)
    rename Hp => f
    have hq2 := hq
    obtain ⟨rfl, -⟩ := hq
    have hQ := k1 hp f hq2
    refine sw_goto (tgt := 16) dX5_parted_11 (by decide) ?_
    refine sw_iret dX5_parted_16 rfl rfl rfl ?_
    exact hQ
theorem CK_af {h g : Hp} {K : Nat} (C : CK h n z sm lf K) (a : afX h n z sm lf g) : CK g n z sm lf (K + 1) := by
  obtain ⟨chg, c1, c2, c3, c4⟩ := C
  obtain ⟨a1, a2, a3⟩ := a
  exact ⟨chg, by rw [a1 1 (by decide) (by decide) (by decide) (by decide)]; exact c1, by omega, Or.inr ⟨chg, Nat.le_refl _, by rw [a2, c1]⟩, fun _ => a3⟩
theorem AgC.af {h g : Hp} (a : afX h n z sm lf g) : AgC h g := ⟨fun k k8 _ k10 k11 k12 _ _ _ _ _ => a.1 k k8 k10 k11 k12, fun i _ _ => by rw [a.1 28 (by decide) (by decide) (by decide) (by decide)]⟩
theorem AgC.fr {h g : Hp} {T : Nat} {S : Int32 × Nat × (Nat → Nat)} {v : Option Value} (a : frM h T S v g) : AgC h g := ⟨fun k _ _ _ _ _ k28 k33 k34 _ _ => a.2.1 k k28 k33 k34, fun i h8 _ => a.2.2.1 i h8⟩
theorem AgC.tr {h g f : Hp} (a : AgC h g) (b : AgC g f) : AgC h f := ⟨fun k k1 k2 k3 k4 k5 k6 k7 k8 k9 k10 => (b.1 k k1 k2 k3 k4 k5 k6 k7 k8 k9 k10).trans (a.1 k k1 k2 k3 k4 k5 k6 k7 k8 k9 k10), fun i h1 h2 => (b.2 i h1 h2).trans (a.2 i h1 h2)⟩
theorem CK_fr {g f : Hp} {K T : Nat} {S : Int32 × Nat × (Nat → Nat)} {v : Option Value} (C : CK g n z sm lf K) (a : frM g T S v f) : CK f n z sm lf K := by
  obtain ⟨chg, c1, c2, c3, c4⟩ := C
  have e1 := a.2.1 1 (by decide) (by decide) (by decide)
  have e10 := a.2.1 10 (by decide) (by decide) (by decide)
  have e11 := a.2.1 11 (by decide) (by decide) (by decide)
  refine ⟨chg, by rw [e1]; exact c1, c2, by rw [e10]; exact c3, fun q => ?_⟩
  rw [e1, e10] at q
  exact kept_eq e10 e11 (c4 q)
theorem b_parted : Both jX4_parted jX5_parted [] := by
  intro h K hK hI
  obtain ⟨n, z, sm, lf, r, I⟩ := hI
  have I' := I
  obtain ⟨i1, iT, iM, iW, iS, iC, iR, iH⟩ := I'
  have hkp : h 10 5 = h 1 2 → kept h n z sm (fb_sm lf 8) lf := by
    obtain ⟨chg, c1, c2, c3, c4⟩ := iC
    exact c4
  cases hp : ptB (uX h sm) z lf with
  | false =>
    refine ⟨-2, x_parted iT iW hkp (fun _ g hS => ⟨rfl, ?_⟩) (fun q => by rw [hp] at q; exact absurd q (by decide))⟩
    have a := Agr.s8 hS
    have e31 := a.c (k := 31) (by decide)
    have hpm : ptB (uM g n sm) z lf = false := by rw [← hp]; unfold ptB; rw [fqXM iT iW e31]
    exact m_parted (TM_agr a iM) iW e31 (fun _ => ⟨rfl, n, z, sm, lf, r, I0_agr I a⟩) (fun q => by rw [hpm] at q; exact absurd q (by decide))
  | true =>
    refine ⟨(SR n z sm lf).1, x_parted iT iW hkp (fun q => by rw [hp] at q; exact absurd q (by decide)) (fun _ g hA => ⟨rfl, ?_⟩)⟩
    have a := AgC.af hA
    have e31 := a.c (k := 31) (by decide)
    have hpm : ptB (uM g n sm) z lf = true := by rw [← hp]; unfold ptB; rw [fqXM iT iW e31]
    exact m_parted (TM_agc a iM) iW e31 (fun q => by rw [hpm] at q; exact absurd q (by decide)) (fun _ f hF => ⟨rfl, n, z, sm, lf, r, I0_agc I (a.tr (AgC.fr hF)) (CK_fr (CK_af iC hA) hF)⟩)
/-- what part answers -/
def partV (S : Int32 × Nat × (Nat → Nat)) (T : Nat) (i : Int32) : Int32 := if i = -4 then nI S.2.1 else if S.1 = -6 then -6 else if S.1 = 1 ∧ i < nI T then nI (S.2.2 i.toNatClampNeg) else -4
theorem x_part_bad {i : Int32} (h1 : i < 0) (h2 : ¬ i = -4) (hQ : Q (some (.int (-1))) h) : Ctr jX4_part [.ref 0, .int i] h Q := by
  refine ctr_start (by decide) (Nat.le_of_ble_eq_true rfl) rfl rfl ?_
  show SW jX4_part E0 _ 0 [some (.ref 0), some (.int i)] [] _
  refine sw_iload_n dX4_part_0 rfl ?_
  refine sw_if_ge (tgt := 12) dX4_part_1 (by decide) (fun hc => ?_) (fun hc => ?_)
  · exact absurd h1 (Int32.not_lt.mpr hc)
  · clear hc
    refine sw_iload_n dX4_part_4 rfl ?_
    refine sw_bipush (v := (-4)) dX4_part_5 (by decide) ?_
    refine sw_icmp_eq (tgt := 12) dX4_part_7 (by decide) (fun hc => ?_) (fun hc => ?_)
    · exact absurd hc h2
    · refine sw_iconst (v := (-1)) dX4_part_10 (by decide) ?_
      refine sw_iret dX4_part_11 rfl rfl rfl ?_
      exact hQ
theorem m_part_bad {i : Int32} (h1 : i < 0) (h2 : ¬ i = -4) (hQ : Q (some (.int (-1))) h) : Ctr jX5_part [.ref 28, .int i] h Q := by
  refine ctr_start (by decide) (Nat.le_of_ble_eq_true rfl) rfl rfl ?_
  show SW jX5_part E0 _ 0 [some (.ref 28), some (.int i), none, none] [] _
  refine sw_iload_n dX5_part_0 rfl ?_
  refine sw_if_ge (tgt := 12) dX5_part_1 (by decide) (fun hc => ?_) (fun hc => ?_)
  · exact absurd h1 (Int32.not_lt.mpr hc)
  · clear hc
    refine sw_iload_n dX5_part_4 rfl ?_
    refine sw_bipush (v := (-4)) dX5_part_5 (by decide) ?_
    refine sw_icmp_eq (tgt := 12) dX5_part_7 (by decide) (fun hc => ?_) (fun hc => ?_)
    · exact absurd hc h2
    · refine sw_iconst (v := (-1)) dX5_part_10 (by decide) ?_
      refine sw_iret dX5_part_11 rfl rfl rfl ?_
      exact hQ
theorem x_part {i : Int32} (hi : ¬ (i < 0 ∧ ¬ i = -4)) (T : TX h n z sm) (W : WI h z sm lf) (hk : h 10 5 = h 1 2 → kept h n z sm (fb_sm lf 8) lf) (h0 : ptB (uX h sm) z lf = false → ∀ g, Sam 8 h g → Q (some (.int (-2))) g) (k1 : ptB (uX h sm) z lf = true → ∀ g, afX h n z sm lf g → Q (some (.int (partV (SR n z sm lf) (fb_sm lf 8) i))) g) : Ctr jX4_part [.ref 0, .int i] h Q := by
  have fin : SW jX4_part E0 (Zm Q) 12 [some (.ref 0), some (.int i)] [] h := by
    refine sw_aload_n dX4_part_12 rfl ?_
    refine sw_callV (i := 0) (c_canBeSearched T W) dX4_part_13 lkX4_127 (by decide) ⟨by decide, _, rfl, rfl⟩ rfl rfl rfl (Nat.le_of_ble_eq_true rfl) (fun v h1 hq => ?_)
    obtain ⟨rfl, hS⟩ := hq
    rename Hp => g
    show SW jX4_part E0 _ 16 _ [.int (bI (ptB (uX h sm) z lf))] _
    refine sw_if_ne (tgt := 22) dX4_part_16 (by decide) (fun hc => ?_) (fun hc => ?_)
    · have hp := bI_1 hc
      clear hc
      obtain ⟨hz, t1, t2⟩ := pt_T W hp
      have T' := hS.T (by decide) T
      have W' : ∀ k, k < 64 → g 4 k = nI (lf k) := fun k hk => by rw [hS 4 (by decide)]; exact (W.1 k hk).1
      refine sw_aload_n dX4_part_22 rfl ?_
      refine sw_getR dX4_part_23 flX4_19 ⟨by decide, _, rfl, rfl⟩ ?_
      refine sw_aload_n dX4_part_26 rfl ?_
      refine sw_getR dX4_part_27 flX4_10 ⟨by decide, _, rfl, rfl⟩ ?_
      refine sw_callV (i := 0) (c_search0 T' hz (T := fb_sm lf 8) t2 (by rw [hS 4 (by decide)]; exact totX T W hz) W' (fun k hk => (W.1 k hk).2.2) (fun q => kept_eq (hS 10 (by decide)) (hS 11 (by decide)) (hk (by rw [hS 10 (by decide), hS 1 (by decide)] at q; exact q)))) dX4_part_30 lkX4_131 (by decide) ⟨by decide, _, rfl, rfl⟩ rfl rfl rfl (Nat.le_of_ble_eq_true rfl) (fun v h1 hq => ?_)
      obtain ⟨rfl, q1, q2, q3⟩ := hq
      rename Hp => f
      have hQ := k1 hp f ⟨fun k k8 k10 k11 k12 => by rw [q1 k k10 k11 k12, hS k k8], by rw [q2, hS 1 (by decide)], q3⟩
      unfold partV at hQ
      refine sw_iload_n dX4_part_33 rfl ?_
      refine sw_bipush (v := (-4)) dX4_part_34 (by decide) ?_
      refine sw_icmp_ne (tgt := 47) dX4_part_36 (by decide) (fun hc => ?_) (fun hc => ?_)
      · rw [if_neg hc] at hQ
        have hi4 := hc
        clear hc
        refine sw_aload_n dX4_part_47 rfl ?_
        refine sw_getR dX4_part_48 flX4_19 ⟨by decide, _, rfl, rfl⟩ ?_
        refine sw_getNI dX4_part_51 fnX4_135 ⟨by decide, _, rfl, rfl⟩ ?_
        rw [q3.2.1]
        refine sw_bipush (v := (-6)) dX4_part_54 (by decide) ?_
        refine sw_icmp_ne (tgt := 62) dX4_part_56 (by decide) (fun hc => ?_) (fun hc => ?_)
        · rw [if_neg hc] at hQ
          clear hc
          refine sw_aload_n dX4_part_62 rfl ?_
          refine sw_getR dX4_part_63 flX4_19 ⟨by decide, _, rfl, rfl⟩ ?_
          refine sw_getNI dX4_part_66 fnX4_135 ⟨by decide, _, rfl, rfl⟩ ?_
          rw [q3.2.1]
          refine sw_iconst (v := nI 1) dX4_part_69 (by decide) ?_
          refine sw_icmp_ne (tgt := 96) dX4_part_70 (by decide) (fun hc => ?_) (fun hc => ?_)
          · rw [if_neg (fun q => hc q.1)] at hQ
            refine sw_bipush (v := (-4)) dX4_part_96 (by decide) ?_
            refine sw_iret dX4_part_98 rfl rfl rfl ?_
            exact hQ
          · have h1 := hc
            clear hc
            refine sw_iload_n dX4_part_73 rfl ?_
            refine sw_aload_n dX4_part_74 rfl ?_
            refine sw_getR dX4_part_75 flX4_19 ⟨by decide, _, rfl, rfl⟩ ?_
            refine sw_getNI dX4_part_78 fnX4_141 ⟨by decide, _, rfl, rfl⟩ ?_
            rw [q3.1]
            refine sw_icmp_ge (tgt := 96) dX4_part_81 (by decide) (fun hc => ?_) (fun hc => ?_)
            · rw [if_neg (fun q => absurd q.2 (Int32.not_lt.mpr hc))] at hQ
              refine sw_bipush (v := (-4)) dX4_part_96 (by decide) ?_
              refine sw_iret dX4_part_98 rfl rfl rfl ?_
              exact hQ
            · have hlt := Int32.not_le.mp hc
              rw [if_pos ⟨h1, hlt⟩] at hQ
              have hge : ¬ i < 0 := fun q => hi ⟨q, hi4⟩
              obtain ⟨k, hk, rfl⟩ := nI_of hge
              rw [nI_ltI (by omega) (by omega)] at hlt
              rw [nI_clamp hk] at hQ
              refine sw_aload_n dX4_part_84 rfl ?_
              refine sw_getR dX4_part_85 flX4_19 ⟨by decide, _, rfl, rfl⟩ ?_
              refine sw_getNR dX4_part_88 fnX4_144 ⟨by decide, _, rfl, rfl⟩ ?_
              refine sw_iload_n dX4_part_91 rfl ?_
              refine sw_iald dX4_part_92 rfl (by simp only [plA]; omega) ?_
              rw [q3.2.2.2 h1 k hlt]
              refine sw_goto (tgt := 98) dX4_part_93 (by decide) ?_
              refine sw_iret dX4_part_98 rfl rfl rfl ?_
              exact hQ
        · rw [if_pos hc] at hQ
          refine sw_bipush (v := (-6)) dX4_part_59 (by decide) ?_
          refine sw_iret dX4_part_61 rfl rfl rfl ?_
          exact hQ
      · rw [if_pos hc] at hQ
        refine sw_aload_n dX4_part_39 rfl ?_
        refine sw_getR dX4_part_40 flX4_19 ⟨by decide, _, rfl, rfl⟩ ?_
        refine sw_getNI dX4_part_43 fnX4_138 ⟨by decide, _, rfl, rfl⟩ ?_
        rw [q3.2.2.1]
        refine sw_iret dX4_part_46 rfl rfl rfl ?_
        exact hQ
    · have hp := bI_0 hc
      refine sw_bipush (v := (-2)) dX4_part_19 (by decide) ?_
      refine sw_iret dX4_part_21 rfl rfl rfl ?_
      exact h0 hp g hS
  refine ctr_start (by decide) (Nat.le_of_ble_eq_true rfl) rfl rfl ?_
  show SW jX4_part E0 _ 0 [some (.ref 0), some (.int i)] [] _
  refine sw_iload_n dX4_part_0 rfl ?_
  refine sw_if_ge (tgt := 12) dX4_part_1 (by decide) (fun hc => ?_) (fun hc => ?_)
  · exact fin
  · have h1 := Int32.not_le.mp hc
    clear hc
    refine sw_iload_n dX4_part_4 rfl ?_
    refine sw_bipush (v := (-4)) dX4_part_5 (by decide) ?_
    refine sw_icmp_eq (tgt := 12) dX4_part_7 (by decide) (fun hc => ?_) (fun hc => ?_)
    · exact fin
    · exact absurd ⟨h1, hc⟩ hi
theorem m_part {i : Int32} (hi : ¬ (i < 0 ∧ ¬ i = -4)) (T : TM h n z sm) {g0 : Hp} (W : WI g0 z sm lf) (e : h 31 = g0 31) (h0 : ptB (uM h n sm) z lf = false → Q (some (.int (-2))) h) (k1 : ptB (uM h n sm) z lf = true → ∀ g, frM h (fb_sm lf 8) (SR n z sm lf) (some (.int (SR n z sm lf).1)) g → Q (some (.int (partV (SR n z sm lf) (fb_sm lf 8) i))) g) : Ctr jX5_part [.ref 28, .int i] h Q := by
  have fin : SW jX5_part E0 (Zm Q) 12 [some (.ref 28), some (.int i), none, none] [] h := by
    refine sw_aload_n dX5_part_12 rfl ?_
    refine sw_cvi (i := 0) (c_isPartable T) dX5_part_13 lkX5_133 (by decide) ⟨by decide, _, rfl, rfl⟩ rfl rfl rfl (Nat.le_of_ble_eq_true rfl) ?_
    rw [totM W e]
    refine sw_if_ne (tgt := 22) dX5_part_16 (by decide) (fun hc => ?_) (fun hc => ?_)
    · have hp := bI_1 hc
      clear hc
      obtain ⟨hz, t1, t2⟩ := pt_T W hp
      refine sw_aload_n dX5_part_22 rfl ?_
      refine sw_iconst (v := nI 0) dX5_part_23 (by decide) ?_
      refine sw_cvi (i := 0) (c_sumOf (c := 0) (by omega)) dX5_part_24 lkX5_75 (by decide) ⟨by decide, _, rfl, rfl⟩ rfl rfl rfl (Nat.le_of_ble_eq_true rfl) ?_
      rw [totM W e]
      refine sw_istore_n dX5_part_27 (by decide) rfl ?_
      refine sw_aload_n dX5_part_28 rfl ?_
      refine sw_callV (i := 0) (c_searchM T t2 (totM W e) (fun k hk => by rw [e]; exact (W.1 k hk).2.1) (fun k hk => (W.1 k hk).2.2)) dX5_part_29 lkX5_137 (by decide) ⟨by decide, _, rfl, rfl⟩ rfl rfl rfl (Nat.le_of_ble_eq_true rfl) (fun v h1 hq => ?_)
      rename Hp => f
      have hq2 := hq
      obtain ⟨rfl, f1, f2, f3, f4⟩ := hq
      have hQ := k1 hp f hq2
      unfold partV at hQ
      show SW jX5_part E0 _ 32 _ [.int (SR n z sm lf).1] _
      refine sw_istore_n dX5_part_32 (by decide) rfl ?_
      refine sw_iload_n dX5_part_33 rfl ?_
      refine sw_bipush (v := (-4)) dX5_part_34 (by decide) ?_
      refine sw_icmp_ne (tgt := 44) dX5_part_36 (by decide) (fun hc => ?_) (fun hc => ?_)
      · rw [if_neg hc] at hQ
        have hi4 := hc
        clear hc
        refine sw_iload_n dX5_part_44 rfl ?_
        refine sw_bipush (v := (-6)) dX5_part_45 (by decide) ?_
        refine sw_icmp_ne (tgt := 55) dX5_part_47 (by decide) (fun hc => ?_) (fun hc => ?_)
        · rw [if_neg hc] at hQ
          have h6 := hc
          clear hc
          refine sw_iload_n dX5_part_55 rfl ?_
          refine sw_if_eq (tgt := 64) dX5_part_56 (by decide) (fun hc => ?_) (fun hc => ?_)
          · rw [if_neg (fun q => by rw [q.1] at hc; exact absurd hc (by decide))] at hQ
            refine sw_bipush (v := (-4)) dX5_part_64 (by decide) ?_
            refine sw_goto (tgt := 75) dX5_part_66 (by decide) ?_
            refine sw_iret dX5_part_75 rfl rfl rfl ?_
            exact hQ
          · have h1 : (SR n z sm lf).1 = 1 := by
              rcases srch_out (N := 2 ^ n) (T := fb_sm lf 8) (z := z) (sm := sm) 40001 0 0 0 lf (fun _ => 0) with q | q | q
              · exact q
              · exact absurd q hc
              · exact absurd q h6
            clear hc
            refine sw_iload_n dX5_part_59 rfl ?_
            refine sw_iload_n dX5_part_60 rfl ?_
            refine sw_icmp_lt (tgt := 69) dX5_part_61 (by decide) (fun hc => ?_) (fun hc => ?_)
            · rw [if_pos ⟨h1, hc⟩] at hQ
              have hge : ¬ i < 0 := fun q => hi ⟨q, hi4⟩
              obtain ⟨k, hk, rfl⟩ := nI_of hge
              rw [nI_ltI (by omega) (by omega)] at hc
              rw [nI_clamp hk] at hQ
              refine sw_aload_n dX5_part_69 rfl ?_
              refine sw_getR dX5_part_70 flX5_29 ⟨by decide, _, rfl, rfl⟩ ?_
              refine sw_iload_n dX5_part_73 rfl ?_
              refine sw_iald dX5_part_74 rfl (by simp only [plA]; omega) ?_
              rw [f4 h1 k hc]
              refine sw_iret dX5_part_75 rfl rfl rfl ?_
              exact hQ
            · rw [if_neg (fun q => hc q.2)] at hQ
              refine sw_bipush (v := (-4)) dX5_part_64 (by decide) ?_
              refine sw_goto (tgt := 75) dX5_part_66 (by decide) ?_
              refine sw_iret dX5_part_75 rfl rfl rfl ?_
              exact hQ
        · rw [if_pos hc] at hQ
          refine sw_bipush (v := (-6)) dX5_part_50 (by decide) ?_
          refine sw_goto (tgt := 75) dX5_part_52 (by decide) ?_
          refine sw_iret dX5_part_75 rfl rfl rfl ?_
          exact hQ
      · rw [if_pos hc] at hQ
        refine sw_aload_n dX5_part_39 rfl ?_
        refine sw_getI dX5_part_40 flX5_123 ⟨by decide, _, rfl, rfl⟩ ?_
        rw [f3]
        refine sw_iret dX5_part_43 rfl rfl rfl ?_
        exact hQ
    · have hp := bI_0 hc
      refine sw_bipush (v := (-2)) dX5_part_19 (by decide) ?_
      refine sw_iret dX5_part_21 rfl rfl rfl ?_
      exact h0 hp
  refine ctr_start (by decide) (Nat.le_of_ble_eq_true rfl) rfl rfl ?_
  show SW jX5_part E0 _ 0 [some (.ref 28), some (.int i), none, none] [] _
  refine sw_iload_n dX5_part_0 rfl ?_
  refine sw_if_ge (tgt := 12) dX5_part_1 (by decide) (fun hc => ?_) (fun hc => ?_)
  · exact fin
  · have h1 := Int32.not_le.mp hc
    clear hc
    refine sw_iload_n dX5_part_4 rfl ?_
    refine sw_bipush (v := (-4)) dX5_part_5 (by decide) ?_
    refine sw_icmp_eq (tgt := 12) dX5_part_7 (by decide) (fun hc => ?_) (fun hc => ?_)
    · exact fin
    · exact absurd ⟨h1, hc⟩ hi
theorem b_part (i : Int32) : Both jX4_part jX5_part [.int i] := by
  intro h K hK hI
  have hI0 := hI
  obtain ⟨n, z, sm, lf, r, I⟩ := hI
  have I' := I
  obtain ⟨i1, iT, iM, iW, iS, iC, iR, iH⟩ := I'
  by_cases hi : i < 0 ∧ ¬ i = -4
  · exact ⟨-1, x_part_bad hi.1 hi.2 ⟨rfl, m_part_bad hi.1 hi.2 ⟨rfl, hI0.up⟩⟩⟩
  have hkp : h 10 5 = h 1 2 → kept h n z sm (fb_sm lf 8) lf := by
    obtain ⟨chg, c1, c2, c3, c4⟩ := iC
    exact c4
  cases hp : ptB (uX h sm) z lf with
  | false =>
    refine ⟨-2, x_part hi iT iW hkp (fun _ g hS => ⟨rfl, ?_⟩) (fun q => by rw [hp] at q; exact absurd q (by decide))⟩
    have a := Agr.s8 hS
    have e31 := a.c (k := 31) (by decide)
    have hpm : ptB (uM g n sm) z lf = false := by rw [← hp]; unfold ptB; rw [fqXM iT iW e31]
    exact m_part hi (TM_agr a iM) iW e31 (fun _ => ⟨rfl, n, z, sm, lf, r, I0_agr I a⟩) (fun q => by rw [hpm] at q; exact absurd q (by decide))
  | true =>
    refine ⟨partV (SR n z sm lf) (fb_sm lf 8) i, x_part hi iT iW hkp (fun q => by rw [hp] at q; exact absurd q (by decide)) (fun _ g hA => ⟨rfl, ?_⟩)⟩
    have a := AgC.af hA
    have e31 := a.c (k := 31) (by decide)
    have hpm : ptB (uM g n sm) z lf = true := by rw [← hp]; unfold ptB; rw [fqXM iT iW e31]
    exact m_part hi (TM_agc a iM) iW e31 (fun q => by rw [hpm] at q; exact absurd q (by decide)) (fun _ f hF => ⟨rfl, n, z, sm, lf, r, I0_agc I (a.tr (AgC.fr hF)) (CK_fr (CK_af iC hA) hF)⟩)
end OPS
