/-- the class's kept search is that of the weights w -/
def kept (h : Hp) (n z : Nat) (sm : Nat → Nat) (T : Nat) (lf : Nat → Nat) : Prop := h 10 2 = nI T ∧ h 10 4 = (srch (2 ^ n) T z sm 40001 0 0 0 lf (fun _ => 0)).1 ∧ h 10 3 = nI (srch (2 ^ n) T z sm 40001 0 0 0 lf (fun _ => 0)).2.1 ∧ ((srch (2 ^ n) T z sm 40001 0 0 0 lf (fun _ => 0)).1 = 1 → ∀ i, i < T → h 11 i = nI ((srch (2 ^ n) T z sm 40001 0 0 0 lf (fun _ => 0)).2.2 i))
theorem c_search0 {h : Hp} {n z : Nat} {sm : Nat → Nat} (TT : TX h n z sm) (hz0 : 0 < z) {T : Nat} (hT : T ≤ 24) (hw : sI (fun j => h 4 (8 * 0 + j)) (2 ^ pop (sm 0)) = nI T) {lf : Nat → Nat} (hl : ∀ k, k < 64 → h 4 k = nI (lf k)) (hb : ∀ k, k < 64 → lf k ≤ 1000) (hk : h 10 5 = h 1 2 → kept h n z sm T lf) : Ctr jX0_search [.ref 10, .ref 1] h (fun v g => v = none ∧ (∀ k, k ≠ 10 → k ≠ 11 → k ≠ 12 → g k = h k) ∧ g 10 5 = h 1 2 ∧ kept g n z sm T lf) := by
  refine ctr_start (by decide) (Nat.le_of_ble_eq_true rfl) rfl rfl ?_
  show SW jX0_search E0 _ 0 [some (.ref 10), some (.ref 1)] [] _
  refine sw_aload_n dX0_search_0 rfl ?_
  refine sw_getI dX0_search_1 flX0_28 ⟨by decide, _, rfl, rfl⟩ ?_
  refine sw_aload_n dX0_search_4 rfl ?_
  refine sw_getNI dX0_search_5 fnX0_31 ⟨by decide, _, rfl, rfl⟩ ?_
  refine sw_icmp_ne (tgt := 12) dX0_search_8 (by decide) (fun hc => ?_) (fun hc => ?_)
  · clear hc hk
    refine sw_aload_n dX0_search_12 rfl ?_
    refine sw_aload_n dX0_search_13 rfl ?_
    refine sw_getNI dX0_search_14 fnX0_31 ⟨by decide, _, rfl, rfl⟩ ?_
    refine sw_put dX0_search_17 fpX0_28 ⟨by decide, _, rfl, rfl⟩ rfl rfl ?_
    have T1 : TX (hset h 10 5 (h 1 2)) n z sm := TX_keep TT (hset_off 1 (by decide)) (hset_off 2 (by decide)) (hset_off 6 (by decide)) (hset_off 7 (by decide))
    have hw1 : sI (fun j => hset h 10 5 (h 1 2) 4 (8 * 0 + j)) (2 ^ pop (sm 0)) = nI T := by
      rw [hset_off 4 (by decide)]
      exact hw
    refine sw_aload_n dX0_search_20 rfl ?_
    refine sw_aload_n dX0_search_21 rfl ?_
    refine sw_iconst (v := nI 0) dX0_search_22 (by decide) ?_
    refine sw_cvi (i := 0) (c_weightSum T1 hz0) dX0_search_23 lkX0_36 (by decide) ⟨by decide, _, rfl, rfl⟩ rfl rfl rfl (Nat.le_of_ble_eq_true rfl) ?_
    rw [hw1]
    refine sw_bipush (v := nI 24) dX0_search_26 (by decide) ?_
    refine sw_mmin dX0_search_28 (by decide +kernel) (by decide +kernel) (by decide +kernel) (by decide +kernel) (by decide) (Nat.le_of_ble_eq_true rfl) (by decide) (by decide) ?_
    rw [if_neg (nI_nlt (a := 24) (b := T) hT (by omega))]
    refine sw_put dX0_search_31 fpX0_18 ⟨by decide, _, rfl, rfl⟩ rfl rfl ?_
    refine sw_aload_n dX0_search_34 rfl ?_
    refine sw_iconst (v := nI 0) dX0_search_35 (by decide) ?_
    refine sw_put dX0_search_36 fpX0_22 ⟨by decide, _, rfl, rfl⟩ rfl rfl ?_
    refine sw_aload_n dX0_search_39 rfl ?_
    refine sw_getNR dX0_search_40 fnX0_46 ⟨by decide, _, rfl, rfl⟩ ?_
    refine sw_iconst (v := nI 0) dX0_search_43 (by decide) ?_
    refine sw_aload_n dX0_search_44 rfl ?_
    refine sw_getR dX0_search_45 flX0_15 ⟨by decide, _, rfl, rfl⟩ ?_
    refine sw_iconst (v := nI 0) dX0_search_48 (by decide) ?_
    refine sw_aload_n dX0_search_49 rfl ?_
    refine sw_getR dX0_search_50 flX0_15 ⟨by decide, _, rfl, rfl⟩ ?_
    refine sw_alen dX0_search_53 rfl rfl ?_
    refine sw_acopy dX0_search_54 (by decide +kernel) (by decide +kernel) (by decide +kernel) (by decide +kernel) (by decide) (Nat.le_of_ble_eq_true rfl) ?_
    generalize hge : (fun k => if k = 12 then va_cpy (hset (hset (hset h 10 5 (h 1 2)) 10 2 (nI T)) 10 3 (nI 0) 4) (hset (hset (hset h 10 5 (h 1 2)) 10 2 (nI T)) 10 3 (nI 0) 12) 0 0 64 else hset (hset (hset h 10 5 (h 1 2)) 10 2 (nI T)) 10 3 (nI 0) k) = g
    have g0 : ∀ k, k ≠ 10 → k ≠ 12 → g k = h k := fun k k1 k2 => by
      rw [← hge]
      simp only [if_neg k2]
      rw [hset_off k k1, hset_off k k1, hset_off k k1]
    have g2 : g 10 2 = nI T := by
      rw [← hge]
      simp only [if_neg (show ¬ (10 = 12) by decide)]
      rw [hset_i (by decide), hset_at]
    have g3 : g 10 3 = nI 0 := by
      rw [← hge]
      simp only [if_neg (show ¬ (10 = 12) by decide)]
      rw [hset_at]
    have g5 : g 10 5 = h 1 2 := by
      rw [← hge]
      simp only [if_neg (show ¬ (10 = 12) by decide)]
      rw [hset_i (by decide), hset_i (by decide), hset_at]
    have g12 : ∀ k, k < 64 → g 12 k = nI (lf k) := fun k hk => by
      rw [← hge]
      simp only [if_true]
      rw [pk_cpy_in (Nat.zero_le _) (by omega), hset_off 4 (by decide), hset_off 4 (by decide), hset_off 4 (by decide), Nat.zero_add, Nat.sub_zero]
      exact hl k hk
    have T2 : TX g n z sm := TX_keep TT (g0 1 (by decide) (by decide)) (g0 2 (by decide) (by decide)) (g0 6 (by decide) (by decide)) (g0 7 (by decide) (by decide))
    refine sw_aload_n dX0_search_57 rfl ?_
    refine sw_aload_n dX0_search_58 rfl ?_
    refine sw_aload_n dX0_search_59 rfl ?_
    refine sw_callV (i := 0) (c_findRow T2 hT g2 g3 g12 hb) dX0_search_60 lkX0_55 (by decide) ⟨by decide, _, rfl, rfl⟩ rfl rfl rfl (Nat.le_of_ble_eq_true rfl) (fun v h1 hq => ?_)
    obtain ⟨rfl, f1, f2, f3, f4⟩ := hq
    refine sw_put dX0_search_63 fpX0_25 ⟨by decide, _, rfl, rfl⟩ rfl rfl ?_
    refine sw_vret dX0_search_66 rfl rfl rfl ?_
    refine ⟨rfl, fun k k1 k2 k3 => ?_, ?_, ?_, ?_, ?_, fun q i hi => ?_⟩
    · rw [hset_off k k1, f1 k k1 k2 k3, g0 k k1 k3]
    · rw [hset_i (by decide), f2 5 (by decide), g5]
    · rw [hset_i (by decide), f2 2 (by decide), g2]
    · rw [hset_at]
    · rw [hset_i (by decide), f3]
    · rw [hset_k (by decide)]
      exact f4 q i hi
  · refine sw_vret dX0_search_11 rfl rfl rfl ?_
    exact ⟨rfl, fun _ _ _ _ => rfl, hc, hk hc⟩
