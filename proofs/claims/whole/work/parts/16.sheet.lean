/-! sheets, and the class's own ranges -/
theorem k4 {P : Nat → Prop} {k : Nat} (hk : k < 4) (h0 : P 0) (h1 : P 1) (h2 : P 2) (h3 : P 3) : P k := by
  rcases (show k = 0 ∨ k = 1 ∨ k = 2 ∨ k = 3 by omega) with rfl | rfl | rfl | rfl <;> assumption
theorem obL {k : Nat} (hk : k < 4) : ob (20 + k) 2 1 none := k4 (P := fun k => ob (20 + k) 2 1 none) hk ⟨by decide, _, rfl, rfl⟩ ⟨by decide, _, rfl, rfl⟩ ⟨by decide, _, rfl, rfl⟩ ⟨by decide, _, rfl, rfl⟩
theorem obZ {k : Nat} (hk : k < 4) : ob (20 + k) 2 2 none := k4 (P := fun k => ob (20 + k) 2 2 none) hk ⟨by decide, _, rfl, rfl⟩ ⟨by decide, _, rfl, rfl⟩ ⟨by decide, _, rfl, rfl⟩ ⟨by decide, _, rfl, rfl⟩
theorem obC {k : Nat} (hk : k < 4) : ob (20 + k) 2 0 (some (24 + k)) := k4 (P := fun k => ob (20 + k) 2 0 (some (24 + k))) hk ⟨by decide, _, rfl, rfl⟩ ⟨by decide, _, rfl, rfl⟩ ⟨by decide, _, rfl, rfl⟩ ⟨by decide, _, rfl, rfl⟩
theorem isI_C {k : Nat} (hk : k < 4) : isI (24 + k) = true := k4 (P := fun k => isI (24 + k) = true) hk rfl rfl rfl rfl
theorem plA_C {k : Nat} (hk : k < 4) : plA (24 + k) = 64 := k4 (P := fun k => plA (24 + k) = 64) hk rfl rfl rfl rfl
def nar (lane v : Int32) : Int32 := if lane = 0 then v.toInt8.toInt32 else if lane = 1 then v.toInt16.toInt32 else v
section SHEET
variable {h : Hp} {k : Nat}
theorem c_isNothing (hk : k < 4) : Ctr jX2_isNothing [.ref (20 + k)] h (Ret (bI (decide (h (20 + k) 1 = -1))) h) := by
  refine ctr_start (by decide) (Nat.le_of_ble_eq_true rfl) rfl rfl ?_
  show SW jX2_isNothing E0 _ 0 [some (.ref (20 + k))] [] _
  refine sw_aload_n dX2_isNothing_0 rfl ?_
  refine sw_getI dX2_isNothing_1 flX2_15 (obL hk) ?_
  refine sw_iconst (v := (-1)) dX2_isNothing_4 (by decide) ?_
  refine sw_icmp_ne (tgt := 12) dX2_isNothing_5 (by decide) (fun hc => ?_) (fun hc => ?_)
  · refine sw_iconst (v := nI 0) dX2_isNothing_12 (by decide) ?_
    refine sw_zret dX2_isNothing_13 rfl rfl rfl rfl ?_
    exact ⟨by rw [decide_eq_false hc]; rfl, rfl⟩
  · refine sw_iconst (v := nI 1) dX2_isNothing_8 (by decide) ?_
    refine sw_goto (tgt := 13) dX2_isNothing_9 (by decide) ?_
    refine sw_zret dX2_isNothing_13 rfl rfl rfl rfl ?_
    exact ⟨by rw [decide_eq_true hc]; rfl, rfl⟩
theorem c_hasCell (hk : k < 4) {s : Nat} (hs : s ≤ 64) (hz : h (20 + k) 2 = nI s) (i : Int32) : Ctr jX2_hasCell [.ref (20 + k), .int i] h (Ret (bI (rg 0 ((s : Int) - 1) i)) h) := by
  refine ctr_start (by decide) (Nat.le_of_ble_eq_true rfl) rfl rfl ?_
  show SW jX2_hasCell E0 _ 0 [some (.ref (20 + k)), some (.int i)] [] _
  refine sw_iload_n dX2_hasCell_0 rfl ?_
  refine sw_if_lt (tgt := 16) dX2_hasCell_1 (by decide) (fun hc => ?_) (fun hc => ?_)
  · rw [i_lt, t_0] at hc
    refine sw_iconst (v := nI 0) dX2_hasCell_16 (by decide) ?_
    refine sw_zret dX2_hasCell_17 rfl rfl rfl rfl ?_
    exact ⟨by rw [rg_f1 hc]; rfl, rfl⟩
  · rw [i_lt, t_0] at hc
    refine sw_iload_n dX2_hasCell_4 rfl ?_
    refine sw_aload_n dX2_hasCell_5 rfl ?_
    refine sw_getI dX2_hasCell_6 flX2_19 (obZ hk) ?_
    rw [hz]
    have hc0 := hc
    clear hc
    refine sw_icmp_ge (tgt := 16) dX2_hasCell_9 (by decide) (fun hc => ?_) (fun hc => ?_)
    · rw [i_le, t_N (by omega)] at hc
      refine sw_iconst (v := nI 0) dX2_hasCell_16 (by decide) ?_
      refine sw_zret dX2_hasCell_17 rfl rfl rfl rfl ?_
      exact ⟨by rw [rg_f2 (by omega)]; rfl, rfl⟩
    · rw [i_le, t_N (by omega)] at hc
      refine sw_iconst (v := nI 1) dX2_hasCell_12 (by decide) ?_
      refine sw_goto (tgt := 17) dX2_hasCell_13 (by decide) ?_
      refine sw_zret dX2_hasCell_17 rfl rfl rfl rfl ?_
      exact ⟨by rw [rg_t (by omega) (by omega)]; rfl, rfl⟩
theorem c_renew (hk : k < 4) (lane s : Int32) : Ctr jX2_renew [.ref (20 + k), .int lane, .int s] h (RetV (hset (hset (hfl h (24 + k) (nI 0) 64) (20 + k) 1 lane) (20 + k) 2 s)) := by
  refine ctr_start (by decide) (Nat.le_of_ble_eq_true rfl) rfl rfl ?_
  show SW jX2_renew E0 _ 0 [some (.ref (20 + k)), some (.int lane), some (.int s)] [] _
  refine sw_aload_n dX2_renew_0 rfl ?_
  refine sw_getR dX2_renew_1 flX2_9 (obC hk) ?_
  refine sw_iconst (v := nI 0) dX2_renew_4 (by decide) ?_
  refine sw_csv (c_fill (isI_C hk) (nI 0)) dX2_renew_5 lkX2_22 (by decide) rfl rfl (Nat.le_of_ble_eq_true rfl) ?_
  rw [plA_C hk]
  refine sw_aload_n dX2_renew_8 rfl ?_
  refine sw_iload_n dX2_renew_9 rfl ?_
  refine sw_put dX2_renew_10 fpX2_15 (obL hk) rfl rfl ?_
  refine sw_aload_n dX2_renew_13 rfl ?_
  refine sw_iload_n dX2_renew_14 rfl ?_
  refine sw_put dX2_renew_15 fpX2_19 (obZ hk) rfl rfl ?_
  refine sw_vret dX2_renew_18 rfl rfl rfl ?_
  exact ⟨rfl, rfl⟩
theorem c_write (hk : k < 4) {i : Nat} (hi : i < 64) (v : Int32) : Ctr jX2_write [.ref (20 + k), .int (nI i), .int v] h (RetV (hset h (24 + k) i (nar (h (20 + k) 1) v))) := by
  have hp : i < plA (24 + k) := by rw [plA_C hk]; exact hi
  refine ctr_start (by decide) (Nat.le_of_ble_eq_true rfl) rfl rfl ?_
  show SW jX2_write E0 _ 0 [some (.ref (20 + k)), some (.int (nI i)), some (.int v)] [] _
  refine sw_aload_n dX2_write_0 rfl ?_
  refine sw_getI dX2_write_1 flX2_15 (obL hk) ?_
  by_cases h0 : h (20 + k) 1 = 0
  · refine sw_lookup (off := 28) (tgt := 32) dX2_write_4 (by decide) (by rw [h0]; decide) (by decide) ?_
    refine sw_aload_n dX2_write_32 rfl ?_
    refine sw_getR dX2_write_33 flX2_9 (obC hk) ?_
    refine sw_iload_n dX2_write_36 rfl ?_
    refine sw_iload_n dX2_write_37 rfl ?_
    refine sw_i2b dX2_write_38 ?_
    refine sw_iast dX2_write_39 (isI_C hk) hp ?_
    refine sw_goto (tgt := 61) dX2_write_40 (by decide) ?_
    refine sw_vret dX2_write_61 rfl rfl rfl ?_
    exact ⟨rfl, by simp [nar, h0]⟩
  · by_cases h1 : h (20 + k) 1 = 1
    · refine sw_lookup (off := 39) (tgt := 43) dX2_write_4 (by decide) (by rw [h1]; decide) (by decide) ?_
      refine sw_aload_n dX2_write_43 rfl ?_
      refine sw_getR dX2_write_44 flX2_9 (obC hk) ?_
      refine sw_iload_n dX2_write_47 rfl ?_
      refine sw_iload_n dX2_write_48 rfl ?_
      refine sw_i2s dX2_write_49 ?_
      refine sw_iast dX2_write_50 (isI_C hk) hp ?_
      refine sw_goto (tgt := 61) dX2_write_51 (by decide) ?_
      refine sw_vret dX2_write_61 rfl rfl rfl ?_
      exact ⟨rfl, by simp [nar, h0, h1]⟩
    · refine sw_lookup (off := 50) (tgt := 54) dX2_write_4 (by decide) ?_ (by decide) ?_
      · show Op.lookupswitch.offset [(0, 28), (1, 39)] 50 _ = 50
        rw [lv_osw h0 (by decide), lv_osw h1 (by decide)]
        rfl
      · refine sw_aload_n dX2_write_54 rfl ?_
        refine sw_getR dX2_write_55 flX2_9 (obC hk) ?_
        refine sw_iload_n dX2_write_58 rfl ?_
        refine sw_iload_n dX2_write_59 rfl ?_
        refine sw_iast dX2_write_60 (isI_C hk) hp ?_
        refine sw_vret dX2_write_61 rfl rfl rfl ?_
        exact ⟨rfl, by simp [nar, h0, h1]⟩
end SHEET
theorem c_isWeight {h : Hp} (v : Int32) : Ctr jX4_isWeight [.int v] h (Ret (bI (rg (0) 1000 v)) h) := by
  refine ctr_start (by decide) (Nat.le_of_ble_eq_true rfl) rfl rfl ?_
  show SW jX4_isWeight E0 _ 0 [some (.int v)] [] _
  refine sw_iload_n dX4_isWeight_0 rfl ?_
  refine sw_if_lt (tgt := 15) dX4_isWeight_1 (by decide) (fun hc => ?_) (fun hc => ?_)
  · rw [i_lt, t_0] at hc
    refine sw_iconst (v := nI 0) dX4_isWeight_15 (by decide) ?_
    refine sw_zret dX4_isWeight_16 rfl rfl rfl rfl ?_
    exact ⟨by rw [rg_f1 (by omega)]; rfl, rfl⟩
  · rw [i_lt, t_0] at hc
    have hc0 := hc
    clear hc
    refine sw_iload_n dX4_isWeight_4 rfl ?_
    refine sw_sipush (v := nI 1000) dX4_isWeight_5 (by decide) ?_
    refine sw_icmp_gt (tgt := 15) dX4_isWeight_8 (by decide) (fun hc => ?_) (fun hc => ?_)
    · rw [i_lt, t_N (by omega)] at hc
      refine sw_iconst (v := nI 0) dX4_isWeight_15 (by decide) ?_
      refine sw_zret dX4_isWeight_16 rfl rfl rfl rfl ?_
      exact ⟨by rw [rg_f2 (by omega)]; rfl, rfl⟩
    · rw [i_lt, t_N (by omega)] at hc
      refine sw_iconst (v := nI 1) dX4_isWeight_11 (by decide) ?_
      refine sw_goto (tgt := 16) dX4_isWeight_12 (by decide) ?_
      refine sw_zret dX4_isWeight_16 rfl rfl rfl rfl ?_
      exact ⟨by rw [rg_t (by omega) (by omega)]; rfl, rfl⟩
theorem c_isStake {h : Hp} (v : Int32) : Ctr jX4_isStake [.int v] h (Ret (bI (rg (-100) 100 v)) h) := by
  refine ctr_start (by decide) (Nat.le_of_ble_eq_true rfl) rfl rfl ?_
  show SW jX4_isStake E0 _ 0 [some (.int v)] [] _
  refine sw_iload_n dX4_isStake_0 rfl ?_
  refine sw_bipush (v := (-100)) dX4_isStake_1 (by decide) ?_
  refine sw_icmp_lt (tgt := 16) dX4_isStake_3 (by decide) (fun hc => ?_) (fun hc => ?_)
  · rw [i_lt, (show ((-100) : Int32).toInt = -100 by decide)] at hc
    refine sw_iconst (v := nI 0) dX4_isStake_16 (by decide) ?_
    refine sw_zret dX4_isStake_17 rfl rfl rfl rfl ?_
    exact ⟨by rw [rg_f1 (by omega)]; rfl, rfl⟩
  · rw [i_lt, (show ((-100) : Int32).toInt = -100 by decide)] at hc
    have hc0 := hc
    clear hc
    refine sw_iload_n dX4_isStake_6 rfl ?_
    refine sw_bipush (v := nI 100) dX4_isStake_7 (by decide) ?_
    refine sw_icmp_gt (tgt := 16) dX4_isStake_9 (by decide) (fun hc => ?_) (fun hc => ?_)
    · rw [i_lt, t_N (by omega)] at hc
      refine sw_iconst (v := nI 0) dX4_isStake_16 (by decide) ?_
      refine sw_zret dX4_isStake_17 rfl rfl rfl rfl ?_
      exact ⟨by rw [rg_f2 (by omega)]; rfl, rfl⟩
    · rw [i_lt, t_N (by omega)] at hc
      refine sw_iconst (v := nI 1) dX4_isStake_12 (by decide) ?_
      refine sw_goto (tgt := 17) dX4_isStake_13 (by decide) ?_
      refine sw_zret dX4_isStake_17 rfl rfl rfl rfl ?_
      exact ⟨by rw [rg_t (by omega) (by omega)]; rfl, rfl⟩
theorem c_isRayNumber {h : Hp} (v : Int32) : Ctr jX4_isRayNumber [.int v] h (Ret (bI (rg (-5) 5 v)) h) := by
  refine ctr_start (by decide) (Nat.le_of_ble_eq_true rfl) rfl rfl ?_
  show SW jX4_isRayNumber E0 _ 0 [some (.int v)] [] _
  refine sw_iload_n dX4_isRayNumber_0 rfl ?_
  refine sw_bipush (v := (-5)) dX4_isRayNumber_1 (by decide) ?_
  refine sw_icmp_lt (tgt := 15) dX4_isRayNumber_3 (by decide) (fun hc => ?_) (fun hc => ?_)
  · rw [i_lt, (show ((-5) : Int32).toInt = -5 by decide)] at hc
    refine sw_iconst (v := nI 0) dX4_isRayNumber_15 (by decide) ?_
    refine sw_zret dX4_isRayNumber_16 rfl rfl rfl rfl ?_
    exact ⟨by rw [rg_f1 (by omega)]; rfl, rfl⟩
  · rw [i_lt, (show ((-5) : Int32).toInt = -5 by decide)] at hc
    have hc0 := hc
    clear hc
    refine sw_iload_n dX4_isRayNumber_6 rfl ?_
    refine sw_iconst (v := nI 5) dX4_isRayNumber_7 (by decide) ?_
    refine sw_icmp_gt (tgt := 15) dX4_isRayNumber_8 (by decide) (fun hc => ?_) (fun hc => ?_)
    · rw [i_lt, t_N (by omega)] at hc
      refine sw_iconst (v := nI 0) dX4_isRayNumber_15 (by decide) ?_
      refine sw_zret dX4_isRayNumber_16 rfl rfl rfl rfl ?_
      exact ⟨by rw [rg_f2 (by omega)]; rfl, rfl⟩
    · rw [i_lt, t_N (by omega)] at hc
      refine sw_iconst (v := nI 1) dX4_isRayNumber_11 (by decide) ?_
      refine sw_goto (tgt := 16) dX4_isRayNumber_12 (by decide) ?_
      refine sw_zret dX4_isRayNumber_16 rfl rfl rfl rfl ?_
      exact ⟨by rw [rg_t (by omega) (by omega)]; rfl, rfl⟩
theorem c_isSheet {h : Hp} (v : Int32) : Ctr jX4_isSheet [.int v] h (Ret (bI (rg (0) 3 v)) h) := by
  refine ctr_start (by decide) (Nat.le_of_ble_eq_true rfl) rfl rfl ?_
  show SW jX4_isSheet E0 _ 0 [some (.int v)] [] _
  refine sw_iload_n dX4_isSheet_0 rfl ?_
  refine sw_if_lt (tgt := 13) dX4_isSheet_1 (by decide) (fun hc => ?_) (fun hc => ?_)
  · rw [i_lt, t_0] at hc
    refine sw_iconst (v := nI 0) dX4_isSheet_13 (by decide) ?_
    refine sw_zret dX4_isSheet_14 rfl rfl rfl rfl ?_
    exact ⟨by rw [rg_f1 (by omega)]; rfl, rfl⟩
  · rw [i_lt, t_0] at hc
    have hc0 := hc
    clear hc
    refine sw_iload_n dX4_isSheet_4 rfl ?_
    refine sw_iconst (v := nI 4) dX4_isSheet_5 (by decide) ?_
    refine sw_icmp_ge (tgt := 13) dX4_isSheet_6 (by decide) (fun hc => ?_) (fun hc => ?_)
    · rw [i_le, t_N (by omega)] at hc
      refine sw_iconst (v := nI 0) dX4_isSheet_13 (by decide) ?_
      refine sw_zret dX4_isSheet_14 rfl rfl rfl rfl ?_
      exact ⟨by rw [rg_f2 (by omega)]; rfl, rfl⟩
    · rw [i_le, t_N (by omega)] at hc
      refine sw_iconst (v := nI 1) dX4_isSheet_9 (by decide) ?_
      refine sw_goto (tgt := 14) dX4_isSheet_10 (by decide) ?_
      refine sw_zret dX4_isSheet_14 rfl rfl rfl rfl ?_
      exact ⟨by rw [rg_t (by omega) (by omega)]; rfl, rfl⟩
theorem c_isLane {h : Hp} (v : Int32) : Ctr jX4_isLane [.int v] h (Ret (bI (rg (0) 2 v)) h) := by
  refine ctr_start (by decide) (Nat.le_of_ble_eq_true rfl) rfl rfl ?_
  show SW jX4_isLane E0 _ 0 [some (.int v)] [] _
  refine sw_iload_n dX4_isLane_0 rfl ?_
  refine sw_if_lt (tgt := 13) dX4_isLane_1 (by decide) (fun hc => ?_) (fun hc => ?_)
  · rw [i_lt, t_0] at hc
    refine sw_iconst (v := nI 0) dX4_isLane_13 (by decide) ?_
    refine sw_zret dX4_isLane_14 rfl rfl rfl rfl ?_
    exact ⟨by rw [rg_f1 (by omega)]; rfl, rfl⟩
  · rw [i_lt, t_0] at hc
    have hc0 := hc
    clear hc
    refine sw_iload_n dX4_isLane_4 rfl ?_
    refine sw_iconst (v := nI 3) dX4_isLane_5 (by decide) ?_
    refine sw_icmp_ge (tgt := 13) dX4_isLane_6 (by decide) (fun hc => ?_) (fun hc => ?_)
    · rw [i_le, t_N (by omega)] at hc
      refine sw_iconst (v := nI 0) dX4_isLane_13 (by decide) ?_
      refine sw_zret dX4_isLane_14 rfl rfl rfl rfl ?_
      exact ⟨by rw [rg_f2 (by omega)]; rfl, rfl⟩
    · rw [i_le, t_N (by omega)] at hc
      refine sw_iconst (v := nI 1) dX4_isLane_9 (by decide) ?_
      refine sw_goto (tgt := 14) dX4_isLane_10 (by decide) ?_
      refine sw_zret dX4_isLane_14 rfl rfl rfl rfl ?_
      exact ⟨by rw [rg_t (by omega) (by omega)]; rfl, rfl⟩
