def fstL (p : Nat → Bool) : Nat → Int32
  | 0 => -4
  | i + 1 => if p i then (if fa_cnt p i = 0 then nI i else fstL p i) else fstL p i
def mostX (p : Nat → Bool) : Nat → Int32
  | 0 => -4
  | i + 1 => if p i then (if mostX p i < nI (pop i) then nI (pop i) else mostX p i) else mostX p i
/-- what is kept of the rays' colours -/
def JD (h : Hp) (r : Nat) : Prop := h 13 7 = nI (fb_sm (S2 (ox h) r) r) ∧ h 13 8 = nI (fb_sm (S3 (ox h) r) r) ∧ h 13 9 = nI (fa_cnt (colB (ox h) r) (2 ^ r)) ∧ h 13 10 = fstL (colB (ox h) r) (2 ^ r) ∧ h 13 11 = mostX (colB (ox h) r) (2 ^ r)
theorem fits_i (x : Int32) : fits .int (.int x) = true := rfl
theorem c_judge {h : Hp} {r : Nat} (V : RV h r) (hj : ¬ h 13 6 = 0 → JD h r) : Ctr jX1_judge [.ref 13] h (fun v g => v = none ∧ KR h g ∧ g 13 0 = h 13 0 ∧ ¬ g 13 6 = 0 ∧ JD g r) := by
  have hr := V.1
  have h12 := pow12 hr
  refine ctr_start (by decide) (Nat.le_of_ble_eq_true rfl) rfl rfl ?_
  show SW jX1_judge E0 _ 0 [some (.ref 13), none] [] _
  refine sw_aload_n dX1_judge_0 rfl ?_
  refine sw_getI dX1_judge_1 flX1_31 ⟨by decide, _, rfl, rfl⟩ ?_
  refine sw_if_eq (tgt := 8) dX1_judge_4 (by decide) (fun hc => ?_) (fun hc => ?_)
  · clear hc hj
    refine sw_aload_n dX1_judge_8 rfl ?_
    refine sw_iconst (v := nI 1) dX1_judge_9 (by decide) ?_
    refine sw_put dX1_judge_10 fpX1_31 ⟨by decide, _, rfl, rfl⟩ rfl rfl ?_
    generalize hge : hset h 13 6 (nI 1) = g0
    have k0 : KR h g0 := fun k k1 k2 => by rw [← hge, hset_off k k1]
    have g00 : g0 13 0 = h 13 0 := by rw [← hge, hset_i (by decide)]
    have g06 : g0 13 6 = nI 1 := by rw [← hge, hset_at]
    have V0 := k0.rv g00 V
    refine sw_aload_n dX1_judge_13 rfl ?_
    refine sw_callV (i := 0) (c_findPairsAndThrees V0) dX1_judge_14 lkX1_50 (by decide) ⟨by decide, _, rfl, rfl⟩ rfl rfl rfl (Nat.le_of_ble_eq_true rfl) (fun v h1 hq => ?_)
    obtain ⟨rfl, K1, i1, q7, q8, hle, hTL⟩ := hq
    rw [k0.oxe] at q7 q8 hle hTL
    have K : KR h h1 := fun k k1 k2 => by rw [K1 k k1 k2]; exact k0 k k1 k2
    have z1 : h1 13 0 = h 13 0 := by rw [i1 0 (by decide) (by decide), g00]
    have z6 : h1 13 6 = nI 1 := by rw [i1 6 (by decide) (by decide), g06]
    refine sw_aload_n dX1_judge_17 rfl ?_
    refine sw_iconst (v := nI 0) dX1_judge_18 (by decide) ?_
    refine sw_put dX1_judge_19 fpX1_41 ⟨by decide, _, rfl, rfl⟩ rfl rfl ?_
    refine sw_aload_n dX1_judge_22 rfl ?_
    refine sw_bipush (v := (-4)) dX1_judge_23 (by decide) ?_
    refine sw_put dX1_judge_25 fpX1_44 ⟨by decide, _, rfl, rfl⟩ rfl rfl ?_
    refine sw_aload_n dX1_judge_28 rfl ?_
    refine sw_bipush (v := (-4)) dX1_judge_29 (by decide) ?_
    refine sw_put dX1_judge_31 fpX1_47 ⟨by decide, _, rfl, rfl⟩ rfl rfl ?_
    refine sw_iconst (v := nI 0) dX1_judge_34 (by decide) ?_
    refine sw_istore_n dX1_judge_35 (by decide) rfl ?_
    generalize hgf : hset (hset (hset h1 13 9 (nI 0)) 13 10 (-4)) 13 11 (-4) = f
    have key := lp_up (n := 2 ^ r) (S := fun i => ∀ g : Hp, KR h g → g 13 0 = h 13 0 → g 13 6 = nI 1 → g 13 7 = nI (fb_sm (S2 (ox h) r) r) → g 13 8 = nI (fb_sm (S3 (ox h) r) r) → g 13 9 = nI (fa_cnt (colB (ox h) r) i) → g 13 10 = fstL (colB (ox h) r) i → g 13 11 = mostX (colB (ox h) r) i → g 18 = h1 18 → SW jX1_judge E0 (Zm (fun v g => v = none ∧ KR h g ∧ g 13 0 = h 13 0 ∧ ¬ g 13 6 = 0 ∧ JD g r)) 36 [some (.ref 13), some (.int (nI i))] [] g) ?_ ?_ 0 (Nat.zero_le _) f (fun k k1 k2 => by rw [← hgf, hset_off k k1, hset_off k k1, hset_off k k1]; exact K k k1 k2) (by rw [← hgf, hset_i (by decide), hset_i (by decide), hset_i (by decide)]; exact z1) (by rw [← hgf, hset_i (by decide), hset_i (by decide), hset_i (by decide)]; exact z6) (by rw [← hgf, hset_i (by decide), hset_i (by decide), hset_i (by decide)]; exact q7) (by rw [← hgf, hset_i (by decide), hset_i (by decide), hset_i (by decide)]; exact q8) (by rw [← hgf, hset_i (by decide), hset_i (by decide), hset_at]; rfl) (by rw [← hgf, hset_i (by decide), hset_at]; rfl) (by rw [← hgf, hset_at]; rfl) (by rw [← hgf, hset_off 18 (by decide), hset_off 18 (by decide), hset_off 18 (by decide)])
    · exact key
    · intro g Kg a0 a6 a7 a8 a9 a10 a11 a18
      refine sw_iload_n dX1_judge_36 rfl ?_
      refine sw_iconst (v := nI 1) dX1_judge_37 (by decide) ?_
      refine sw_aload_n dX1_judge_38 rfl ?_
      refine sw_getI dX1_judge_39 flX1_9 ⟨by decide, _, rfl, rfl⟩ ?_
      rw [show g 13 0 = nI r from a0.trans V.2.1]
      first | refine sw_ishlN dX1_judge_42 (by omega) (by omega) ?_ | refine sw_ishl dX1_judge_42 ?_
      rw [Nat.one_mul]
      refine sw_icmpN_ge (tgt := 104) dX1_judge_43 (by decide) (by omega) (by omega) (fun hc => ?_) (fun hc => ?_)
      · refine sw_vret dX1_judge_104 rfl rfl rfl ?_
        refine ⟨rfl, Kg, a0, by rw [a6]; decide, ?_, ?_, ?_, ?_, ?_⟩
        · rw [Kg.oxe]; exact a7
        · rw [Kg.oxe]; exact a8
        · rw [Kg.oxe]; exact a9
        · rw [Kg.oxe]; exact a10
        · rw [Kg.oxe]; exact a11
      · omega
    · intro i hi ih g Kg a0 a6 a7 a8 a9 a10 a11 a18
      have VG := Kg.rv a0 V
      refine sw_iload_n dX1_judge_36 rfl ?_
      refine sw_iconst (v := nI 1) dX1_judge_37 (by decide) ?_
      refine sw_aload_n dX1_judge_38 rfl ?_
      refine sw_getI dX1_judge_39 flX1_9 ⟨by decide, _, rfl, rfl⟩ ?_
      rw [show g 13 0 = nI r from a0.trans V.2.1]
      first | refine sw_ishlN dX1_judge_42 (by omega) (by omega) ?_ | refine sw_ishl dX1_judge_42 ?_
      rw [Nat.one_mul]
      refine sw_icmpN_ge (tgt := 104) dX1_judge_43 (by decide) (by omega) (by omega) (fun hc => ?_) (fun hc => ?_)
      · omega
      · clear hc
        refine sw_aload_n dX1_judge_46 rfl ?_
        refine sw_iload_n dX1_judge_47 rfl ?_
        refine sw_cvi (i := 0) (c_areColours VG (n := fb_sm (S3 (ox h) r) r) a8 hle (by rw [Kg.oxe, a18]; exact hTL) (by omega)) dX1_judge_48 lkX1_53 (by decide) ⟨by decide, _, rfl, rfl⟩ rfl rfl rfl (Nat.le_of_ble_eq_true rfl) ?_
        rw [Kg.oxe]
        refine sw_if_eq (tgt := 98) dX1_judge_51 (by decide) (fun hc => ?_) (fun hc => ?_)
        · have hno := bI_0 hc
          first | refine sw_iincN (b := 1) dX1_judge_98 rfl (by decide) rfl ?_ | refine sw_iinc dX1_judge_98 rfl rfl (by decide) rfl ?_
          refine sw_goto (tgt := 36) dX1_judge_101 (by decide) ?_
          refine ih g Kg a0 a6 a7 a8 ?_ ?_ ?_ a18
          · rw [fa_cnt_no hno]; exact a9
          · simp only [fstL, hno]; exact a10
          · simp only [mostX, hno]; exact a11
        · have hyes := bI_1 hc
          clear hc
          have hcle := fa_cnt_le (colB (ox h) r) i
          have go : ∀ lc : Int32, lc = fstL (colB (ox h) r) (i + 1) → SW jX1_judge E0 (Zm (fun v g => v = none ∧ KR h g ∧ g 13 0 = h 13 0 ∧ ¬ g 13 6 = 0 ∧ JD g r)) 70 [some (.ref 13), some (.int (nI i))] [.int lc, .ref 13] g := fun lc hlc => by
            refine sw_put dX1_judge_70 fpX1_44 ⟨by decide, _, rfl, rfl⟩ rfl rfl ?_
            refine sw_aload_n dX1_judge_73 rfl ?_
            refine sw_aload_n dX1_judge_74 rfl ?_
            refine sw_getI dX1_judge_75 flX1_47 ⟨by decide, _, rfl, rfl⟩ ?_
            rw [show hset g 13 10 lc 13 11 = mostX (colB (ox h) r) i by rw [hset_i (by decide)]; exact a11]
            refine sw_iload_n dX1_judge_78 rfl ?_
            refine sw_csi (c_bitCount (by omega)) dX1_judge_79 lkX1_57 (by decide) rfl rfl (Nat.le_of_ble_eq_true rfl) ?_
            refine sw_mmax dX1_judge_82 (by decide +kernel) (by decide +kernel) (by decide +kernel) (by decide +kernel) (by decide) (Nat.le_of_ble_eq_true rfl) (by decide) (by decide) ?_
            generalize hmx : (if mostX (colB (ox h) r) i < nI (pop i) then nI (pop i) else mostX (colB (ox h) r) i) = mx
            have emx : mx = mostX (colB (ox h) r) (i + 1) := by rw [← hmx]; simp only [mostX, hyes, if_true]
            refine sw_put dX1_judge_85 fpX1_47 ⟨by decide, _, rfl, rfl⟩ rfl rfl ?_
            refine sw_aload_n dX1_judge_88 rfl ?_
            refine sw_dup dX1_judge_89 rfl ?_
            refine sw_getI dX1_judge_90 flX1_41 ⟨by decide, _, rfl, rfl⟩ ?_
            rw [show hset (hset g 13 10 lc) 13 11 mx 13 9 = nI (fa_cnt (colB (ox h) r) i) by rw [hset_i (by decide), hset_i (by decide)]; exact a9]
            refine sw_iconst (v := nI 1) dX1_judge_93 (by decide) ?_
            first | refine sw_iaddN dX1_judge_94 ?_ | refine sw_iadd dX1_judge_94 ?_
            refine sw_put dX1_judge_95 fpX1_41 ⟨by decide, _, rfl, rfl⟩ rfl rfl ?_
            first | refine sw_iincN (b := 1) dX1_judge_98 rfl (by decide) rfl ?_ | refine sw_iinc dX1_judge_98 rfl rfl (by decide) rfl ?_
            refine sw_goto (tgt := 36) dX1_judge_101 (by decide) ?_
            refine ih _ (fun k k1 k2 => ?_) ?_ ?_ ?_ ?_ ?_ ?_ ?_ ?_
            · rw [hset_off k k1, hset_off k k1, hset_off k k1]; exact Kg k k1 k2
            · rw [hset_i (by decide), hset_i (by decide), hset_i (by decide)]; exact a0
            · rw [hset_i (by decide), hset_i (by decide), hset_i (by decide)]; exact a6
            · rw [hset_i (by decide), hset_i (by decide), hset_i (by decide)]; exact a7
            · rw [hset_i (by decide), hset_i (by decide), hset_i (by decide)]; exact a8
            · rw [hset_at, fa_cnt_yes hyes]
            · rw [hset_i (by decide), hset_i (by decide), hset_at]; exact hlc
            · rw [hset_i (by decide), hset_at]; exact emx
            · rw [hset_off 18 (by decide), hset_off 18 (by decide), hset_off 18 (by decide)]; exact a18
          refine sw_aload_n dX1_judge_54 rfl ?_
          refine sw_aload_n dX1_judge_55 rfl ?_
          refine sw_getI dX1_judge_56 flX1_41 ⟨by decide, _, rfl, rfl⟩ ?_
          rw [a9]
          refine sw_if_ne (tgt := 66) dX1_judge_59 (by decide) (fun hc => ?_) (fun hc => ?_)
          · have hc0 : ¬ fa_cnt (colB (ox h) r) i = 0 := fun q => hc (by rw [q]; rfl)
            refine sw_aload_n dX1_judge_66 rfl ?_
            refine sw_getI dX1_judge_67 flX1_44 ⟨by decide, _, rfl, rfl⟩ ?_
            rw [a10]
            exact go (fstL (colB (ox h) r) i) (by simp only [fstL, hyes, if_true, if_neg hc0])
          · have hc0 : fa_cnt (colB (ox h) r) i = 0 := (nI_eq (by omega) (by omega)).mp hc
            refine sw_iload_n dX1_judge_62 rfl ?_
            refine sw_goto (tgt := 70) dX1_judge_63 (by decide) ?_
            exact go (nI i) (by simp only [fstL, hyes, if_true, if_pos hc0])
  · refine sw_vret dX1_judge_7 rfl rfl rfl ?_
    exact ⟨rfl, fun _ _ _ => rfl, rfl, hc, hj hc⟩
