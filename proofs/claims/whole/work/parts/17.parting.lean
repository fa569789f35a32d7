/-! the search of a parting -/
theorem sw_mmax {J : Mt} {E : ExT} {Z : ZT} {pc : Nat} {L : List (Option Value)} {st : List Value} {h : Hp} {idx : Nat} {x y : Int32} (hd : decode J.c pc = .ok (.invokestatic idx, 3)) (hlk : Cond.methodLink J.y.cls idx Lib.Math.max.name ∈ ws0) (hst : Cond.static Lib.Math.max.name ∈ ws0) (hini : Cond.initialized "java/lang/Math" ∈ ws0) (hco : Cond.code Lib.Math.max.name Lib.Math.max.code 2 (some .int) ∈ ws0) (hf : 1 ≤ J.R.frames) (hlo : (st.map Value.category).sum + 13 ≤ J.R.locals) (hk : J.k ≤ J.R.cells) (hs : J.s ≤ J.R.slots) (k : SW J E Z (pc + 3) L (.int (if x < y then y else x) :: st) h) : SW J E Z pc L (.int y :: .int x :: st) h := by
  intro p l e s m args below meth c dC dI cI cZ cS ad F H locs ls hP hD hS hl
  have hsum : ((st.map (trV ad)).map fun v => v.category) = st.map Value.category := by rw [List.map_map]; congr 1; funext v; exact trV_cat ad v
  exact va_mmax F.1 F.2.1 (F.2.2.1.trans hl.1.symm) F.2.2.2.1 (F.2.2.2.2.1 _ hlk) (F.2.2.2.2.1 _ hst) (F.2.2.2.2.1 _ hini) (F.2.2.2.2.1 _ hco) hf (by rw [hsum]; exact hlo) hk hs hd (k p l e s m args below meth c dC dI cI cZ cS ad F H locs ls hP hD hS hl)
theorem sw_mmin {J : Mt} {E : ExT} {Z : ZT} {pc : Nat} {L : List (Option Value)} {st : List Value} {h : Hp} {idx : Nat} {x y : Int32} (hd : decode J.c pc = .ok (.invokestatic idx, 3)) (hlk : Cond.methodLink J.y.cls idx Lib.Math.min.name ∈ ws0) (hst : Cond.static Lib.Math.min.name ∈ ws0) (hini : Cond.initialized "java/lang/Math" ∈ ws0) (hco : Cond.code Lib.Math.min.name Lib.Math.min.code 2 (some .int) ∈ ws0) (hf : 1 ≤ J.R.frames) (hlo : (st.map Value.category).sum + 13 ≤ J.R.locals) (hk : J.k ≤ J.R.cells) (hs : J.s ≤ J.R.slots) (k : SW J E Z (pc + 3) L (.int (if y < x then y else x) :: st) h) : SW J E Z pc L (.int y :: .int x :: st) h := by
  intro p l e s m args below meth c dC dI cI cZ cS ad F H locs ls hP hD hS hl
  have hsum : ((st.map (trV ad)).map fun v => v.category) = st.map Value.category := by rw [List.map_map]; congr 1; funext v; exact trV_cat ad v
  exact va_mmin F.1 F.2.1 (F.2.2.1.trans hl.1.symm) F.2.2.2.1 (F.2.2.2.2.1 _ hlk) (F.2.2.2.2.1 _ hst) (F.2.2.2.2.1 _ hini) (F.2.2.2.2.1 _ hco) hf (by rw [hsum]; exact hlo) hk hs hd (k p l e s m args below meth c dC dI cI cZ cS ad F H locs ls hP hD hS hl)
theorem sw_acopy {J : Mt} {E : ExT} {Z : ZT} {pc : Nat} {L : List (Option Value)} {st : List Value} {h : Hp} {idx : Nat} (hd : decode J.c pc = .ok (.invokestatic idx, 3)) (hlk : Cond.methodLink J.y.cls idx arraycopyName ∈ ws0) (hnat : Cond.native arraycopyName ∈ ws0) (hst : Cond.static arraycopyName ∈ ws0) (hini : Cond.initialized "java/lang/System" ∈ ws0) (hf : 1 ≤ J.R.frames) (hlo : (st.map Value.category).sum + (nativeFrameWords "java/lang/System" "arraycopy" 5 + 11) ≤ J.R.locals) (k : SW J E Z (pc + 3) L st (fun k => if k = 12 then va_cpy (h 4) (h 12) 0 0 64 else h k)) : SW J E Z pc L (.int (nI 64) :: .int (nI 0) :: .ref 12 :: .int (nI 0) :: .ref 4 :: st) h := by
  intro p l e s m args below meth c dC dI cI cZ cS ad F H locs ls hP hD hS hl
  have hsum : ((st.map (trV ad)).map fun v => v.category) = st.map Value.category := by rw [List.map_map]; congr 1; funext v; exact trV_cat ad v
  have z0 : (nI 0).toNatClampNeg = 0 := nI_clamp (by omega)
  have z64 : (nI 64).toNatClampNeg = 64 := nI_clamp (by omega)
  refine va_copyi F.1 F.2.1 (F.2.2.1.trans hl.1.symm) F.2.2.2.1 (F.2.2.2.2.1 _ hlk) (F.2.2.2.2.1 _ hnat) (F.2.2.2.2.1 _ hst) (F.2.2.2.2.1 _ hini) F.2.2.2.2.2.1 hP hD hS 4 12 0 0 (isI_cE (k := 4) rfl) (isI_cE (k := 12) rfl) rfl rfl rfl (by decide) (by decide) (by decide) (by rw [z0, z64]; decide) (by rw [z0, z64]; decide) (fun _ _ => rfl) hf (by rw [hsum]; exact hlo) hd (fun H1 locs1 hP1 hD1 hS1 => ?_)
  rw [z0, z64] at hP1 hD1
  have ee := isI_set (k := 12) rfl (cI := cI) (cZ := cZ) (cS := cS) (ad := ad) (h := h) (h' := fun k => if k = 12 then va_cpy (h 4) (h 12) 0 0 64 else h k) (f := va_cpy (h 4) (h 12) 0 0 64) (fun a ha => by simp [ha]) (by simp)
  rw [ee] at hP1 hD1
  exact k p l e s m args below meth c dC dI cI cZ cS ad F H1 locs1 ls hP1 hD1 hS1 hl
def fitB (z : Nat) (sm : Nat → Nat) (lf : Nat → Nat) (x : Nat) : Bool := allB (fun c => decide (0 < lf (8 * c + jnt (sm c) x))) z
def hasJ (z : Nat) (sm : Nat → Nat) (x k : Nat) : Prop := k / 8 < z ∧ jnt (sm (k / 8)) x = k % 8
def chU (z : Nat) (sm : Nat → Nat) (lf : Nat → Nat) (x : Nat) : Nat → Nat := fun k => if k / 8 < z ∧ jnt (sm (k / 8)) x = k % 8 then lf k + 1 else lf k
def chD (z : Nat) (sm : Nat → Nat) (lf : Nat → Nat) (x : Nat) : Nat → Nat := fun k => if k / 8 < z ∧ jnt (sm (k / 8)) x = k % 8 then lf k - 1 else lf k
def upN (f : Nat → Nat) (k v : Nat) : Nat → Nat := fun j => if j = k then v else f j
/-- the search: how it ends, how many were tried, the row -/
def srch (N T z : Nat) (sm : Nat → Nat) : Nat → Nat → Nat → Nat → (Nat → Nat) → (Nat → Nat) → Int32 × Nat × (Nat → Nat)
  | 0, _, _, tr, _, rw => (-6, tr, rw)
  | f + 1, p, x, tr, lf, rw =>
    if T ≤ p then (1, tr, rw)
    else if N ≤ x then (if p = 0 then (0, tr, rw) else srch N T z sm f (p - 1) (rw (p - 1) + 1) tr (chU z sm lf (rw (p - 1))) rw)
    else if tr = 20000 then (-6, tr, rw)
    else if fitB z sm lf x then srch N T z sm f (p + 1) x (tr + 1) (chD z sm lf x) (upN rw p x)
    else srch N T z sm f p (x + 1) (tr + 1) lf rw
section PART
variable {h : Hp} {n z : Nat} {sm : Nat → Nat}
theorem c_fits (T : TX h n z sm) {lf : Nat → Nat} (hl : ∀ k, k < 64 → h 12 k = nI (lf k)) (hb : ∀ k, k < 64 → lf k < 2 ^ 31) {x : Nat} (hx : x < 2 ^ n) : Ctr jX0_fits [.ref 10, .ref 1, .int (nI x)] h (Ret (bI (fitB z sm lf x)) h) := by
  have hz8 := T.1.2.1
  have hz := T.1.2.2.2
  refine ctr_start (by decide) (Nat.le_of_ble_eq_true rfl) rfl rfl ?_
  show SW jX0_fits E0 _ 0 [some (.ref 10), some (.ref 1), some (.int (nI x)), none] [] _
  refine sw_iconst (v := nI 0) dX0_fits_0 (by decide) ?_
  refine sw_istore_n dX0_fits_1 (by decide) rfl ?_
  refine lp_up (n := z) (S := fun i => fitB i sm lf x = true → SW jX0_fits E0 (Zm (Ret (bI (fitB z sm lf x)) h)) 2 [some (.ref 10), some (.ref 1), some (.int (nI x)), some (.int (nI i))] [] h) ?_ ?_ 0 (by omega) rfl
  · intro ha
    refine sw_iload_n dX0_fits_2 rfl ?_
    refine sw_aload_n dX0_fits_3 rfl ?_
    refine sw_getNI dX0_fits_4 fnX0_72 ⟨by decide, _, rfl, rfl⟩ ?_
    rw [hz]
    refine sw_icmpN_ge (tgt := 32) dX0_fits_7 (by decide) (by omega) (by omega) (fun hc => ?_) (fun hc => ?_)
    · refine sw_iconst (v := nI 1) dX0_fits_32 (by decide) ?_
      refine sw_zret dX0_fits_33 rfl rfl rfl rfl ?_
      exact ⟨by rw [ha]; rfl, rfl⟩
    · omega
  · intro i hi ih ha
    have hj := T.j8 hi x
    have hk : 8 * i + jnt (sm i) x < 64 := by omega
    refine sw_iload_n dX0_fits_2 rfl ?_
    refine sw_aload_n dX0_fits_3 rfl ?_
    refine sw_getNI dX0_fits_4 fnX0_72 ⟨by decide, _, rfl, rfl⟩ ?_
    rw [hz]
    refine sw_icmpN_ge (tgt := 32) dX0_fits_7 (by decide) (by omega) (by omega) (fun hc => ?_) (fun hc => ?_)
    · omega
    · refine sw_aload_n dX0_fits_10 rfl ?_
      refine sw_getR dX0_fits_11 flX0_15 ⟨by decide, _, rfl, rfl⟩ ?_
      refine sw_aload_n dX0_fits_14 rfl ?_
      refine sw_iload_n dX0_fits_15 rfl ?_
      refine sw_iload_n dX0_fits_16 rfl ?_
      refine sw_cvi (i := 0) (c_placeBy T hi hx) dX0_fits_17 lkX0_75 (by decide) ⟨by decide, _, rfl, rfl⟩ rfl rfl rfl (Nat.le_of_ble_eq_true rfl) ?_
      refine sw_iald dX0_fits_20 rfl (by simp only [plA]; omega) ?_
      rw [hl _ hk]
      clear hc
      refine sw_if_ne (tgt := 26) dX0_fits_21 (by decide) (fun hc => ?_) (fun hc => ?_)
      · have hp : 0 < lf (8 * i + jnt (sm i) x) := Nat.pos_of_ne_zero (fun q => hc (by rw [q]; rfl))
        first | refine sw_iincN (b := 1) dX0_fits_26 rfl (by decide) rfl ?_ | refine sw_iinc dX0_fits_26 rfl rfl (by decide) rfl ?_
        refine sw_goto (tgt := 2) dX0_fits_29 (by decide) ?_
        exact ih (by unfold fitB at ha ⊢; simp only [allB, ha, Bool.true_and]; exact decide_eq_true hp)
      · have hp : lf (8 * i + jnt (sm i) x) = 0 := (nI_eq (hb _ hk) (by omega)).mp hc
        refine sw_iconst (v := nI 0) dX0_fits_24 (by decide) ?_
        refine sw_zret dX0_fits_25 rfl rfl rfl rfl ?_
        exact ⟨by unfold fitB; rw [allB_f hi (decide_eq_false (by rw [hp]; omega))]; rfl, rfl⟩
theorem c_change (T : TX h n z sm) {x : Nat} (hx : x < 2 ^ n) (b : Int32) : Ctr jX0_change [.ref 10, .ref 1, .int (nI x), .int b] h (fun v g => v = none ∧ Sam 12 h g ∧ ∀ k, k < 64 → g 12 k = if k / 8 < z ∧ jnt (sm (k / 8)) x = k % 8 then h 12 k + b else h 12 k) := by
  have hz8 := T.1.2.1
  refine ctr_start (by decide) (Nat.le_of_ble_eq_true rfl) rfl rfl ?_
  show SW jX0_change E0 _ 0 [some (.ref 10), some (.ref 1), some (.int (nI x)), some (.int b), none] [] _
  refine sw_iconst (v := nI 0) dX0_change_0 (by decide) ?_
  refine sw_istore dX0_change_1 (by decide) rfl ?_
  have key := lp_up (n := z) (S := fun c => ∀ g, Sam 12 h g → (∀ k, k < 64 → g 12 k = if k / 8 < c ∧ jnt (sm (k / 8)) x = k % 8 then h 12 k + b else h 12 k) → SW jX0_change E0 (Zm (fun v g => v = none ∧ Sam 12 h g ∧ ∀ k, k < 64 → g 12 k = if k / 8 < z ∧ jnt (sm (k / 8)) x = k % 8 then h 12 k + b else h 12 k)) 3 [some (.ref 10), some (.ref 1), some (.int (nI x)), some (.int b), some (.int (nI c))] [] g) ?_ ?_ 0 (Nat.zero_le _) h Sam.rf (fun k hk => by rw [if_neg (fun q => Nat.not_lt_zero _ q.1)])
  · exact key
  · intro g hS hg
    have hz := (hS.T (by decide) T).1.2.2.2
    refine sw_iload dX0_change_3 rfl ?_
    refine sw_aload_n dX0_change_5 rfl ?_
    refine sw_getNI dX0_change_6 fnX0_72 ⟨by decide, _, rfl, rfl⟩ ?_
    rw [hz]
    refine sw_icmpN_ge (tgt := 34) dX0_change_9 (by decide) (by omega) (by omega) (fun hc => ?_) (fun hc => ?_)
    · refine sw_vret dX0_change_34 rfl rfl rfl ?_
      exact ⟨rfl, hS, hg⟩
    · omega
  · intro c hcz ih g hS hg
    have T' := hS.T (by decide) T
    have hz := T'.1.2.2.2
    have hj := T.j8 hcz x
    refine sw_iload dX0_change_3 rfl ?_
    refine sw_aload_n dX0_change_5 rfl ?_
    refine sw_getNI dX0_change_6 fnX0_72 ⟨by decide, _, rfl, rfl⟩ ?_
    rw [hz]
    refine sw_icmpN_ge (tgt := 34) dX0_change_9 (by decide) (by omega) (by omega) (fun hc => ?_) (fun hc => ?_)
    · omega
    · clear hc
      refine sw_aload_n dX0_change_12 rfl ?_
      refine sw_getR dX0_change_13 flX0_15 ⟨by decide, _, rfl, rfl⟩ ?_
      refine sw_aload_n dX0_change_16 rfl ?_
      refine sw_iload dX0_change_17 rfl ?_
      refine sw_iload_n dX0_change_19 rfl ?_
      refine sw_cvi (i := 0) (c_placeBy T' hcz hx) dX0_change_20 lkX0_75 (by decide) ⟨by decide, _, rfl, rfl⟩ rfl rfl rfl (Nat.le_of_ble_eq_true rfl) ?_
      refine sw_dup2 dX0_change_23 rfl rfl ?_
      refine sw_iald dX0_change_24 rfl (by simp only [plA]; omega) ?_
      refine sw_iload_n dX0_change_25 rfl ?_
      refine sw_iadd dX0_change_26 ?_
      refine sw_iast dX0_change_27 rfl (by simp only [plA]; omega) ?_
      first | refine sw_iincN (b := 1) dX0_change_28 rfl (by decide) rfl ?_ | refine sw_iinc dX0_change_28 rfl rfl (by decide) rfl ?_
      refine sw_goto (tgt := 3) dX0_change_31 (by decide) ?_
      refine ih _ hS.set (fun k hk => ?_)
      rw [hset_eq]
      by_cases q : k = 8 * c + jnt (sm c) x
      · have e1 : k / 8 = c := by omega
        have e2 : k % 8 = jnt (sm c) x := by omega
        rw [if_pos ⟨rfl, q⟩, if_pos ⟨by omega, by rw [e1, e2]⟩, ← q, hg k hk, if_neg (fun r => by omega)]
      · rw [if_neg (fun r => q r.2), hg k hk]
        by_cases r : k / 8 < c ∧ jnt (sm (k / 8)) x = k % 8
        · rw [if_pos r, if_pos ⟨by omega, r.2⟩]
        · rw [if_neg r, if_neg]
          rintro ⟨r1, r2⟩
          by_cases e : k / 8 = c
          · rw [e] at r2
            omega
          · exact r ⟨by omega, r2⟩
/-- the parting's cells as the search has them -/
def frP (h : Hp) (T : Nat) (S : Int32 × Nat × (Nat → Nat)) (v : Option Value) (g : Hp) : Prop := v = some (.int S.1) ∧ (∀ k, k ≠ 10 → k ≠ 11 → k ≠ 12 → g k = h k) ∧ (∀ i, i ≠ 3 → g 10 i = h 10 i) ∧ g 10 3 = nI S.2.1 ∧ (S.1 = 1 → ∀ i, i < T → g 11 i = nI (S.2.2 i))
theorem findRow_loop (TT : TX h n z sm) {T : Nat} (hT : T ≤ 24) (hTot : h 10 2 = nI T) : ∀ (f p x tr : Nat) (lf rw : Nat → Nat) (g : Hp), p ≤ T → x ≤ 2 ^ n → tr ≤ 20000 → 2 * (20000 - tr) + p + 1 ≤ f → f ≤ 40001 → (∀ k, k < 64 → lf k + f ≤ 41001) → (∀ i, i < p → rw i < 2 ^ n) → (∀ k, k ≠ 10 → k ≠ 11 → k ≠ 12 → g k = h k) → (∀ i, i ≠ 3 → g 10 i = h 10 i) → g 10 3 = nI tr → (∀ i, i < p → g 11 i = nI (rw i)) → (∀ k, k < 64 → g 12 k = nI (lf k)) → SW jX0_findRow E0 (Zm (frP h T (srch (2 ^ n) T z sm f p x tr lf rw))) 7 [some (.ref 10), some (.ref 1), some (.int (nI p)), some (.int (nI x)), some (.int (nI (40001 - f)))] [] g := by
  have h64 := pow6 TT.1.1
  intro f
  induction f with
  | zero => intro p x tr lf rw g h1 h2 h3 h4; omega
  | succ f ih =>
    intro p x tr lf rw g hp hx htr hmu hf hlf hrw hg hg10 hg3 hg11 hg12
    have TG : TX g n z sm := TX_keep TT (hg 1 (by decide) (by decide) (by decide)) (hg 2 (by decide) (by decide) (by decide)) (hg 6 (by decide) (by decide) (by decide)) (hg 7 (by decide) (by decide) (by decide))
    have htot : g 10 2 = nI T := by rw [hg10 2 (by decide)]; exact hTot
    simp only [srch]
    refine sw_iload dX0_findRow_7 rfl ?_
    refine sw_ldc (v := nI 40000) dX0_findRow_9 (by decide +kernel) ?_
    refine sw_icmpN_gt (tgt := 124) dX0_findRow_11 (by decide) (by omega) (by omega) (fun hc => ?_) (fun hc => ?_)
    · omega
    · clear hc
      refine sw_iload_n dX0_findRow_14 rfl ?_
      refine sw_aload_n dX0_findRow_15 rfl ?_
      refine sw_getI dX0_findRow_16 flX0_18 ⟨by decide, _, rfl, rfl⟩ ?_
      rw [htot]
      refine sw_icmpN_ge (tgt := 124) dX0_findRow_19 (by decide) (by omega) (by omega) (fun hc => ?_) (fun hc => ?_)
      · rw [if_pos hc]
        have hpT : p = T := by omega
        refine sw_iload_n dX0_findRow_124 rfl ?_
        refine sw_aload_n dX0_findRow_125 rfl ?_
        refine sw_getI dX0_findRow_126 flX0_18 ⟨by decide, _, rfl, rfl⟩ ?_
        rw [htot]
        refine sw_icmpN_ne (tgt := 136) dX0_findRow_129 (by decide) (by omega) (by omega) (fun hc => ?_) (fun hc => ?_)
        · omega
        · refine sw_iconst (v := nI 1) dX0_findRow_132 (by decide) ?_
          refine sw_goto (tgt := 138) dX0_findRow_133 (by decide) ?_
          refine sw_iret dX0_findRow_138 rfl rfl rfl ?_
          exact ⟨rfl, hg, hg10, hg3, fun _ i hi => hg11 i (by omega)⟩
      · rw [if_neg (by omega)]
        have hpT := hc
        clear hc
        refine sw_iload_n dX0_findRow_22 rfl ?_
        refine sw_aload_n dX0_findRow_23 rfl ?_
        refine sw_cvi (i := 0) (c_hiddenCount TG.1.2.2.1 TG.1.1) dX0_findRow_24 lkX0_60 (by decide) ⟨by decide, _, rfl, rfl⟩ rfl rfl rfl (Nat.le_of_ble_eq_true rfl) ?_
        refine sw_icmpN_lt (tgt := 63) dX0_findRow_27 (by decide) (by omega) (by omega) (fun hc => ?_) (fun hc => ?_)
        · have hxn := hc
          rw [if_neg (by omega)]
          clear hc
          refine sw_aload_n dX0_findRow_63 rfl ?_
          refine sw_getI dX0_findRow_64 flX0_22 ⟨by decide, _, rfl, rfl⟩ ?_
          rw [hg3]
          refine sw_sipush (v := nI 20000) dX0_findRow_67 (by decide) ?_
          refine sw_icmpN_ne (tgt := 76) dX0_findRow_70 (by decide) (by omega) (by omega) (fun hc => ?_) (fun hc => ?_)
          · rw [if_neg hc]
            have htr2 := hc
            refine sw_aload_n dX0_findRow_76 rfl ?_
            refine sw_dup dX0_findRow_77 rfl ?_
            refine sw_getI dX0_findRow_78 flX0_22 ⟨by decide, _, rfl, rfl⟩ ?_
            rw [hg3]
            refine sw_iconst (v := nI 1) dX0_findRow_81 (by decide) ?_
            first | refine sw_iaddN dX0_findRow_82 ?_ | refine sw_iadd dX0_findRow_82 ?_
            refine sw_put dX0_findRow_83 fpX0_22 ⟨by decide, _, rfl, rfl⟩ rfl rfl ?_
            have TG2 : TX (hset g 10 3 (nI (tr + 1))) n z sm := TX_keep TG (hset_off 1 (by decide)) (hset_off 2 (by decide)) (hset_off 6 (by decide)) (hset_off 7 (by decide))
            have g12' : ∀ k, k < 64 → hset g 10 3 (nI (tr + 1)) 12 k = nI (lf k) := fun k hk => by rw [hset_k (by decide)]; exact hg12 k hk
            refine sw_aload_n dX0_findRow_86 rfl ?_
            refine sw_aload_n dX0_findRow_87 rfl ?_
            refine sw_iload_n dX0_findRow_88 rfl ?_
            refine sw_cvi (i := 0) (c_fits TG2 g12' (fun k hk => by have := hlf k hk; omega) hxn) dX0_findRow_89 lkX0_68 (by decide) ⟨by decide, _, rfl, rfl⟩ rfl rfl rfl (Nat.le_of_ble_eq_true rfl) ?_
            clear hc
            refine sw_if_eq (tgt := 115) dX0_findRow_92 (by decide) (fun hc => ?_) (fun hc => ?_)
            · have hfit := bI_0 hc
              rw [hfit]
              first | refine sw_iincN (b := 1) dX0_findRow_115 rfl (by decide) rfl ?_ | refine sw_iinc dX0_findRow_115 rfl rfl (by decide) rfl ?_
              first | refine sw_iincN (b := 1) dX0_findRow_118 rfl (by decide) rfl ?_ | refine sw_iinc dX0_findRow_118 rfl rfl (by decide) rfl ?_
              refine sw_goto (tgt := 7) dX0_findRow_121 (by decide) ?_
              rw [show 40001 - (f + 1) + 1 = 40001 - f by omega]
              refine ih p (x + 1) (tr + 1) lf rw _ hp (by omega) (by omega) (by omega) (by omega) (fun k hk => by have := hlf k hk; omega) hrw ?_ ?_ hset_at ?_ g12'
              · intro k k1 k2 k3
                rw [hset_off k k1]; exact hg k k1 k2 k3
              · intro i hi
                rw [hset_i hi]; exact hg10 i hi
              · intro i hi
                rw [hset_k (by decide)]; exact hg11 i hi
            · have hfit := bI_1 hc
              rw [if_pos hfit]
              clear hc
              refine sw_aload_n dX0_findRow_95 rfl ?_
              refine sw_aload_n dX0_findRow_96 rfl ?_
              refine sw_iload_n dX0_findRow_97 rfl ?_
              refine sw_iconst (v := (-1)) dX0_findRow_98 (by decide) ?_
              refine sw_callV (i := 0) (c_change TG2 hxn (-1)) dX0_findRow_99 lkX0_64 (by decide) ⟨by decide, _, rfl, rfl⟩ rfl rfl rfl (Nat.le_of_ble_eq_true rfl) (fun v h1 hq => ?_)
              obtain ⟨rfl, hS, hch⟩ := hq
              have e11 : h1 11 = g 11 := by rw [hS 11 (by decide), hset_off 11 (by decide)]
              refine sw_aload_n dX0_findRow_102 rfl ?_
              refine sw_getR dX0_findRow_103 flX0_9 ⟨by decide, _, rfl, rfl⟩ ?_
              refine sw_iload_n dX0_findRow_106 rfl ?_
              refine sw_iload_n dX0_findRow_107 rfl ?_
              refine sw_iast dX0_findRow_108 rfl (by simp only [plA]; omega) ?_
              first | refine sw_iincN (b := 1) dX0_findRow_109 rfl (by decide) rfl ?_ | refine sw_iinc dX0_findRow_109 rfl rfl (by decide) rfl ?_
              refine sw_goto (tgt := 118) dX0_findRow_112 (by decide) ?_
              first | refine sw_iincN (b := 1) dX0_findRow_118 rfl (by decide) rfl ?_ | refine sw_iinc dX0_findRow_118 rfl rfl (by decide) rfl ?_
              refine sw_goto (tgt := 7) dX0_findRow_121 (by decide) ?_
              rw [show 40001 - (f + 1) + 1 = 40001 - f by omega]
              refine ih (p + 1) x (tr + 1) (chD z sm lf x) (upN rw p x) _ (by omega) (by omega) (by omega) (by omega) (by omega) ?_ ?_ ?_ ?_ ?_ ?_ ?_
              · intro k hk
                have := hlf k hk
                unfold chD
                split <;> omega
              · intro i hi
                unfold upN
                split
                · exact hxn
                · exact hrw i (by omega)
              · intro k k1 k2 k3
                rw [hset_off k k2, hS k k3, hset_off k k1]; exact hg k k1 k2 k3
              · intro i hi
                rw [hset_k (by decide), hS 10 (by decide), hset_i hi]; exact hg10 i hi
              · rw [hset_k (by decide), hS 10 (by decide), hset_at]
              · intro i hi
                unfold upN
                by_cases q : i = p
                · rw [q, hset_at, if_pos rfl]
                · rw [hset_i q, if_neg q, e11]; exact hg11 i (by omega)
              · intro k hk
                rw [hset_k (by decide), hch k hk, g12' k hk]
                unfold chD
                by_cases q : k / 8 < z ∧ jnt (sm (k / 8)) x = k % 8
                · rw [if_pos q, if_pos q]
                  have hpos : 0 < lf k := by
                    have := (allB_t.mp hfit) (k / 8) q.1
                    have := of_decide_eq_true this
                    rw [q.2, Nat.div_add_mod] at this
                    exact this
                  exact sb_m1 hpos
                · rw [if_neg q, if_neg q]
          · rw [if_pos hc]
            refine sw_bipush (v := (-6)) dX0_findRow_73 (by decide) ?_
            refine sw_iret dX0_findRow_75 rfl rfl rfl ?_
            exact ⟨rfl, hg, hg10, by rw [hg3], fun q => absurd (show (-6 : Int32) = 1 from q) (by decide)⟩
        · have hxn : x = 2 ^ n := by omega
          rw [if_pos (by omega)]
          clear hc
          refine sw_iload_n dX0_findRow_30 rfl ?_
          refine sw_if_ne (tgt := 36) dX0_findRow_31 (by decide) (fun hc => ?_) (fun hc => ?_)
          · have hp0 : ¬ p = 0 := fun q => hc (by rw [q]; rfl)
            rw [if_neg hp0]
            clear hc
            obtain ⟨r, rfl⟩ : ∃ r, p = r + 1 := ⟨p - 1, by omega⟩
            have hrv := hg11 r (by omega)
            have hrr := hrw r (by omega)
            refine sw_iinc (v := nI r) dX0_findRow_36 rfl (pk_m1 r) (by decide) rfl ?_
            refine sw_aload_n dX0_findRow_39 rfl ?_
            refine sw_aload_n dX0_findRow_40 rfl ?_
            refine sw_aload_n dX0_findRow_41 rfl ?_
            refine sw_getR dX0_findRow_42 flX0_9 ⟨by decide, _, rfl, rfl⟩ ?_
            refine sw_iload_n dX0_findRow_45 rfl ?_
            refine sw_iald dX0_findRow_46 rfl (by simp only [plA]; omega) ?_
            rw [hrv]
            refine sw_iconst (v := nI 1) dX0_findRow_47 (by decide) ?_
            refine sw_callV (i := 0) (c_change TG hrr (nI 1)) dX0_findRow_48 lkX0_64 (by decide) ⟨by decide, _, rfl, rfl⟩ rfl rfl rfl (Nat.le_of_ble_eq_true rfl) (fun v h1 hq => ?_)
            obtain ⟨rfl, hS, hch⟩ := hq
            have e11 : h1 11 = g 11 := hS 11 (by decide)
            refine sw_aload_n dX0_findRow_51 rfl ?_
            refine sw_getR dX0_findRow_52 flX0_9 ⟨by decide, _, rfl, rfl⟩ ?_
            refine sw_iload_n dX0_findRow_55 rfl ?_
            refine sw_iald dX0_findRow_56 rfl (by simp only [plA]; omega) ?_
            rw [show h1 11 r = nI (rw r) by rw [e11]; exact hrv]
            refine sw_iconst (v := nI 1) dX0_findRow_57 (by decide) ?_
            first | refine sw_iaddN dX0_findRow_58 ?_ | refine sw_iadd dX0_findRow_58 ?_
            refine sw_istore_n dX0_findRow_59 (by decide) rfl ?_
            refine sw_goto (tgt := 118) dX0_findRow_60 (by decide) ?_
            first | refine sw_iincN (b := 1) dX0_findRow_118 rfl (by decide) rfl ?_ | refine sw_iinc dX0_findRow_118 rfl rfl (by decide) rfl ?_
            refine sw_goto (tgt := 7) dX0_findRow_121 (by decide) ?_
            rw [show 40001 - (f + 1) + 1 = 40001 - f by omega]
            refine ih r (rw r + 1) tr (chU z sm lf (rw r)) rw _ (by omega) (by omega) htr (by omega) (by omega) ?_ (fun i hi => hrw i (by omega)) ?_ ?_ ?_ ?_ ?_
            · intro k hk
              have := hlf k hk
              unfold chU
              split <;> omega
            · intro k k1 k2 k3
              rw [hS k k3]; exact hg k k1 k2 k3
            · intro i hi
              rw [hS 10 (by decide)]; exact hg10 i hi
            · rw [hS 10 (by decide)]; exact hg3
            · intro i hi
              rw [e11]; exact hg11 i (by omega)
            · intro k hk
              rw [hch k hk, hg12 k hk]
              unfold chU
              by_cases q : k / 8 < z ∧ jnt (sm (k / 8)) (rw r) = k % 8
              · rw [if_pos q, if_pos q, nI_add]
              · rw [if_neg q, if_neg q]
          · have hp0 : p = 0 := (nI_eq (by omega) (by omega)).mp hc
            rw [if_pos hp0]
            refine sw_iconst (v := nI 0) dX0_findRow_34 (by decide) ?_
            refine sw_iret dX0_findRow_35 rfl rfl rfl ?_
            exact ⟨rfl, hg, hg10, hg3, fun q => absurd (show (nI 0) = 1 from q) (by decide)⟩
theorem c_findRow (TT : TX h n z sm) {T : Nat} (hT : T ≤ 24) (hTot : h 10 2 = nI T) (hTr : h 10 3 = nI 0) {lf : Nat → Nat} (hl : ∀ k, k < 64 → h 12 k = nI (lf k)) (hb : ∀ k, k < 64 → lf k ≤ 1000) : Ctr jX0_findRow [.ref 10, .ref 1] h (frP h T (srch (2 ^ n) T z sm 40001 0 0 0 lf (fun _ => 0))) := by
  refine ctr_start (by decide) (Nat.le_of_ble_eq_true rfl) rfl rfl ?_
  show SW jX0_findRow E0 _ 0 [some (.ref 10), some (.ref 1), none, none, none] [] _
  refine sw_iconst (v := nI 0) dX0_findRow_0 (by decide) ?_
  refine sw_istore_n dX0_findRow_1 (by decide) rfl ?_
  refine sw_iconst (v := nI 0) dX0_findRow_2 (by decide) ?_
  refine sw_istore_n dX0_findRow_3 (by decide) rfl ?_
  refine sw_iconst (v := nI 0) dX0_findRow_4 (by decide) ?_
  refine sw_istore dX0_findRow_5 (by decide) rfl ?_
  exact findRow_loop TT hT hTot 40001 0 0 0 lf _ h (by omega) (Nat.zero_le _) (by omega) (by omega) (by omega) (fun k hk => by have := hb k hk; omega) (fun i hi => absurd hi (Nat.not_lt_zero _)) (fun _ _ _ _ => rfl) (fun _ _ => rfl) hTr (fun i hi => absurd hi (Nat.not_lt_zero _)) hl
end PART
