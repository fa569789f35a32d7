/-! ranges, truth, sums -/
def bI (b : Bool) : Int32 := if b then nI 1 else nI 0
theorem bI_nar (b : Bool) : narrow .boolean (.int (bI b)) = .int (bI b) := by cases b <;> decide
theorem bI_t : bI true = nI 1 := rfl
theorem bI_f : bI false = nI 0 := rfl
theorem bI_0 {b : Bool} (h : bI b = 0) : b = false := by cases b <;> first | rfl | exact absurd h (by decide)
theorem bI_1 {b : Bool} (h : ¬ bI b = 0) : b = true := by cases b <;> first | rfl | exact absurd (by decide) h
def rg (lo hi : Int) (v : Int32) : Bool := decide (lo ≤ v.toInt ∧ v.toInt ≤ hi)
theorem rg_t {lo hi : Int} {v : Int32} (h1 : lo ≤ v.toInt) (h2 : v.toInt ≤ hi) : rg lo hi v = true := decide_eq_true ⟨h1, h2⟩
theorem rg_f1 {lo hi : Int} {v : Int32} (h1 : v.toInt < lo) : rg lo hi v = false := decide_eq_false (fun q => by omega)
theorem rg_f2 {lo hi : Int} {v : Int32} (h1 : hi < v.toInt) : rg lo hi v = false := decide_eq_false (fun q => by omega)
theorem rg_nat {z : Nat} {c : Int32} (hz : z < 2 ^ 31) (h : rg 0 ((z : Int) - 1) c = true) : ∃ k, k < z ∧ c = nI k := by
  have h := of_decide_eq_true h
  have := vp_in_of (x := c) (n := z) (vp_in_iff.mpr ⟨h.1, by omega⟩) hz
  exact this
theorem rg_nI {z k : Nat} (hz : z < 2 ^ 31) (h : k < z) : rg 0 ((z : Int) - 1) (nI k) = true := rg_t (by rw [nI_toInt (by omega)]; omega) (by rw [nI_toInt (by omega)]; omega)
theorem rg_nat2 {z : Nat} {c : Int32} (hz : z < 2 ^ 30) (h : rg 0 (z : Int) c = true) : ∃ k, k ≤ z ∧ c = nI k := by
  have h2 : rg 0 (((z + 1 : Nat) : Int) - 1) c = true := by
    rw [show ((z + 1 : Nat) : Int) - 1 = (z : Int) by omega]
    exact h
  obtain ⟨k, h3, h4⟩ := rg_nat (z := z + 1) (by omega) h2
  exact ⟨k, by omega, h4⟩
theorem i_lt {x y : Int32} : x < y ↔ x.toInt < y.toInt := Int32.lt_iff_toInt_lt
theorem i_le {x y : Int32} : x ≤ y ↔ x.toInt ≤ y.toInt := Int32.le_iff_toInt_le
theorem t_0 : (0 : Int32).toInt = 0 := by decide
theorem t_N {k : Nat} (h : k < 2 ^ 31) : (nI k).toInt = (k : Int) := nI_toInt h
def sI (f : Nat → Int32) : Nat → Int32
  | 0 => 0
  | n + 1 => sI f n + f n
theorem sI_cong {f g : Nat → Int32} : ∀ {n : Nat}, (∀ k, k < n → f k = g k) → sI f n = sI g n
  | 0, _ => rfl
  | n + 1, h => by simp only [sI]; rw [sI_cong (fun k hk => h k (by omega)), h n (by omega)]
theorem sI_zero {f : Nat → Int32} {k : Nat} : ∀ {n : Nat}, k ≤ n → (∀ j, k ≤ j → j < n → f j = 0) → sI f n = sI f k
  | 0, h1, h2 => by rw [show k = 0 by omega]
  | n + 1, h1, h2 => by
    rcases Nat.lt_or_ge n k with q | q
    · rw [show k = n + 1 by omega]
    · simp only [sI]
      rw [h2 n q (by omega), sI_zero q (fun j a b => h2 j a (by omega))]
      simp
def allB (p : Nat → Bool) : Nat → Bool
  | 0 => true
  | n + 1 => allB p n && p n
theorem allB_cong {p q : Nat → Bool} : ∀ {n : Nat}, (∀ k, k < n → p k = q k) → allB p n = allB q n
  | 0, _ => rfl
  | n + 1, h => by simp only [allB]; rw [allB_cong (fun k hk => h k (by omega)), h n (by omega)]
theorem allB_f {p : Nat → Bool} {k : Nat} : ∀ {n : Nat}, k < n → p k = false → allB p n = false
  | 0, h, _ => absurd h (Nat.not_lt_zero _)
  | n + 1, h, hp => by
    simp only [allB]
    rcases Nat.lt_or_ge k n with q | q
    · rw [allB_f q hp]; rfl
    · rw [show n = k by omega, hp, Bool.and_false]
theorem allB_t {p : Nat → Bool} : ∀ {n : Nat}, allB p n = true ↔ ∀ k, k < n → p k = true
  | 0 => ⟨fun _ k h => absurd h (Nat.not_lt_zero _), fun _ => rfl⟩
  | n + 1 => by
    simp only [allB, Bool.and_eq_true]
    rw [allB_t]
    constructor
    · intro h k hk
      rcases Nat.lt_or_ge k n with q | q
      · exact h.1 k q
      · rw [show k = n by omega]; exact h.2
    · intro h
      exact ⟨fun k hk => h k (by omega), h n (by omega)⟩
/-- the bits of j laid where s has its own -/
def dp (s j : Nat) : Nat → Nat
  | 0 => 0
  | k + 1 => dp s j k + (if s / 2 ^ k % 2 = 1 then j / 2 ^ bs s k % 2 * 2 ^ k else 0)
theorem pop6 : ∀ s, s < 64 → pop s = bs s 6 := by decide +kernel
theorem jnt_lt {s : Nat} (hs : s < 64) (x : Nat) : jnt s x < 2 ^ pop s := by rw [pop6 s hs]; exact jn_lt s x 6
/-- the class's table: n looks, z sets of looks sm -/
def TX (h : Hp) (n z : Nat) (sm : Nat → Nat) : Prop :=
  (n ≤ 6 ∧ z ≤ 8 ∧ h 1 0 = nI n ∧ h 1 1 = nI z) ∧ (∀ c, c < z → h 2 c = nI (sm c) ∧ 1 ≤ sm c ∧ sm c < 2 ^ n ∧ pop (sm c) ≤ 3) ∧ (∀ c x, c < z → x < 2 ^ n → h 7 (64 * c + x) = nI (8 * c + jnt (sm c) x)) ∧ ∀ c j, c < z → j < 2 ^ pop (sm c) → h 6 (8 * c + j) = nI (dp (sm c) j 6)
theorem TX.s64 {h : Hp} {n z : Nat} {sm : Nat → Nat} (T : TX h n z sm) {c : Nat} (hc : c < z) : sm c < 64 := Nat.lt_of_lt_of_le (T.2.1 c hc).2.2.1 (pow6 T.1.1)
theorem pow3 {k : Nat} (h : k ≤ 3) : 2 ^ k ≤ 8 := Nat.pow_le_pow_right (by omega) h
theorem TX.j8 {h : Hp} {n z : Nat} {sm : Nat → Nat} (T : TX h n z sm) {c : Nat} (hc : c < z) (x : Nat) : jnt (sm c) x < 8 := Nat.lt_of_lt_of_le (jnt_lt (T.s64 hc) x) (pow3 (T.2.1 c hc).2.2.2)
section TAB
variable {h : Hp} {n z : Nat} {sm : Nat → Nat}
theorem c_hasSet (T : TX h n z sm) (c : Int32) : Ctr jX3_hasSet [.ref 1, .int c] h (Ret (bI (rg 0 ((z : Int) - 1) c)) h) := by
  obtain ⟨⟨hn6, hz8, hn, hz⟩, -⟩ := T
  refine ctr_start (by decide) (Nat.le_of_ble_eq_true rfl) rfl rfl ?_
  show SW jX3_hasSet E0 _ 0 [some (.ref 1), some (.int c)] [] _
  refine sw_iload_n dX3_hasSet_0 rfl ?_
  refine sw_if_lt (tgt := 16) dX3_hasSet_1 (by decide) (fun hc => ?_) (fun hc => ?_)
  · rw [i_lt, t_0] at hc
    refine sw_iconst (v := nI 0) dX3_hasSet_16 (by decide) ?_
    refine sw_zret dX3_hasSet_17 rfl rfl rfl rfl ?_
    exact ⟨by rw [rg_f1 hc]; rfl, rfl⟩
  · rw [i_lt, t_0] at hc
    refine sw_iload_n dX3_hasSet_4 rfl ?_
    refine sw_aload_n dX3_hasSet_5 rfl ?_
    refine sw_getI dX3_hasSet_6 flX3_15 ⟨by decide, _, rfl, rfl⟩ ?_
    rw [hz]
    have hc0 := hc
    clear hc
    refine sw_icmp_ge (tgt := 16) dX3_hasSet_9 (by decide) (fun hc => ?_) (fun hc => ?_)
    · rw [i_le, t_N (by omega)] at hc
      refine sw_iconst (v := nI 0) dX3_hasSet_16 (by decide) ?_
      refine sw_zret dX3_hasSet_17 rfl rfl rfl rfl ?_
      exact ⟨by rw [rg_f2 (by omega)]; rfl, rfl⟩
    · rw [i_le, t_N (by omega)] at hc
      refine sw_iconst (v := nI 1) dX3_hasSet_12 (by decide) ?_
      refine sw_goto (tgt := 17) dX3_hasSet_13 (by decide) ?_
      refine sw_zret dX3_hasSet_17 rfl rfl rfl rfl ?_
      exact ⟨by rw [rg_t (by omega) (by omega)]; rfl, rfl⟩
theorem c_jointCount (T : TX h n z sm) {c : Nat} (hc : c < z) : Ctr jX3_jointCount [.ref 1, .int (nI c)] h (Ret (nI (2 ^ pop (sm c))) h) := by
  have h64 := T.s64 hc
  obtain ⟨⟨hn6, hz8, hn, hz⟩, hs, -⟩ := T
  obtain ⟨s1, s2, s3, s4⟩ := hs c hc
  have hp := pow3 s4
  refine ctr_start (by decide) (Nat.le_of_ble_eq_true rfl) rfl rfl ?_
  show SW jX3_jointCount E0 _ 0 [some (.ref 1), some (.int (nI c))] [] _
  refine sw_iconst (v := nI 1) dX3_jointCount_0 (by decide) ?_
  refine sw_aload_n dX3_jointCount_1 rfl ?_
  refine sw_getR dX3_jointCount_2 flX3_21 ⟨by decide, _, rfl, rfl⟩ ?_
  refine sw_iload_n dX3_jointCount_5 rfl ?_
  refine sw_iald dX3_jointCount_6 rfl (by simp only [plA]; omega) ?_
  rw [s1]
  refine sw_csi (c_bitCount (by omega)) dX3_jointCount_7 lkX3_55 (by decide) rfl rfl (Nat.le_of_ble_eq_true rfl) ?_
  first | refine sw_ishlN dX3_jointCount_10 (by omega) (by omega) ?_ | refine sw_ishl dX3_jointCount_10 ?_
  refine sw_iret dX3_jointCount_11 rfl rfl rfl ?_
  rw [Nat.one_mul]
  exact ⟨rfl, rfl⟩
theorem c_hasJoint (T : TX h n z sm) (c j : Int32) : Ctr jX3_hasJoint [.ref 1, .int c, .int j] h (Ret (bI (rg 0 ((z : Int) - 1) c && rg 0 (((2 ^ pop (sm c.toNatClampNeg) : Nat) : Int) - 1) j)) h) := by
  have hz8 := T.1.2.1
  refine ctr_start (by decide) (Nat.le_of_ble_eq_true rfl) rfl rfl ?_
  show SW jX3_hasJoint E0 _ 0 [some (.ref 1), some (.int c), some (.int j)] [] _
  refine sw_aload_n dX3_hasJoint_0 rfl ?_
  refine sw_iload_n dX3_hasJoint_1 rfl ?_
  refine sw_cvi (i := 0) (c_hasSet T c) dX3_hasJoint_2 lkX3_47 (by decide) ⟨by decide, _, rfl, rfl⟩ rfl rfl rfl (Nat.le_of_ble_eq_true rfl) ?_
  refine sw_if_eq (tgt := 25) dX3_hasJoint_5 (by decide) (fun hc => ?_) (fun hc => ?_)
  · have hx := bI_0 hc
    refine sw_iconst (v := nI 0) dX3_hasJoint_25 (by decide) ?_
    refine sw_zret dX3_hasJoint_26 rfl rfl rfl rfl ?_
    exact ⟨by rw [hx]; rfl, rfl⟩
  · have hx := bI_1 hc
    obtain ⟨k, hk, rfl⟩ := rg_nat (by omega) hx
    rw [nI_clamp (by omega), hx]
    have hp := pow3 (T.2.1 k hk).2.2.2
    clear hc
    refine sw_iload_n dX3_hasJoint_8 rfl ?_
    refine sw_if_lt (tgt := 25) dX3_hasJoint_9 (by decide) (fun hc => ?_) (fun hc => ?_)
    · rw [i_lt, t_0] at hc
      refine sw_iconst (v := nI 0) dX3_hasJoint_25 (by decide) ?_
      refine sw_zret dX3_hasJoint_26 rfl rfl rfl rfl ?_
      exact ⟨by rw [rg_f1 hc]; rfl, rfl⟩
    · rw [i_lt, t_0] at hc
      have hc0 := hc
      clear hc
      refine sw_iload_n dX3_hasJoint_12 rfl ?_
      refine sw_aload_n dX3_hasJoint_13 rfl ?_
      refine sw_iload_n dX3_hasJoint_14 rfl ?_
      refine sw_cvi (i := 0) (c_jointCount T hk) dX3_hasJoint_15 lkX3_51 (by decide) ⟨by decide, _, rfl, rfl⟩ rfl rfl rfl (Nat.le_of_ble_eq_true rfl) ?_
      refine sw_icmp_ge (tgt := 25) dX3_hasJoint_18 (by decide) (fun hc => ?_) (fun hc => ?_)
      · rw [i_le, t_N (by omega)] at hc
        refine sw_iconst (v := nI 0) dX3_hasJoint_25 (by decide) ?_
        refine sw_zret dX3_hasJoint_26 rfl rfl rfl rfl ?_
        exact ⟨by rw [rg_f2 (by omega)]; rfl, rfl⟩
      · rw [i_le, t_N (by omega)] at hc
        refine sw_iconst (v := nI 1) dX3_hasJoint_21 (by decide) ?_
        refine sw_goto (tgt := 26) dX3_hasJoint_22 (by decide) ?_
        refine sw_zret dX3_hasJoint_26 rfl rfl rfl rfl ?_
        exact ⟨by rw [rg_t (by omega) (by omega)]; rfl, rfl⟩
theorem c_placeBy (T : TX h n z sm) {c x : Nat} (hc : c < z) (hx : x < 2 ^ n) : Ctr jX3_placeBy [.ref 1, .int (nI c), .int (nI x)] h (Ret (nI (8 * c + jnt (sm c) x)) h) := by
  obtain ⟨⟨hn6, hz8, hn, hz⟩, hs, hp, -⟩ := T
  have h64 := pow6 hn6
  refine ctr_start (by decide) (Nat.le_of_ble_eq_true rfl) rfl rfl ?_
  show SW jX3_placeBy E0 _ 0 [some (.ref 1), some (.int (nI c)), some (.int (nI x))] [] _
  refine sw_aload_n dX3_placeBy_0 rfl ?_
  refine sw_getR dX3_placeBy_1 flX3_37 ⟨by decide, _, rfl, rfl⟩ ?_
  refine sw_bipush (v := nI 64) dX3_placeBy_4 (by decide) ?_
  refine sw_iload_n dX3_placeBy_6 rfl ?_
  first | refine sw_imulN dX3_placeBy_7 ?_ | refine sw_imul dX3_placeBy_7 ?_
  refine sw_iload_n dX3_placeBy_8 rfl ?_
  first | refine sw_iaddN dX3_placeBy_9 ?_ | refine sw_iadd dX3_placeBy_9 ?_
  refine sw_iald dX3_placeBy_10 rfl (by simp only [plA]; omega) ?_
  rw [hp c x hc hx]
  refine sw_iret dX3_placeBy_11 rfl rfl rfl ?_
  exact ⟨rfl, rfl⟩
theorem c_hasSetOf (T : TX h n z sm) (v : Int32) : Ctr jX3_hasSetOf [.ref 1, .int v] h (Ret (bI (!allB (fun c => decide (¬ h 2 c = v)) z)) h) := by
  obtain ⟨⟨hn6, hz8, hn, hz⟩, -⟩ := T
  refine ctr_start (by decide) (Nat.le_of_ble_eq_true rfl) rfl rfl ?_
  show SW jX3_hasSetOf E0 _ 0 [some (.ref 1), some (.int v), none] [] _
  refine sw_iconst (v := nI 0) dX3_hasSetOf_0 (by decide) ?_
  refine sw_istore_n dX3_hasSetOf_1 (by decide) rfl ?_
  refine lp_up (n := z) (S := fun i => allB (fun c => decide (¬ h 2 c = v)) i = true → SW jX3_hasSetOf E0 (Zm (Ret (bI (!allB (fun c => decide (¬ h 2 c = v)) z)) h)) 2 [some (.ref 1), some (.int v), some (.int (nI i))] [] h) ?_ ?_ 0 (by omega) rfl
  · intro ha
    refine sw_iload_n dX3_hasSetOf_2 rfl ?_
    refine sw_aload_n dX3_hasSetOf_3 rfl ?_
    refine sw_getI dX3_hasSetOf_4 flX3_15 ⟨by decide, _, rfl, rfl⟩ ?_
    rw [hz]
    refine sw_icmpN_ge (tgt := 28) dX3_hasSetOf_7 (by decide) (by omega) (by omega) (fun hc => ?_) (fun hc => ?_)
    · refine sw_iconst (v := nI 0) dX3_hasSetOf_28 (by decide) ?_
      refine sw_zret dX3_hasSetOf_29 rfl rfl rfl rfl ?_
      exact ⟨by rw [ha]; rfl, rfl⟩
    · omega
  · intro i hi ih ha
    refine sw_iload_n dX3_hasSetOf_2 rfl ?_
    refine sw_aload_n dX3_hasSetOf_3 rfl ?_
    refine sw_getI dX3_hasSetOf_4 flX3_15 ⟨by decide, _, rfl, rfl⟩ ?_
    rw [hz]
    refine sw_icmpN_ge (tgt := 28) dX3_hasSetOf_7 (by decide) (by omega) (by omega) (fun hc => ?_) (fun hc => ?_)
    · omega
    · refine sw_aload_n dX3_hasSetOf_10 rfl ?_
      refine sw_getR dX3_hasSetOf_11 flX3_21 ⟨by decide, _, rfl, rfl⟩ ?_
      refine sw_iload_n dX3_hasSetOf_14 rfl ?_
      refine sw_iald dX3_hasSetOf_15 rfl (by simp only [plA]; omega) ?_
      refine sw_iload_n dX3_hasSetOf_16 rfl ?_
      clear hc
      refine sw_icmp_ne (tgt := 22) dX3_hasSetOf_17 (by decide) (fun hc => ?_) (fun hc => ?_)
      · first | refine sw_iincN (b := 1) dX3_hasSetOf_22 rfl (by decide) rfl ?_ | refine sw_iinc dX3_hasSetOf_22 rfl rfl (by decide) rfl ?_
        refine sw_goto (tgt := 2) dX3_hasSetOf_25 (by decide) ?_
        exact ih (by simp only [allB, ha, Bool.true_and]; exact decide_eq_true hc)
      · refine sw_iconst (v := nI 1) dX3_hasSetOf_20 (by decide) ?_
        refine sw_zret dX3_hasSetOf_21 rfl rfl rfl rfl ?_
        exact ⟨by rw [allB_f hi (decide_eq_false (fun q => q hc))]; rfl, rfl⟩
theorem c_weightSum (T : TX h n z sm) {c : Nat} (hc : c < z) : Ctr jX3_weightSum [.ref 1, .int (nI c)] h (Ret (sI (fun j => h 4 (8 * c + j)) (2 ^ pop (sm c))) h) := by
  have hz8 := T.1.2.1
  have hp := pow3 (T.2.1 c hc).2.2.2
  have hcc := hc
  clear hc
  refine ctr_start (by decide) (Nat.le_of_ble_eq_true rfl) rfl rfl ?_
  show SW jX3_weightSum E0 _ 0 [some (.ref 1), some (.int (nI c)), none, none] [] _
  refine sw_iconst (v := nI 0) dX3_weightSum_0 (by decide) ?_
  refine sw_istore_n dX3_weightSum_1 (by decide) rfl ?_
  refine sw_iconst (v := nI 0) dX3_weightSum_2 (by decide) ?_
  refine sw_istore_n dX3_weightSum_3 (by decide) rfl ?_
  refine lp_up (n := 2 ^ pop (sm c)) (S := fun i => SW jX3_weightSum E0 (Zm (Ret (sI (fun j => h 4 (8 * c + j)) (2 ^ pop (sm c))) h)) 4 [some (.ref 1), some (.int (nI c)), some (.int (sI (fun j => h 4 (8 * c + j)) i)), some (.int (nI i))] [] h) ?_ ?_ 0 (Nat.zero_le _)
  · refine sw_iload_n dX3_weightSum_4 rfl ?_
    refine sw_aload_n dX3_weightSum_5 rfl ?_
    refine sw_iload_n dX3_weightSum_6 rfl ?_
    refine sw_cvi (i := 0) (c_jointCount T hcc) dX3_weightSum_7 lkX3_51 (by decide) ⟨by decide, _, rfl, rfl⟩ rfl rfl rfl (Nat.le_of_ble_eq_true rfl) ?_
    refine sw_icmpN_ge (tgt := 33) dX3_weightSum_10 (by decide) (by omega) (by omega) (fun hc => ?_) (fun hc => ?_)
    · refine sw_iload_n dX3_weightSum_33 rfl ?_
      refine sw_iret dX3_weightSum_34 rfl rfl rfl ?_
      exact ⟨rfl, rfl⟩
    · omega
  · intro i hi ih
    refine sw_iload_n dX3_weightSum_4 rfl ?_
    refine sw_aload_n dX3_weightSum_5 rfl ?_
    refine sw_iload_n dX3_weightSum_6 rfl ?_
    refine sw_cvi (i := 0) (c_jointCount T hcc) dX3_weightSum_7 lkX3_51 (by decide) ⟨by decide, _, rfl, rfl⟩ rfl rfl rfl (Nat.le_of_ble_eq_true rfl) ?_
    refine sw_icmpN_ge (tgt := 33) dX3_weightSum_10 (by decide) (by omega) (by omega) (fun hc => ?_) (fun hc => ?_)
    · omega
    · refine sw_iload_n dX3_weightSum_13 rfl ?_
      refine sw_aload_n dX3_weightSum_14 rfl ?_
      refine sw_getR dX3_weightSum_15 flX3_28 ⟨by decide, _, rfl, rfl⟩ ?_
      refine sw_bipush (v := nI 8) dX3_weightSum_18 (by decide) ?_
      refine sw_iload_n dX3_weightSum_20 rfl ?_
      first | refine sw_imulN dX3_weightSum_21 ?_ | refine sw_imul dX3_weightSum_21 ?_
      refine sw_iload_n dX3_weightSum_22 rfl ?_
      first | refine sw_iaddN dX3_weightSum_23 ?_ | refine sw_iadd dX3_weightSum_23 ?_
      refine sw_iald dX3_weightSum_24 rfl (by simp only [plA]; omega) ?_
      first | refine sw_iaddN dX3_weightSum_25 ?_ | refine sw_iadd dX3_weightSum_25 ?_
      refine sw_istore_n dX3_weightSum_26 (by decide) rfl ?_
      first | refine sw_iincN (b := 1) dX3_weightSum_27 rfl (by decide) rfl ?_ | refine sw_iinc dX3_weightSum_27 rfl rfl (by decide) rfl ?_
      refine sw_goto (tgt := 4) dX3_weightSum_30 (by decide) ?_
      exact ih
theorem c_isPossible (T : TX h n z sm) {x : Nat} (hx : x < 2 ^ n) : Ctr jX3_isPossible [.ref 1, .int (nI x)] h (Ret (bI (allB (fun c => decide (¬ h 4 (8 * c + jnt (sm c) x) = 0)) z)) h) := by
  have hz8 := T.1.2.1
  have hz := T.1.2.2.2
  refine ctr_start (by decide) (Nat.le_of_ble_eq_true rfl) rfl rfl ?_
  show SW jX3_isPossible E0 _ 0 [some (.ref 1), some (.int (nI x)), none] [] _
  refine sw_iconst (v := nI 0) dX3_isPossible_0 (by decide) ?_
  refine sw_istore_n dX3_isPossible_1 (by decide) rfl ?_
  refine lp_up (n := z) (S := fun i => allB (fun c => decide (¬ h 4 (8 * c + jnt (sm c) x) = 0)) i = true → SW jX3_isPossible E0 (Zm (Ret (bI (allB (fun c => decide (¬ h 4 (8 * c + jnt (sm c) x) = 0)) z)) h)) 2 [some (.ref 1), some (.int (nI x)), some (.int (nI i))] [] h) ?_ ?_ 0 (by omega) rfl
  · intro ha
    refine sw_iload_n dX3_isPossible_2 rfl ?_
    refine sw_aload_n dX3_isPossible_3 rfl ?_
    refine sw_getI dX3_isPossible_4 flX3_15 ⟨by decide, _, rfl, rfl⟩ ?_
    rw [hz]
    refine sw_icmpN_ge (tgt := 32) dX3_isPossible_7 (by decide) (by omega) (by omega) (fun hc => ?_) (fun hc => ?_)
    · refine sw_iconst (v := nI 1) dX3_isPossible_32 (by decide) ?_
      refine sw_zret dX3_isPossible_33 rfl rfl rfl rfl ?_
      exact ⟨by rw [ha]; rfl, rfl⟩
    · omega
  · intro i hi ih ha
    have hj := T.j8 hi x
    refine sw_iload_n dX3_isPossible_2 rfl ?_
    refine sw_aload_n dX3_isPossible_3 rfl ?_
    refine sw_getI dX3_isPossible_4 flX3_15 ⟨by decide, _, rfl, rfl⟩ ?_
    rw [hz]
    refine sw_icmpN_ge (tgt := 32) dX3_isPossible_7 (by decide) (by omega) (by omega) (fun hc => ?_) (fun hc => ?_)
    · omega
    · refine sw_aload_n dX3_isPossible_10 rfl ?_
      refine sw_getR dX3_isPossible_11 flX3_28 ⟨by decide, _, rfl, rfl⟩ ?_
      refine sw_aload_n dX3_isPossible_14 rfl ?_
      refine sw_iload_n dX3_isPossible_15 rfl ?_
      refine sw_iload_n dX3_isPossible_16 rfl ?_
      refine sw_cvi (i := 0) (c_placeBy T hi hx) dX3_isPossible_17 lkX3_74 (by decide) ⟨by decide, _, rfl, rfl⟩ rfl rfl rfl (Nat.le_of_ble_eq_true rfl) ?_
      refine sw_iald dX3_isPossible_20 rfl (by simp only [plA]; omega) ?_
      clear hc
      refine sw_if_ne (tgt := 26) dX3_isPossible_21 (by decide) (fun hc => ?_) (fun hc => ?_)
      · first | refine sw_iincN (b := 1) dX3_isPossible_26 rfl (by decide) rfl ?_ | refine sw_iinc dX3_isPossible_26 rfl rfl (by decide) rfl ?_
        refine sw_goto (tgt := 2) dX3_isPossible_29 (by decide) ?_
        exact ih (by simp only [allB, ha, Bool.true_and]; exact decide_eq_true hc)
      · refine sw_iconst (v := nI 0) dX3_isPossible_24 (by decide) ?_
        refine sw_zret dX3_isPossible_25 rfl rfl rfl rfl ?_
        exact ⟨by rw [allB_f hi (decide_eq_false (fun q => q hc))]; rfl, rfl⟩
theorem c_stakeSum (T : TX h n z sm) {x : Nat} (hx : x < 2 ^ n) : Ctr jX3_stakeSum [.ref 1, .int (nI x)] h (Ret (sI (fun c => h 5 (8 * c + jnt (sm c) x)) z) h) := by
  have hz8 := T.1.2.1
  have hz := T.1.2.2.2
  refine ctr_start (by decide) (Nat.le_of_ble_eq_true rfl) rfl rfl ?_
  show SW jX3_stakeSum E0 _ 0 [some (.ref 1), some (.int (nI x)), none, none] [] _
  refine sw_iconst (v := nI 0) dX3_stakeSum_0 (by decide) ?_
  refine sw_istore_n dX3_stakeSum_1 (by decide) rfl ?_
  refine sw_iconst (v := nI 0) dX3_stakeSum_2 (by decide) ?_
  refine sw_istore_n dX3_stakeSum_3 (by decide) rfl ?_
  refine lp_up (n := z) (S := fun i => SW jX3_stakeSum E0 (Zm (Ret (sI (fun c => h 5 (8 * c + jnt (sm c) x)) z) h)) 4 [some (.ref 1), some (.int (nI x)), some (.int (sI (fun c => h 5 (8 * c + jnt (sm c) x)) i)), some (.int (nI i))] [] h) ?_ ?_ 0 (by omega)
  · refine sw_iload_n dX3_stakeSum_4 rfl ?_
    refine sw_aload_n dX3_stakeSum_5 rfl ?_
    refine sw_getI dX3_stakeSum_6 flX3_15 ⟨by decide, _, rfl, rfl⟩ ?_
    rw [hz]
    refine sw_icmpN_ge (tgt := 32) dX3_stakeSum_9 (by decide) (by omega) (by omega) (fun hc => ?_) (fun hc => ?_)
    · refine sw_iload_n dX3_stakeSum_32 rfl ?_
      refine sw_iret dX3_stakeSum_33 rfl rfl rfl ?_
      exact ⟨rfl, rfl⟩
    · omega
  · intro i hi ih
    have hj := T.j8 hi x
    refine sw_iload_n dX3_stakeSum_4 rfl ?_
    refine sw_aload_n dX3_stakeSum_5 rfl ?_
    refine sw_getI dX3_stakeSum_6 flX3_15 ⟨by decide, _, rfl, rfl⟩ ?_
    rw [hz]
    refine sw_icmpN_ge (tgt := 32) dX3_stakeSum_9 (by decide) (by omega) (by omega) (fun hc => ?_) (fun hc => ?_)
    · omega
    · refine sw_iload_n dX3_stakeSum_12 rfl ?_
      refine sw_aload_n dX3_stakeSum_13 rfl ?_
      refine sw_getR dX3_stakeSum_14 flX3_31 ⟨by decide, _, rfl, rfl⟩ ?_
      refine sw_aload_n dX3_stakeSum_17 rfl ?_
      refine sw_iload_n dX3_stakeSum_18 rfl ?_
      refine sw_iload_n dX3_stakeSum_19 rfl ?_
      refine sw_cvi (i := 0) (c_placeBy T hi hx) dX3_stakeSum_20 lkX3_74 (by decide) ⟨by decide, _, rfl, rfl⟩ rfl rfl rfl (Nat.le_of_ble_eq_true rfl) ?_
      refine sw_iald dX3_stakeSum_23 rfl (by simp only [plA]; omega) ?_
      first | refine sw_iaddN dX3_stakeSum_24 ?_ | refine sw_iadd dX3_stakeSum_24 ?_
      refine sw_istore_n dX3_stakeSum_25 (by decide) rfl ?_
      first | refine sw_iincN (b := 1) dX3_stakeSum_26 rfl (by decide) rfl ?_ | refine sw_iinc dX3_stakeSum_26 rfl rfl (by decide) rfl ?_
      refine sw_goto (tgt := 4) dX3_stakeSum_29 (by decide) ?_
      exact ih
theorem c_stakesTimesWeights (T : TX h n z sm) : Ctr jX3_stakesTimesWeights [.ref 1] h (Ret (sI (fun k => h 5 k * h 4 k) (8 * z)) h) := by
  have hz8 := T.1.2.1
  have hz := T.1.2.2.2
  refine ctr_start (by decide) (Nat.le_of_ble_eq_true rfl) rfl rfl ?_
  show SW jX3_stakesTimesWeights E0 _ 0 [some (.ref 1), none, none] [] _
  refine sw_iconst (v := nI 0) dX3_stakesTimesWeights_0 (by decide) ?_
  refine sw_istore_n dX3_stakesTimesWeights_1 (by decide) rfl ?_
  refine sw_iconst (v := nI 0) dX3_stakesTimesWeights_2 (by decide) ?_
  refine sw_istore_n dX3_stakesTimesWeights_3 (by decide) rfl ?_
  refine lp_up (n := 8 * z) (S := fun i => SW jX3_stakesTimesWeights E0 (Zm (Ret (sI (fun k => h 5 k * h 4 k) (8 * z)) h)) 4 [some (.ref 1), some (.int (sI (fun k => h 5 k * h 4 k) i)), some (.int (nI i))] [] h) ?_ ?_ 0 (by omega)
  · refine sw_iload_n dX3_stakesTimesWeights_4 rfl ?_
    refine sw_bipush (v := nI 8) dX3_stakesTimesWeights_5 (by decide) ?_
    refine sw_aload_n dX3_stakesTimesWeights_7 rfl ?_
    refine sw_getI dX3_stakesTimesWeights_8 flX3_15 ⟨by decide, _, rfl, rfl⟩ ?_
    rw [hz]
    first | refine sw_imulN dX3_stakesTimesWeights_11 ?_ | refine sw_imul dX3_stakesTimesWeights_11 ?_
    refine sw_icmpN_ge (tgt := 37) dX3_stakesTimesWeights_12 (by decide) (by omega) (by omega) (fun hc => ?_) (fun hc => ?_)
    · refine sw_iload_n dX3_stakesTimesWeights_37 rfl ?_
      refine sw_iret dX3_stakesTimesWeights_38 rfl rfl rfl ?_
      exact ⟨rfl, rfl⟩
    · omega
  · intro i hi ih
    refine sw_iload_n dX3_stakesTimesWeights_4 rfl ?_
    refine sw_bipush (v := nI 8) dX3_stakesTimesWeights_5 (by decide) ?_
    refine sw_aload_n dX3_stakesTimesWeights_7 rfl ?_
    refine sw_getI dX3_stakesTimesWeights_8 flX3_15 ⟨by decide, _, rfl, rfl⟩ ?_
    rw [hz]
    first | refine sw_imulN dX3_stakesTimesWeights_11 ?_ | refine sw_imul dX3_stakesTimesWeights_11 ?_
    refine sw_icmpN_ge (tgt := 37) dX3_stakesTimesWeights_12 (by decide) (by omega) (by omega) (fun hc => ?_) (fun hc => ?_)
    · omega
    · refine sw_iload_n dX3_stakesTimesWeights_15 rfl ?_
      refine sw_aload_n dX3_stakesTimesWeights_16 rfl ?_
      refine sw_getR dX3_stakesTimesWeights_17 flX3_31 ⟨by decide, _, rfl, rfl⟩ ?_
      refine sw_iload_n dX3_stakesTimesWeights_20 rfl ?_
      refine sw_iald dX3_stakesTimesWeights_21 rfl (by simp only [plA]; omega) ?_
      refine sw_aload_n dX3_stakesTimesWeights_22 rfl ?_
      refine sw_getR dX3_stakesTimesWeights_23 flX3_28 ⟨by decide, _, rfl, rfl⟩ ?_
      refine sw_iload_n dX3_stakesTimesWeights_26 rfl ?_
      refine sw_iald dX3_stakesTimesWeights_27 rfl (by simp only [plA]; omega) ?_
      first | refine sw_imulN dX3_stakesTimesWeights_28 ?_ | refine sw_imul dX3_stakesTimesWeights_28 ?_
      first | refine sw_iaddN dX3_stakesTimesWeights_29 ?_ | refine sw_iadd dX3_stakesTimesWeights_29 ?_
      refine sw_istore_n dX3_stakesTimesWeights_30 (by decide) rfl ?_
      first | refine sw_iincN (b := 1) dX3_stakesTimesWeights_31 rfl (by decide) rfl ?_ | refine sw_iinc dX3_stakesTimesWeights_31 rfl rfl (by decide) rfl ?_
      refine sw_goto (tgt := 4) dX3_stakesTimesWeights_34 (by decide) ?_
      exact ih
end TAB
