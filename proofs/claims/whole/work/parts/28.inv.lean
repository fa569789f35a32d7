/-! what the class and the reference hold together -/
def cmChk : Bool := allB (fun s => decide (3 < pop s) || allB (fun b => decide (¬ b &&& s = b) || allB (fun x => decide (¬ x &&& b = x) || allB (fun j => cm s b x j 6 == decide (dp s j 6 &&& b = x)) 8) 64) 64) 64
theorem cmChk_t : cmChk = true := by decide +kernel
theorem cm_dp (s : Nat) (hs : s < 64) (hp : pop s ≤ 3) (b : Nat) (hb : b < 64) (hbs : b &&& s = b) (x : Nat) (hx : x < 64) (hxb : x &&& b = x) (j : Nat) (hj : j < 8) : cm s b x j 6 = decide (dp s j 6 &&& b = x) := by
  have h := cmChk_t
  unfold cmChk at h
  have h1 := allB_t.mp h s hs
  rw [decide_eq_false (by omega), Bool.false_or] at h1
  have h2 := allB_t.mp h1 b hb
  rw [decide_eq_false (fun q => q hbs), Bool.false_or] at h2
  have h3 := allB_t.mp h2 x hx
  rw [decide_eq_false (fun q => q hxb), Bool.false_or] at h3
  exact eq_of_beq (allB_t.mp h3 j hj)
theorem sA_pos {w : Nat → Int32} {s b c x : Nat} (hs : s < 64) (hp : pop s ≤ 3) (hb : b &&& s = b) (hx : x &&& b = x) : ∀ {m : Nat}, m ≤ 8 → sA w 1 s b c x m = sbM w s b c x m := by
  intro m hm
  have hb64 : b < 64 := by rw [← hb]; exact Nat.lt_of_le_of_lt Nat.and_le_right hs
  have hx64 : x < 64 := by rw [← hx]; exact Nat.lt_of_le_of_lt Nat.and_le_right hb64
  unfold sA sbM
  refine sI_cong (fun j hj => ?_)
  rw [cm_dp s hs hp b hb64 hb x hx64 hx j (by omega)]
  by_cases q : dp s j 6 &&& b = x
  · rw [if_pos q, decide_eq_true q, if_pos rfl, Int32.one_mul]
  · rw [if_neg q, decide_eq_false q, if_neg (by decide)]
    rfl
theorem sI_neg (P : Nat → Prop) [DecidablePred P] (f : Nat → Int32) : ∀ m : Nat, sI (fun j => if P j then (-1) * f j else 0) m = - sI (fun j => if P j then 1 * f j else 0) m
  | 0 => by simp [sI]
  | m + 1 => by
    simp only [sI]
    rw [sI_neg P f m]
    by_cases q : P m
    · rw [if_pos q, if_pos q]
      grind
    · rw [if_neg q, if_neg q]
      grind
theorem sA_neg {w : Nat → Int32} {s b c x m : Nat} : sA w (-1) s b c x m = - sA w 1 s b c x m := sI_neg (fun j => dp s j 6 &&& b = x) (fun j => w (8 * c + j)) m
theorem sA_out {w : Nat → Int32} {sg : Int32} {s b c x m : Nat} (hx : ¬ x &&& b = x) : sA w sg s b c x m = 0 := by
  unfold sA
  have : ∀ m, sI (fun j => if dp s j 6 &&& b = x then sg * w (8 * c + j) else 0) m = 0 := by
    intro m
    induction m with
    | zero => rfl
    | succ m ih =>
      simp only [sI]
      rw [ih, if_neg]
      · rfl
      · intro q
        exact hx (by rw [← q, Nat.and_assoc, Nat.and_self])
  exact this m
theorem u_same' {h g : Hp} {n z : Nat} {sm : Nat → Nat} (T : TX h n z sm) (hw : ∀ k, k < 64 → h 4 k = g 31 k) {c d : Nat} (hc : c < z) (hd : d < z) : uX h sm c d = uM g n sm c d := by
  have hz8 := T.1.2.1
  have s1 := T.2.1 c hc
  have s2 := T.2.1 d hd
  have l1 := T.s64 hc
  have l2 := T.s64 hd
  have e1 : (sm c &&& sm d) &&& sm c = sm c &&& sm d := by rw [Nat.and_comm (sm c) (sm d), Nat.and_assoc, Nat.and_self]
  have e2 : (sm c &&& sm d) &&& sm d = sm c &&& sm d := by rw [Nat.and_assoc, Nat.and_self]
  have p1 := pow3 s1.2.2.2
  have p2 := pow3 s2.2.2.2
  have key : ∀ x, x &&& (sm c &&& sm d) = x → (SAf h sm c d x = 0 ↔ sbF g sm (sm c &&& sm d) c x = sbF g sm (sm c &&& sm d) d x) := by
    intro x hx
    unfold SAf sbF
    rw [sA_neg, sA_pos l1 s1.2.2.2 e1 hx p1, sA_pos l2 s2.2.2.2 e2 hx p2]
    have w1 : sbM (h 4) (sm c) (sm c &&& sm d) c x (2 ^ pop (sm c)) = sbM (g 31) (sm c) (sm c &&& sm d) c x (2 ^ pop (sm c)) := by
      unfold sbM
      exact sI_cong (fun j hj => by rw [hw _ (by omega)])
    have w2 : sbM (h 4) (sm d) (sm c &&& sm d) d x (2 ^ pop (sm d)) = sbM (g 31) (sm d) (sm c &&& sm d) d x (2 ^ pop (sm d)) := by
      unfold sbM
      exact sI_cong (fun j hj => by rw [hw _ (by omega)])
    rw [w1, w2]
    constructor
    · intro q; grind
    · intro q; grind
  have hb : sm c &&& sm d < 2 ^ n := Nat.lt_of_le_of_lt Nat.and_le_left s1.2.2.1
  have h64 := pow6 T.1.1
  unfold uX uM
  congr 1
  rw [Bool.eq_iff_iff, allB_t, allB_t]
  constructor
  · intro q x hx
    refine decide_eq_true (fun w => w.2 ((key x w.1).mp ?_))
    exact of_decide_eq_true (q x (by omega))
  · intro q a ha
    refine decide_eq_true ?_
    by_cases w : a &&& (sm c &&& sm d) = a
    · have hlt : a < 2 ^ n := by
        rw [← w]
        exact Nat.lt_of_le_of_lt Nat.and_le_right hb
      have := of_decide_eq_true (q a hlt)
      refine (key a w).mpr ?_
      by_cases e : sbF g sm (sm c &&& sm d) c a = sbF g sm (sm c &&& sm d) d a
      · exact e
      · exact absurd ⟨w, e⟩ this
    · unfold SAf
      rw [sA_out w, sA_out w]
      rfl
/-! the parts of the invariant -/
def WI (h : Hp) (z : Nat) (sm : Nat → Nat) (lf : Nat → Nat) : Prop := (∀ k, k < 64 → h 4 k = nI (lf k) ∧ h 31 k = nI (lf k) ∧ lf k ≤ 1000) ∧ ∀ c j, c < z → 2 ^ pop (sm c) ≤ j → j < 8 → lf (8 * c + j) = 0
def SP (h : Hp) : Prop := (∀ k, k < 64 → h 5 k = h 32 k) ∧ ∀ c, c < 8 → h 3 c = h 30 c ∧ okP (h 3 c)
def CK (h : Hp) (n z : Nat) (sm lf : Nat → Nat) (K : Nat) : Prop := ∃ chg, h 1 2 = nI chg ∧ chg ≤ 8 * K ∧ (h 10 5 = -1 ∨ ∃ s, s ≤ chg ∧ h 10 5 = nI s) ∧ (h 10 5 = h 1 2 → kept h n z sm (fb_sm lf 8) lf)
def RI (h : Hp) (r : Nat) : Prop := RV h r ∧ h 28 9 = nI r ∧ (∀ i, i < 12 → h 14 i = h 35 i ∧ h 15 i = h 36 i ∧ h 16 i = h 37 i) ∧ (∀ i, i < r → rg (-5) 5 (h 14 i) = true ∧ rg (-5) 5 (h 15 i) = true ∧ rg (-5) 5 (h 16 i) = true ∧ ¬ (h 14 i = 0 ∧ h 15 i = 0 ∧ h 16 i = 0)) ∧ (∀ i j, i < j → j < r → parB (h 14) (h 15) (h 16) (h 14 j) (h 15 j) (h 16 j) i = false) ∧ (¬ h 13 6 = 0 → JD h r)
def SH (h : Hp) : Prop := ∀ k, k < 4 → ((h (20 + k) 1 = -1 ∧ h 40 k = -4) ∨ (∃ l s, l < 3 ∧ s ≤ 64 ∧ h (20 + k) 1 = nI l ∧ h 40 k = nI l ∧ h (20 + k) 2 = nI s ∧ h 41 k = nI s)) ∧ ∀ i, i < 64 → h (24 + k) i = h 42 (64 * k + i)
def I0 (h : Hp) (n z : Nat) (sm lf : Nat → Nat) (r K : Nat) : Prop := 1 ≤ n ∧ TX h n z sm ∧ TM h n z sm ∧ WI h z sm lf ∧ SP h ∧ CK h n z sm lf K ∧ RI h r ∧ SH h
def Inv (h : Hp) (K : Nat) : Prop := ∃ n z sm lf r, I0 h n z sm lf r K
/-- but for scratch the two are the same -/
def Agr (h g : Hp) : Prop := (∀ k, k ≠ 8 → k ≠ 9 → k ≠ 12 → k ≠ 28 → k ≠ 33 → k ≠ 34 → k ≠ 38 → k ≠ 39 → g k = h k) ∧ ∀ i, i ≠ 8 → i ≠ 15 → g 28 i = h 28 i
theorem Agr.rf {h : Hp} : Agr h h := ⟨fun _ _ _ _ _ _ _ _ _ => rfl, fun _ _ _ => rfl⟩
theorem Agr.tr {h g f : Hp} (a : Agr h g) (b : Agr g f) : Agr h f := ⟨fun k k1 k2 k3 k4 k5 k6 k7 k8 => (b.1 k k1 k2 k3 k4 k5 k6 k7 k8).trans (a.1 k k1 k2 k3 k4 k5 k6 k7 k8), fun i h1 h2 => (b.2 i h1 h2).trans (a.2 i h1 h2)⟩
theorem Agr.s8 {h g : Hp} (s : Sam 8 h g) : Agr h g := ⟨fun k k1 _ _ _ _ _ _ _ => s k k1, fun i _ _ => by rw [s 28 (by decide)]⟩
theorem Agr.s9 {h g : Hp} (s : Sam 9 h g) : Agr h g := ⟨fun k _ k1 _ _ _ _ _ _ => s k k1, fun i _ _ => by rw [s 28 (by decide)]⟩
theorem kept_eq {h g : Hp} (e10 : g 10 = h 10) (e11 : g 11 = h 11) {n z : Nat} {sm : Nat → Nat} {T : Nat} {lf : Nat → Nat} (k : kept h n z sm T lf) : kept g n z sm T lf := by
  unfold kept at k ⊢
  rw [e10, e11]
  exact k
theorem JD_eq {h g : Hp} {r : Nat} (e13 : g 13 = h 13) (e14 : g 14 = h 14) (e15 : g 15 = h 15) (e16 : g 16 = h 16) (J : JD h r) : JD g r := by
  unfold JD ox at J ⊢
  rw [e13, e14, e15, e16]
  exact J
theorem RI_eq {h g : Hp} {r : Nat} (e : ∀ k, 13 ≤ k → k ≤ 17 → g k = h k) (em : ∀ k, 35 ≤ k → k ≤ 37 → g k = h k) (e9 : g 28 9 = h 28 9) (R : RI h r) : RI g r := by
  unfold RI RV ox at R ⊢
  rw [e 13 (by decide) (by decide), e 14 (by decide) (by decide), e 15 (by decide) (by decide), e 16 (by decide) (by decide), e 17 (by decide) (by decide), em 35 (by decide) (by decide), em 36 (by decide) (by decide), em 37 (by decide) (by decide), e9]
  exact ⟨R.1, R.2.1, R.2.2.1, R.2.2.2.1, R.2.2.2.2.1, fun q => JD_eq (e 13 (by decide) (by decide)) (e 14 (by decide) (by decide)) (e 15 (by decide) (by decide)) (e 16 (by decide) (by decide)) (R.2.2.2.2.2 q)⟩
theorem SH_eq {h g : Hp} (e : ∀ k, 20 ≤ k → k ≤ 27 → g k = h k) (em : ∀ k, 40 ≤ k → k ≤ 42 → g k = h k) (S : SH h) : SH g := by
  intro k hk
  rw [e (20 + k) (by omega) (by omega), e (24 + k) (by omega) (by omega), em 40 (by decide) (by decide), em 41 (by decide) (by decide), em 42 (by decide) (by decide)]
  exact S k hk
theorem CK_eq {h g : Hp} {n z : Nat} {sm lf : Nat → Nat} {K : Nat} (e1 : g 1 = h 1) (e10 : g 10 = h 10) (e11 : g 11 = h 11) (C : CK h n z sm lf K) : CK g n z sm lf (K + 1) := by
  obtain ⟨chg, c1, c2, c3, c4⟩ := C
  refine ⟨chg, by rw [e1]; exact c1, by omega, by rw [e10]; exact c3, fun q => ?_⟩
  rw [e1, e10] at q
  exact kept_eq e10 e11 (c4 q)
theorem I0_agr {h g : Hp} {n z : Nat} {sm lf : Nat → Nat} {r K : Nat} (I : I0 h n z sm lf r K) (a : Agr h g) : I0 g n z sm lf r (K + 1) := by
  obtain ⟨i1, iT, iM, iW, iS, iC, iR, iH⟩ := I
  have e : ∀ k, k ≠ 8 → k ≠ 9 → k ≠ 12 → k < 28 → g k = h k := fun k k1 k2 k3 k4 => a.1 k k1 k2 k3 (by omega) (by omega) (by omega) (by omega) (by omega)
  refine ⟨i1, TX_keep iT (e 1 (by decide) (by decide) (by decide) (by decide)) (e 2 (by decide) (by decide) (by decide) (by decide)) (e 6 (by decide) (by decide) (by decide) (by decide)) (e 7 (by decide) (by decide) (by decide) (by decide)), TM_keep iM (a.2 0 (by decide) (by decide)) (a.2 1 (by decide) (by decide)) (a.1 29 (by decide) (by decide) (by decide) (by decide) (by decide) (by decide) (by decide) (by decide)), ?_, ?_, CK_eq (e 1 (by decide) (by decide) (by decide) (by decide)) (e 10 (by decide) (by decide) (by decide) (by decide)) (e 11 (by decide) (by decide) (by decide) (by decide)) iC, RI_eq (fun k k1 k2 => e k (by omega) (by omega) (by omega) (by omega)) (fun k k1 k2 => a.1 k (by omega) (by omega) (by omega) (by omega) (by omega) (by omega) (by omega) (by omega)) (a.2 9 (by decide) (by decide)) iR, SH_eq (fun k k1 k2 => e k (by omega) (by omega) (by omega) (by omega)) (fun k k1 k2 => a.1 k (by omega) (by omega) (by omega) (by omega) (by omega) (by omega) (by omega) (by omega)) iH⟩
  · unfold WI at iW ⊢
    rw [e 4 (by decide) (by decide) (by decide) (by decide), a.1 31 (by decide) (by decide) (by decide) (by decide) (by decide) (by decide) (by decide) (by decide)]
    exact iW
  · unfold SP at iS ⊢
    rw [e 5 (by decide) (by decide) (by decide) (by decide), e 3 (by decide) (by decide) (by decide) (by decide), a.1 32 (by decide) (by decide) (by decide) (by decide) (by decide) (by decide) (by decide) (by decide), a.1 30 (by decide) (by decide) (by decide) (by decide) (by decide) (by decide) (by decide) (by decide)]
    exact iS
/-- one call of both, with the same answer -/
def Both (jx jm : Mt) (args : List Value) : Prop := ∀ (h : Hp) (K : Nat), K < 512 → Inv h K → ∃ x : Int32, Ctr jx (.ref 0 :: args) h (fun v g => v = some (.int x) ∧ Ctr jm (.ref 28 :: args) g (fun v' f => v' = some (.int x) ∧ Inv f (K + 1)))
theorem Inv.up {h : Hp} {K : Nat} (I : Inv h K) : Inv h (K + 1) := by
  obtain ⟨n, z, sm, lf, r, I⟩ := I
  exact ⟨n, z, sm, lf, r, I0_agr I Agr.rf⟩
theorem wS_nat {h : Hp} {q z : Nat} {sm lf : Nat → Nat} (hl : ∀ k, k < 64 → h q k = nI (lf k)) {c : Nat} (hc : c < 8) : ∀ {m : Nat}, m ≤ 8 → sI (fun j => h q (8 * c + j)) m = nI (fb_sm (fun j => lf (8 * c + j)) m)
  | 0, _ => rfl
  | m + 1, hm => by
    simp only [sI, fb_sm]
    rw [wS_nat (z := z) (sm := sm) hl hc (by omega), hl _ (by omega), nI_add]
