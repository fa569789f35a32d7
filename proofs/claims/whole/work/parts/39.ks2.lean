/-! at most twelve rays always have colours -/
theorem allK_t {p : KT → Bool} : ∀ {l : List KT}, allK p l = true → ∀ x, x ∈ l → p x = true
  | [], _, x, hx => nomatch hx
  | y :: l, h, x, hx => by
    have h' : cond (p y) (allK p l) false = true := h
    cases hy : p y with
    | false => rw [hy] at h'; exact absurd (show false = true from h') (by decide)
    | true =>
      rw [hy] at h'
      rcases List.mem_cons.mp hx with q | q
      · rw [q]; exact hy
      · exact allK_t (l := l) h' x q
theorem fltK_t {a : KT} {k : List KT → Bool} : ∀ {l acc : List KT}, fltK a k l acc = true → ∃ A : List KT, (∀ x, x ∈ l → oK a x = true → x ∈ A) ∧ (∀ x, x ∈ acc → x ∈ A) ∧ k A = true
  | [], acc, h => ⟨acc, fun x hx => (nomatch hx), fun _ hx => hx, h⟩
  | y :: l, acc, h => by
    have h' : cond (oK a y) (fltK a k l (y :: acc)) (fltK a k l acc) = true := h
    cases hy : oK a y with
    | false =>
      rw [hy] at h'
      obtain ⟨A, h1, h2, h3⟩ := fltK_t (l := l) (acc := acc) h'
      refine ⟨A, fun x hx ho => ?_, h2, h3⟩
      rcases List.mem_cons.mp hx with q | q
      · rw [q, hy] at ho; exact absurd ho (by decide)
      · exact h1 x q ho
    | true =>
      rw [hy] at h'
      obtain ⟨A, h1, h2, h3⟩ := fltK_t (l := l) (acc := y :: acc) h'
      refine ⟨A, fun x hx ho => ?_, fun x hx => h2 x (List.mem_cons_of_mem _ hx), h3⟩
      rcases List.mem_cons.mp hx with q | q
      · rw [q]; exact h2 y (List.mem_cons_self ..)
      · exact h1 x q ho
theorem cond_t {a b : Bool} (h : cond a b false = true) : a = true ∧ b = true := by
  cases a with
  | false => exact absurd (show false = true from h) (by decide)
  | true => exact ⟨rfl, h⟩
theorem ks_a {a : KT} (ha : a ∈ ksT) : a.2.2.2.1 = 5 * (a.1 + (a.2.1 + a.2.2.1)) ∧ ∃ A : List KT, (∀ x, x ∈ ksT → oK a x = true → x ∈ A) ∧ chk2 a A = true := by
  have h := allK_t ksChk_t a ha
  have h1 := cond_t h
  refine ⟨Nat.eq_of_beq_eq_true h1.1, ?_⟩
  obtain ⟨A, q1, _, q3⟩ := fltK_t h1.2
  exact ⟨A, q1, q3⟩
theorem ks_two {a b : KT} (ha : a ∈ ksT) (hb : b ∈ ksT) (o : oK a b = true) : a.2.2.2.2 &&& b.2.2.2.2 = 0 := by
  obtain ⟨_, A, h1, h2⟩ := ks_a ha
  exact Nat.eq_of_beq_eq_true (cond_t (allK_t h2 b (h1 b hb o))).1
theorem ks_three {a b c : KT} (ha : a ∈ ksT) (hb : b ∈ ksT) (hc : c ∈ ksT) (o1 : oK a b = true) (o2 : oK a c = true) (o3 : oK b c = true) : fb_sm (noR a b c) 47 ≤ 6 := by
  obtain ⟨_, A, h1, h2⟩ := ks_a ha
  have q := allK_t (cond_t (allK_t h2 b (h1 b hb o1))).2 c (h1 c hc o2)
  unfold chk3 at q
  rw [o3] at q
  exact Nat.le_of_ble_eq_true q
/-! every ray lies as one of them -/
def mlt (s : Bool) (g x : Nat) : Nat := cond s (Nat.sub (Nat.add 5 (Nat.mul g x)) (Nat.mul 5 g)) (Nat.sub (Nat.add 5 (Nat.mul 5 g)) (Nat.mul g x))
def mok (s : Bool) (g x : Nat) : Bool := cond (cond s (Nat.ble (Nat.mul 5 g) (Nat.add 5 (Nat.mul g x))) (Nat.ble (Nat.mul g x) (Nat.add 5 (Nat.mul 5 g)))) (Nat.ble (mlt s g x) 10) false
def cov1 (s : Bool) (g : Nat) (t : KT) : Nat := cond (cond (mok s g t.1) (cond (mok s g t.2.1) (mok s g t.2.2.1) false) false) (Nat.pow 2 (Nat.add (Nat.mul 121 (mlt s g t.1)) (Nat.add (Nat.mul 11 (mlt s g t.2.1)) (mlt s g t.2.2.1)))) 0
def cov5 (t : KT) : Nat → Nat
  | 0 => 0
  | g + 1 => Nat.lor (cov5 t g) (Nat.lor (cov1 true (g + 1) t) (cov1 false (g + 1) t))
noncomputable def covA (l : List KT) : Nat := @List.rec KT (fun _ => Nat) 0 (fun t _ ih => Nat.lor (cov5 t 5) ih) l
theorem covA_ks : covA ksT = 2 ^ 1331 - 1 - 2 ^ 665 := by decide +kernel
theorem covN : ∀ u, u < 11 → ∀ v, v < 11 → ∀ w, w < 11 → (u = 5 ∧ v = 5 ∧ w = 5) ∨ Nat.testBit (2 ^ 1331 - 1 - 2 ^ 665) (121 * u + (11 * v + w)) = true := by decide +kernel
theorem cov1_t {s : Bool} {g : Nat} {t : KT} {i : Nat} (h : Nat.testBit (cov1 s g t) i = true) : mok s g t.1 = true ∧ mok s g t.2.1 = true ∧ mok s g t.2.2.1 = true ∧ i = 121 * mlt s g t.1 + (11 * mlt s g t.2.1 + mlt s g t.2.2.1) := by
  unfold cov1 at h
  cases q : cond (mok s g t.1) (cond (mok s g t.2.1) (mok s g t.2.2.1) false) false with
  | false => rw [q] at h; simp at h
  | true =>
    rw [q] at h
    have q1 := cond_t q
    have q2 := cond_t q1.2
    refine ⟨q1.1, q2.1, q2.2, ?_⟩
    have h' : Nat.testBit (2 ^ (121 * mlt s g t.1 + (11 * mlt s g t.2.1 + mlt s g t.2.2.1))) i = true := h
    rw [Nat.testBit_two_pow] at h'
    exact (of_decide_eq_true h').symm
theorem lor_t {a b i : Nat} (h : Nat.testBit (Nat.lor a b) i = true) : Nat.testBit a i = true ∨ Nat.testBit b i = true := by
  have h' : Nat.testBit (a ||| b) i = true := h
  rw [Nat.testBit_or, Bool.or_eq_true] at h'
  exact h'
theorem cov5_t {t : KT} {i : Nat} : ∀ {n : Nat}, Nat.testBit (cov5 t n) i = true → ∃ s g, 1 ≤ g ∧ g ≤ n ∧ Nat.testBit (cov1 s g t) i = true
  | 0, h => by simp [cov5] at h
  | n + 1, h => by
    rcases lor_t h with q | q
    · obtain ⟨s, g, h1, h2, h3⟩ := cov5_t q
      exact ⟨s, g, h1, by omega, h3⟩
    · rcases lor_t q with q | q
      · exact ⟨true, n + 1, by omega, by omega, q⟩
      · exact ⟨false, n + 1, by omega, by omega, q⟩
theorem covA_t {i : Nat} : ∀ {l : List KT}, Nat.testBit (covA l) i = true → ∃ t, t ∈ l ∧ Nat.testBit (cov5 t 5) i = true
  | [], h => by
    have h' : Nat.testBit 0 i = true := h
    simp at h'
  | y :: l, h => by
    have h' : Nat.testBit (Nat.lor (cov5 y 5) (covA l)) i = true := h
    rcases lor_t h' with q | q
    · exact ⟨y, List.mem_cons_self .., q⟩
    · obtain ⟨t, h1, h2⟩ := covA_t q
      exact ⟨t, List.mem_cons_of_mem _ h1, h2⟩
theorem mlt_t {s : Bool} {g x : Nat} (h : mok s g x = true) : mlt s g x ≤ 10 ∧ ((mlt s g x : Nat) : Int) - 5 = (if s then (g : Int) else -(g : Int)) * ((x : Int) - 5) := by
  have h1 := cond_t h
  have h2 := Nat.le_of_ble_eq_true h1.2
  refine ⟨h2, ?_⟩
  cases s with
  | true =>
    have h3 : 5 * g ≤ 5 + g * x := Nat.le_of_ble_eq_true h1.1
    show ((5 + g * x - 5 * g : Nat) : Int) - 5 = (g : Int) * ((x : Int) - 5)
    rw [Int.mul_sub, Int.ofNat_sub h3]
    simp only [Int.natCast_add, Int.natCast_mul]
    omega
  | false =>
    have h3 : g * x ≤ 5 + 5 * g := Nat.le_of_ble_eq_true h1.1
    show ((5 + 5 * g - g * x : Nat) : Int) - 5 = -(g : Int) * ((x : Int) - 5)
    rw [Int.mul_sub, Int.ofNat_sub h3]
    simp only [Int.natCast_add, Int.natCast_mul, Int.neg_mul]
    omega
theorem canon {x y z : Int} (hx : -5 ≤ x ∧ x ≤ 5) (hy : -5 ≤ y ∧ y ≤ 5) (hz : -5 ≤ z ∧ z ≤ 5) (h0 : ¬ (x = 0 ∧ y = 0 ∧ z = 0)) : ∃ t, t ∈ ksT ∧ ∃ g : Int, g ≠ 0 ∧ x = g * ((t.1 : Int) - 5) ∧ y = g * ((t.2.1 : Int) - 5) ∧ z = g * ((t.2.2.1 : Int) - 5) := by
  have h := covN (x + 5).toNat (by omega) (y + 5).toNat (by omega) (z + 5).toNat (by omega)
  rcases h with q | q
  · exact absurd ⟨by omega, by omega, by omega⟩ h0
  · rw [← covA_ks] at q
    obtain ⟨t, h1, h2⟩ := covA_t q
    obtain ⟨s, g, g1, g5, h3⟩ := cov5_t h2
    obtain ⟨m1, m2, m3, he⟩ := cov1_t h3
    obtain ⟨l1, e1⟩ := mlt_t m1
    obtain ⟨l2, e2⟩ := mlt_t m2
    obtain ⟨l3, e3⟩ := mlt_t m3
    refine ⟨t, h1, if s then (g : Int) else -(g : Int), ?_, ?_, ?_, ?_⟩
    · cases s <;> simp <;> omega
    · rw [← e1]; omega
    · rw [← e2]; omega
    · rw [← e3]; omega
theorem oK_t {a b : KT} (ha : a ∈ ksT) (hb : b ∈ ksT) (h : ((a.1 : Int) - 5) * ((b.1 : Int) - 5) + ((a.2.1 : Int) - 5) * ((b.2.1 : Int) - 5) + ((a.2.2.1 : Int) - 5) * ((b.2.2.1 : Int) - 5) = 0) : oK a b = true := by
  have s1 := (ks_a ha).1
  have s2 := (ks_a hb).1
  unfold oK
  rw [Nat.beq_eq]
  show a.1 * b.1 + a.2.1 * b.2.1 + (a.2.2.1 * b.2.2.1 + 75) = a.2.2.2.1 + b.2.2.2.1
  rw [s1, s2]
  simp only [Int.mul_sub, Int.sub_mul] at h
  have c1 : ((a.1 * b.1 : Nat) : Int) = (a.1 : Int) * b.1 := Int.natCast_mul ..
  have c2 : ((a.2.1 * b.2.1 : Nat) : Int) = (a.2.1 : Int) * b.2.1 := Int.natCast_mul ..
  have c3 : ((a.2.2.1 * b.2.2.1 : Nat) : Int) = (a.2.2.1 : Int) * b.2.2.1 := Int.natCast_mul ..
  omega
theorem oK_r {a b : KT} (ha : a ∈ ksT) (hb : b ∈ ksT) {g k x y z u v w : Int} (hg : g ≠ 0) (hk : k ≠ 0) (e1 : x = g * ((a.1 : Int) - 5)) (e2 : y = g * ((a.2.1 : Int) - 5)) (e3 : z = g * ((a.2.2.1 : Int) - 5)) (f1 : u = k * ((b.1 : Int) - 5)) (f2 : v = k * ((b.2.1 : Int) - 5)) (f3 : w = k * ((b.2.2.1 : Int) - 5)) (h : x * u + y * v + z * w = 0) : oK a b = true := by
  refine oK_t ha hb ?_
  have hgk : g * k ≠ 0 := Int.mul_ne_zero hg hk
  have e : g * k * (((a.1 : Int) - 5) * ((b.1 : Int) - 5) + ((a.2.1 : Int) - 5) * ((b.2.1 : Int) - 5) + ((a.2.2.1 : Int) - 5) * ((b.2.2.1 : Int) - 5)) = 0 := by
    rw [← h, e1, e2, e3, f1, f2, f3]
    grind
  rcases Int.mul_eq_zero.mp e with q | q
  · exact absurd q hgk
  · exact q
/-! two rays have at most one that is square to both -/
theorem crs {a1 a2 a3 b1 b2 b3 c1 c2 c3 d1 d2 d3 : Int} (hab : ¬ (a1 * b2 = a2 * b1 ∧ a1 * b3 = a3 * b1 ∧ a2 * b3 = a3 * b2)) (ac : a1 * c1 + a2 * c2 + a3 * c3 = 0) (ad : a1 * d1 + a2 * d2 + a3 * d3 = 0) (bc : b1 * c1 + b2 * c2 + b3 * c3 = 0) (bd : b1 * d1 + b2 * d2 + b3 * d3 = 0) : c1 * d2 = c2 * d1 ∧ c1 * d3 = c3 * d1 ∧ c2 * d3 = c3 * d2 := by
  have key : ∀ n1 n2 n3 : Int, n1 = a2 * b3 - a3 * b2 → n2 = a3 * b1 - a1 * b3 → n3 = a1 * b2 - a2 * b1 → ¬ (n1 = 0 ∧ n2 = 0 ∧ n3 = 0) → (n1 * c2 = n2 * c1 ∧ n1 * c3 = n3 * c1 ∧ n2 * c3 = n3 * c2) → (n1 * d2 = n2 * d1 ∧ n1 * d3 = n3 * d1 ∧ n2 * d3 = n3 * d2) → c1 * d2 = c2 * d1 ∧ c1 * d3 = c3 * d1 ∧ c2 * d3 = c3 * d2 := by
    intro n1 n2 n3 _ _ _ hn hc hd
    obtain ⟨x1, x2, x3⟩ := hc
    obtain ⟨y1, y2, y3⟩ := hd
    have z : ∀ n t : Int, n ≠ 0 → n * t = 0 → t = 0 := fun n t h1 h2 => (Int.mul_eq_zero.mp h2).resolve_left h1
    by_cases q1 : n1 = 0
    · by_cases q2 : n2 = 0
      · have q3 : n3 ≠ 0 := fun q => hn ⟨q1, q2, q⟩
        have r1 := z n3 (c1 * d2 - c2 * d1) q3 (by grind)
        have r2 := z n3 (c1 * d3 - c3 * d1) q3 (by grind)
        have r3 := z n3 (c2 * d3 - c3 * d2) q3 (by grind)
        exact ⟨by omega, by omega, by omega⟩
      · have r1 := z n2 (c1 * d2 - c2 * d1) q2 (by grind)
        have r2 := z n2 (c1 * d3 - c3 * d1) q2 (by grind)
        have r3 := z n2 (c2 * d3 - c3 * d2) q2 (by grind)
        exact ⟨by omega, by omega, by omega⟩
    · have r1 := z n1 (c1 * d2 - c2 * d1) q1 (by grind)
      have r2 := z n1 (c1 * d3 - c3 * d1) q1 (by grind)
      have r3 := z n1 (c2 * d3 - c3 * d2) q1 (by grind)
      exact ⟨by omega, by omega, by omega⟩
  refine key _ _ _ rfl rfl rfl (fun q => hab ⟨by omega, by omega, by omega⟩) ⟨?_, ?_, ?_⟩ ⟨?_, ?_, ?_⟩
  all_goals grind
