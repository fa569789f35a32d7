/-! sums -/
theorem sm_swap (f : Nat → Nat → Nat) (m : Nat) : ∀ n, fb_sm (fun i => fb_sm (fun j => f i j) m) n = fb_sm (fun j => fb_sm (fun i => f i j) n) m
  | 0 => (fb_sm_0 (fun _ _ => rfl)).symm
  | n + 1 => by
    show fb_sm (fun i => fb_sm (fun j => f i j) m) n + fb_sm (fun j => f n j) m = fb_sm (fun j => fb_sm (fun i => f i j) n + f n j) m
    rw [fb_sm_add, sm_swap f m n]
theorem sm_mul (f : Nat → Nat) (c : Nat) : ∀ n, fb_sm (fun k => f k * c) n = fb_sm f n * c
  | 0 => (Nat.zero_mul c).symm
  | n + 1 => by
    show fb_sm (fun k => f k * c) n + f n * c = (fb_sm f n + f n) * c
    rw [sm_mul f c n, Nat.add_mul]
theorem sm_one {p : Nat → Nat} : ∀ {n : Nat}, (∀ k, k < n → p k ≤ 1) → (∀ i j, i < n → j < n → p i = 1 → p j = 1 → i = j) → fb_sm p n ≤ 1
  | 0, _, _ => Nat.zero_le _
  | n + 1, h1, h2 => by
    show fb_sm p n + p n ≤ 1
    have hn := h1 n (by omega)
    by_cases q : p n = 1
    · have : fb_sm p n = 0 := fb_sm_0 (fun k hk => by
        have := h1 k (by omega)
        by_cases w : p k = 1
        · have := h2 k n (by omega) (by omega) w q
          omega
        · omega)
      omega
    · have := sm_one (n := n) (fun k hk => h1 k (by omega)) (fun i j hi hj => h2 i j (by omega) (by omega))
      omega
theorem sm_up (f : Nat → Nat) {m n : Nat} (h : m ≤ n) : fb_sm f m ≤ fb_sm f n := by
  have := fb_sm_mono f m (n - m)
  rw [show m + (n - m) = n by omega] at this
  exact this
theorem sm_g1 (f : Nat → Nat) {i n : Nat} (hi : i < n) : f i ≤ fb_sm f n := by
  have := fb_sm_part f hi
  omega
theorem sm_g2 (f : Nat → Nat) {i j n : Nat} (hij : i < j) (hj : j < n) : f i + f j ≤ fb_sm f n := by
  have h1 := fb_sm_part f hj
  have h2 := sm_g1 f hij
  omega
theorem sm_g3 (f : Nat → Nat) {i j k n : Nat} (hij : i < j) (hjk : j < k) (hk : k < n) : f i + f j + f k ≤ fb_sm f n := by
  have h1 := fb_sm_part f hk
  have h2 := sm_g2 f hij hjk
  omega
/-! how many threes twelve rays can have -/
def bN (b : Bool) : Nat := cond b 1 0
theorem bN_le (b : Bool) : bN b ≤ 1 := by cases b <;> decide
theorem bN_1 {b : Bool} (h : bN b = 1) : b = true := by
  cases b with
  | false => exact absurd h (by decide)
  | true => rfl
def c4f (e : Nat → Nat → Bool) (r : Nat) : Prop := ∀ a b c d, a < r → b < r → c < r → d < r → a ≠ b → e a c = true → e a d = true → e b c = true → e b d = true → c = d
def T6 (e : Nat → Nat → Bool) (r : Nat) : Nat := fb_sm (fun v => fb_sm (fun x => fb_sm (fun y => bN (trS e v x y)) r) r) r
theorem deg_le {e : Nat → Nat → Bool} {r : Nat} (hr : r ≤ 12) (hs : ∀ i j, e i j = e j i) (h4 : c4f e r) : fb_sm (fun v => fb_sm (fun x => bN (e v x)) r) r ≤ 46 := by
  have h1 : fb_sm (fun v => fb_sm (fun x => bN (e v x)) r * fb_sm (fun x => bN (e v x)) r) r = fb_sm (fun x => fb_sm (fun y => fb_sm (fun v => bN (e v y) * bN (e v x)) r) r) r := by
    have s1 : ∀ v, fb_sm (fun x => bN (e v x)) r * fb_sm (fun x => bN (e v x)) r = fb_sm (fun x => fb_sm (fun y => bN (e v y) * bN (e v x)) r) r := fun v => by
      rw [← sm_mul]
      refine fb_sm_cong (fun x _ => ?_)
      rw [Nat.mul_comm, ← sm_mul]
    rw [fb_sm_cong (fun v _ => s1 v), sm_swap]
    refine fb_sm_cong (fun x _ => ?_)
    rw [sm_swap]
  have h2 : ∀ x, x < r → fb_sm (fun y => fb_sm (fun v => bN (e v y) * bN (e v x)) r) r + 1 ≤ r + fb_sm (fun v => bN (e x v)) r := by
    intro x hx
    have q1 : fb_sm (fun y => fb_sm (fun v => bN (e v y) * bN (e v x)) r) r ≤ fb_sm (fun y => if y = x then fb_sm (fun v => bN (e x v)) r else 1) r := by
      refine fb_sm_le (fun y hy => ?_)
      by_cases q : y = x
      · rw [if_pos q, q]
        refine fb_sm_le (fun v _ => ?_)
        rw [hs v x]
        cases e x v <;> decide
      · rw [if_neg q]
        refine sm_one (fun v _ => ?_) (fun i j hi hj w1 w2 => ?_)
        · cases e v y <;> cases e v x <;> decide
        · have g : ∀ v, bN (e v y) * bN (e v x) = 1 → e y v = true ∧ e x v = true := fun v w => by
            rw [hs y v, hs x v]
            cases a : e v y <;> cases b : e v x <;> rw [a, b] at w
            · exact absurd w (by decide)
            · exact absurd w (by decide)
            · exact absurd w (by decide)
            · exact ⟨rfl, rfl⟩
          exact h4 y x i j hy hx hi hj q (g i w1).1 (g j w2).1 (g i w1).2 (g j w2).2
    have q2 := fb_sm_upd (fun _ => 1) (fb_sm (fun v => bN (e x v)) r) hx
    rw [fb_sm_const] at q2
    omega
  have h3 := fb_sm_le (n := r) h2
  rw [fb_sm_add, fb_sm_add, fb_sm_const, fb_sm_const, ← h1] at h3
  have h5 : fb_sm (fun v => fb_sm (fun x => bN (e v x)) r * 8) r ≤ fb_sm (fun v => fb_sm (fun x => bN (e v x)) r * fb_sm (fun x => bN (e v x)) r + 16) r := by
    refine fb_sm_le (fun v _ => ?_)
    have : fb_sm (fun x => bN (e v x)) r ≤ r * 1 := fb_sm_bound (fun x _ => bN_le _)
    have key : ∀ d, d < 13 → d * 8 ≤ d * d + 16 := by decide
    exact key _ (by omega)
  rw [sm_mul, fb_sm_add, fb_sm_const] at h5
  have h6 : r * r ≤ 144 := Nat.mul_le_mul hr hr
  omega
theorem T6_le {e : Nat → Nat → Bool} {r : Nat} (hr : r ≤ 12) (hs : ∀ i j, e i j = e j i) (hi : ∀ i, e i i = false) (h4 : c4f e r) : T6 e r ≤ 46 := by
  refine Nat.le_trans (fb_sm_le (fun v hv => fb_sm_le (fun x hx => ?_))) (deg_le hr hs h4)
  cases q : e v x with
  | false =>
    refine Nat.le_of_eq ?_
    refine fb_sm_0 (fun y _ => ?_)
    unfold trS
    rw [q]
    rfl
  | true =>
    refine sm_one (fun y _ => bN_le _) (fun i j hi2 hj w1 w2 => ?_)
    have g1 := bN_1 w1
    have g2 := bN_1 w2
    unfold trS at g1 g2
    rw [Bool.and_eq_true, Bool.and_eq_true] at g1 g2
    exact h4 v x i j hv hx hi2 hj (fun z => by rw [z, hi] at q; exact absurd q (by decide)) g1.2.1 g2.2.1 g1.2.2 g2.2.2
/-! the reds -/
theorem bmT (p : Nat → Bool) (k j : Nat) : Nat.testBit (bm p k) j = (decide (j < k) && p j) := by
  by_cases h : j < k
  · rw [Nat.testBit_eq_decide_div_mod_eq, bm_bit p h, decide_eq_true h, Bool.true_and]
    cases p j <;> rfl
  · rw [decide_eq_false h, Bool.false_and]
    exact Nat.testBit_lt_two_pow (Nat.lt_of_lt_of_le (bm_lt p k) (Nat.pow_le_pow_right (by omega) (by omega)))
theorem pop_two : ∀ q, q < 12 → pop (2 ^ q) = 1 := by decide
theorem col_of {e : Nat → Nat → Bool} {r : Nat} (hr : r ≤ 12) {p : Nat → Bool} (h1 : ∀ i j, i < r → j < r → p i = true → p j = true → e i j = false) (h2 : ∀ a b c, a < b → b < c → c < r → trS e a b c = true → p a = true ∨ p b = true ∨ p c = true) : colB e r (bm p r) = true := by
  unfold colB
  rw [Bool.and_eq_true]
  constructor
  · refine triB_t.mpr (fun a b c hab hbc hc ht => ?_)
    have hu := h2 a b c hab hbc hc ht
    unfold trS at ht
    rw [Bool.and_eq_true, Bool.and_eq_true] at ht
    have n1 : ¬ (p a = true ∧ p b = true) := fun q => by rw [h1 a b (by omega) (by omega) q.1 q.2] at ht; exact absurd ht.1 (by decide)
    have n2 : ¬ (p a = true ∧ p c = true) := fun q => by rw [h1 a c (by omega) (by omega) q.1 q.2] at ht; exact absurd ht.2.1 (by decide)
    have n3 : ¬ (p b = true ∧ p c = true) := fun q => by rw [h1 b c (by omega) (by omega) q.1 q.2] at ht; exact absurd ht.2.2 (by decide)
    have one : ∀ q, q < r → p q = true → (∀ j, (j = a ∨ j = b ∨ j = c) → p j = true → j = q) → (q = a ∨ q = b ∨ q = c) → pop (bm p r &&& mk3 a b c) = 1 := fun q hq hp hj hqm => by
      have : bm p r &&& mk3 a b c = 2 ^ q := by
        refine Nat.eq_of_testBit_eq (fun j => ?_)
        unfold mk3
        rw [Nat.testBit_and, bmT, Nat.testBit_or, Nat.testBit_or, Nat.testBit_two_pow, Nat.testBit_two_pow, Nat.testBit_two_pow, Nat.testBit_two_pow]
        by_cases e : q = j
        · subst e
          rw [hp, decide_eq_true hq, decide_eq_true (rfl : q = q)]
          rcases hqm with w | w | w <;> simp [w]
        · rw [decide_eq_false e]
          cases hpj : p j with
          | false => rw [Bool.and_false, Bool.false_and]
          | true =>
            have w : ¬ (j = a ∨ j = b ∨ j = c) := fun w => e (hj j w hpj).symm
            rw [decide_eq_false (show ¬ a = j from fun z => w (Or.inl z.symm)), decide_eq_false (show ¬ b = j from fun z => w (Or.inr (Or.inl z.symm))), decide_eq_false (show ¬ c = j from fun z => w (Or.inr (Or.inr z.symm)))]
            simp
      rw [this]
      exact pop_two q (by omega)
    rcases hu with q | q | q
    · refine one a (by omega) q (fun j hj hp => ?_) (Or.inl rfl)
      rcases hj with w | w | w
      · exact w
      · exact absurd ⟨q, w ▸ hp⟩ n1
      · exact absurd ⟨q, w ▸ hp⟩ n2
    · refine one b (by omega) q (fun j hj hp => ?_) (Or.inr (Or.inl rfl))
      rcases hj with w | w | w
      · exact absurd ⟨w ▸ hp, q⟩ n1
      · exact w
      · exact absurd ⟨q, w ▸ hp⟩ n3
    · refine one c (by omega) q (fun j hj hp => ?_) (Or.inr (Or.inr rfl))
      rcases hj with w | w | w
      · exact absurd ⟨w ▸ hp, q⟩ n2
      · exact absurd ⟨w ▸ hp, q⟩ n3
      · exact w
  · unfold sqB
    refine allB_t.mpr (fun i hi => decide_eq_true (fun hb => ?_))
    rw [bm_bit p hi] at hb
    have hpi : p i = true := by
      cases q : p i with
      | true => rfl
      | false => rw [q] at hb; exact absurd hb (by decide)
    refine Nat.eq_of_testBit_eq (fun j => ?_)
    rw [Nat.testBit_and, bmT, bmT, Nat.zero_testBit]
    by_cases hj : j < r
    · cases hp : p j with
      | false => rw [Bool.and_false, Bool.and_false]
      | true => rw [h1 i j hi hj hpi hp, Bool.and_false, Bool.false_and]
    · rw [decide_eq_false hj, Bool.false_and, Bool.false_and]
theorem trS_sym {e : Nat → Nat → Bool} (hs : ∀ i j, e i j = e j i) {a b c : Nat} (h : trS e a b c = true) : trS e a c b = true ∧ trS e b a c = true ∧ trS e b c a = true ∧ trS e c a b = true ∧ trS e c b a = true := by
  unfold trS at h ⊢
  rw [Bool.and_eq_true, Bool.and_eq_true] at h
  obtain ⟨h1, h2, h3⟩ := h
  rw [hs c b, hs b a, hs c a, h1, h2, h3]
  exact ⟨rfl, rfl, rfl, rfl, rfl⟩
theorem noR_1 {a b c : KT} {w : Nat} (h1 : Nat.testBit a.2.2.2.2 w = false) (h2 : Nat.testBit b.2.2.2.2 w = false) (h3 : Nat.testBit c.2.2.2.2 w = false) : noR a b c w = 1 := by
  unfold noR
  rw [h1, h2, h3]
  rfl
/-- the threes that the reds w leave out, in all their orders -/
def F6 (e : Nat → Nat → Bool) (r : Nat) (T : Nat → KT) (w : Nat) : Nat := fb_sm (fun v => fb_sm (fun x => fb_sm (fun y => bN (trS e v x y) * noR (T v) (T x) (T y) w) r) r) r
theorem F6_6 {e : Nat → Nat → Bool} {r : Nat} (hs : ∀ i j, e i j = e j i) {T : Nat → KT} {w a b c : Nat} (hab : a < b) (hbc : b < c) (hc : c < r) (ht : trS e a b c = true) (h1 : Nat.testBit (T a).2.2.2.2 w = false) (h2 : Nat.testBit (T b).2.2.2.2 w = false) (h3 : Nat.testBit (T c).2.2.2.2 w = false) : 6 ≤ F6 e r T w := by
  obtain ⟨t1, t2, t3, t4, t5⟩ := trS_sym hs ht
  have g : ∀ u v x, v < r → x < r → trS e u v x = true → Nat.testBit (T u).2.2.2.2 w = false → Nat.testBit (T v).2.2.2.2 w = false → Nat.testBit (T x).2.2.2.2 w = false → 1 ≤ fb_sm (fun y => bN (trS e u v y) * noR (T u) (T v) (T y) w) r := fun u v x hv hx t q1 q2 q3 => by
    have := sm_g1 (fun y => bN (trS e u v y) * noR (T u) (T v) (T y) w) hx
    simp only [t, noR_1 q1 q2 q3] at this
    exact this
  have a1 := g a b c (by omega) hc ht h1 h2 h3
  have a2 := g a c b (by omega) (by omega) t1 h1 h3 h2
  have b1 := g b a c (by omega) hc t2 h2 h1 h3
  have b2 := g b c a (by omega) (by omega) t3 h2 h3 h1
  have c1 := g c a b (by omega) (by omega) t4 h3 h1 h2
  have c2 := g c b a (by omega) (by omega) t5 h3 h2 h1
  have A := sm_g2 (fun x => fb_sm (fun y => bN (trS e a x y) * noR (T a) (T x) (T y) w) r) hbc hc
  have B := sm_g2 (fun x => fb_sm (fun y => bN (trS e b x y) * noR (T b) (T x) (T y) w) r) (show a < c by omega) hc
  have C := sm_g2 (fun x => fb_sm (fun y => bN (trS e c x y) * noR (T c) (T x) (T y) w) r) hab (show b < r by omega)
  have S := sm_g3 (fun v => fb_sm (fun x => fb_sm (fun y => bN (trS e v x y) * noR (T v) (T x) (T y) w) r) r) hab hbc hc
  unfold F6
  omega
theorem ks {r : Nat} (hr : r ≤ 12) {e : Nat → Nat → Bool} {x y z : Nat → Int} (hR : ∀ i, i < r → (-5 ≤ x i ∧ x i ≤ 5) ∧ (-5 ≤ y i ∧ y i ≤ 5) ∧ (-5 ≤ z i ∧ z i ≤ 5) ∧ ¬ (x i = 0 ∧ y i = 0 ∧ z i = 0)) (hs : ∀ i j, e i j = e j i) (hi : ∀ i, e i i = false) (he : ∀ i j, i < r → j < r → e i j = true → x i * x j + y i * y j + z i * z j = 0) (hP : ∀ i j, i < r → j < r → i ≠ j → ¬ (x i * y j = y i * x j ∧ x i * z j = z i * x j ∧ y i * z j = z i * y j)) : ∃ m, m < 2 ^ r ∧ colB e r m = true := by
  have h4 : c4f e r := fun a b c d ha hb hc hd hab e1 e2 e3 e4 => by
    refine Classical.byContradiction (fun q => ?_)
    exact hP c d hc hd q (crs (hP a b ha hb hab) (he a c ha hc e1) (he a d ha hd e2) (he b c hb hc e3) (he b d hb hd e4))
  have h6 := T6_le hr hs hi h4
  have hT : ∀ i, ∃ t : KT, i < r → t ∈ ksT ∧ ∃ g : Int, g ≠ 0 ∧ x i = g * ((t.1 : Int) - 5) ∧ y i = g * ((t.2.1 : Int) - 5) ∧ z i = g * ((t.2.2.1 : Int) - 5) := fun i => by
    by_cases q : i < r
    · obtain ⟨h1, h2, h3, h0⟩ := hR i q
      obtain ⟨t, h⟩ := canon h1 h2 h3 h0
      exact ⟨t, fun _ => h⟩
    · exact ⟨(0, 0, 0, 0, 0), fun w => absurd w q⟩
  let T : Nat → KT := fun i => Classical.choose (hT i)
  have hTi : ∀ i, i < r → T i ∈ ksT ∧ ∃ g : Int, g ≠ 0 ∧ x i = g * (((T i).1 : Int) - 5) ∧ y i = g * (((T i).2.1 : Int) - 5) ∧ z i = g * (((T i).2.2.1 : Int) - 5) := fun i hi => Classical.choose_spec (hT i) hi
  generalize T = T at hTi
  have ho : ∀ i j, i < r → j < r → e i j = true → oK (T i) (T j) = true := fun i j h1 h2 h3 => by
    obtain ⟨m1, g, g0, a1, a2, a3⟩ := hTi i h1
    obtain ⟨m2, k, k0, b1, b2, b3⟩ := hTi j h2
    exact oK_r m1 m2 g0 k0 a1 a2 a3 b1 b2 b3 (he i j h1 h2 h3)
  have hw : ∃ w, w < 47 ∧ ¬ 6 ≤ F6 e r T w := by
    refine Classical.byContradiction (fun q => ?_)
    have all : ∀ w, w < 47 → 6 ≤ F6 e r T w := fun w hw => Classical.byContradiction (fun q2 => q ⟨w, hw, q2⟩)
    have lo := fb_sm_le (f := fun _ => 6) (g := F6 e r T) (n := 47) all
    rw [fb_sm_const] at lo
    have hi' : fb_sm (F6 e r T) 47 ≤ T6 e r * 6 := by
      have s1 : fb_sm (F6 e r T) 47 = fb_sm (fun v => fb_sm (fun x => fb_sm (fun y => fb_sm (fun w => bN (trS e v x y) * noR (T v) (T x) (T y) w) 47) r) r) r := by
        show fb_sm (fun w => fb_sm (fun v => fb_sm (fun x => fb_sm (fun y => bN (trS e v x y) * noR (T v) (T x) (T y) w) r) r) r) 47 = _
        rw [sm_swap]
        refine fb_sm_cong (fun v _ => ?_)
        rw [sm_swap]
        refine fb_sm_cong (fun x _ => ?_)
        rw [sm_swap]
      have s2 : T6 e r * 6 = fb_sm (fun v => fb_sm (fun x => fb_sm (fun y => bN (trS e v x y) * 6) r) r) r := by
        unfold T6
        rw [← sm_mul]
        refine fb_sm_cong (fun v _ => ?_)
        rw [← sm_mul]
        refine fb_sm_cong (fun x _ => ?_)
        rw [← sm_mul]
      rw [s1, s2]
      refine fb_sm_le (fun v hv => fb_sm_le (fun x hx => fb_sm_le (fun y hy => ?_)))
      cases ht : trS e v x y with
      | false =>
        refine Nat.le_trans (Nat.le_of_eq (fb_sm_0 (fun w _ => ?_))) (Nat.zero_le _)
        exact Nat.zero_mul _
      | true =>
        unfold trS at ht
        rw [Bool.and_eq_true, Bool.and_eq_true] at ht
        have := ks_three (hTi v hv).1 (hTi x hx).1 (hTi y hy).1 (ho v x hv hx ht.1) (ho v y hv hy ht.2.1) (ho x y hx hy ht.2.2)
        have c : ∀ w, bN true * noR (T v) (T x) (T y) w = noR (T v) (T x) (T y) w := fun w => Nat.one_mul _
        rw [fb_sm_cong (fun w _ => c w)]
        exact this
    omega
  obtain ⟨w, _, hw⟩ := hw
  refine ⟨bm (fun i => Nat.testBit (T i).2.2.2.2 w) r, bm_lt _ _, col_of hr (fun i j h1 h2 p1 p2 => ?_) (fun a b c hab hbc hc ht => ?_)⟩
  · cases q : e i j with
    | false => rfl
    | true =>
      have z := ks_two (hTi i h1).1 (hTi j h2).1 (ho i j h1 h2 q)
      have z2 := congrArg (fun n => Nat.testBit n w) z
      simp only [Nat.testBit_and, p1, p2, Nat.zero_testBit] at z2
      exact absurd z2 (by decide)
  · refine Classical.byContradiction (fun q => hw ?_)
    have f : ∀ i, ¬ Nat.testBit (T i).2.2.2.2 w = true → Nat.testBit (T i).2.2.2.2 w = false := fun i h => by
      cases z : Nat.testBit (T i).2.2.2.2 w with
      | false => rfl
      | true => exact absurd z h
    exact F6_6 hs hab hbc hc ht (f a (fun z => q (Or.inl z))) (f b (fun z => q (Or.inr (Or.inl z)))) (f c (fun z => q (Or.inr (Or.inr z))))
/-! and in the class's own numbers -/
theorem pb {x y : Int} (hx : -5 ≤ x ∧ x ≤ 5) (hy : -5 ≤ y ∧ y ≤ 5) : -25 ≤ x * y ∧ x * y ≤ 25 := by
  rcases (show x = -5 ∨ x = -4 ∨ x = -3 ∨ x = -2 ∨ x = -1 ∨ x = 0 ∨ x = 1 ∨ x = 2 ∨ x = 3 ∨ x = 4 ∨ x = 5 by omega) with q | q | q | q | q | q | q | q | q | q | q <;> subst q <;> omega
theorem m32 {a b : Int32} (ha : rg (-5) 5 a = true) (hb : rg (-5) 5 b = true) : (a * b).toInt = a.toInt * b.toInt ∧ -25 ≤ a.toInt * b.toInt ∧ a.toInt * b.toInt ≤ 25 := by
  have h := pb (of_decide_eq_true ha) (of_decide_eq_true hb)
  exact ⟨fb_mulI (by omega) (by omega), h⟩
theorem ks32 {h : Hp} {r : Nat} (R : RI h r) : ∃ m, m < 2 ^ r ∧ colB (ox h) r m = true := by
  obtain ⟨V, r9, rE, rR, rP, rJ⟩ := R
  have h0 : ∀ a : Int32, a.toInt = 0 → a = 0 := fun a q => Int32.toInt_inj.mp (by rw [q]; rfl)
  refine ks V.1 (e := ox h) (x := fun i => (h 14 i).toInt) (y := fun i => (h 15 i).toInt) (z := fun i => (h 16 i).toInt) (fun i hi => ?_) (fun i j => ort_symm _ _ _ i j) (fun i => ort_self _ _ _ i) (fun i j hi hj q => ?_) (fun i j hi hj hij q => ?_)
  · obtain ⟨a, b, c, d⟩ := rR i hi
    exact ⟨of_decide_eq_true a, of_decide_eq_true b, of_decide_eq_true c, fun q => d ⟨h0 _ q.1, h0 _ q.2.1, h0 _ q.2.2⟩⟩
  · obtain ⟨a, b, c, _⟩ := rR i hi
    obtain ⟨a', b', c', _⟩ := rR j hj
    unfold ox ort at q
    rw [Bool.and_eq_true] at q
    have z := congrArg Int32.toInt (of_decide_eq_true q.2)
    obtain ⟨p1, p2, p3⟩ := m32 a a'
    obtain ⟨q1, q2, q3⟩ := m32 b b'
    obtain ⟨s1, s2, s3⟩ := m32 c c'
    rw [fb_addI (by rw [fb_addI (by omega) (by omega)]; omega) (by rw [fb_addI (by omega) (by omega)]; omega), fb_addI (by omega) (by omega), p1, q1, s1] at z
    exact z
  · have key : ∀ i j, i < j → j < r → ¬ ((h 14 i).toInt * (h 15 j).toInt = (h 15 i).toInt * (h 14 j).toInt ∧ (h 14 i).toInt * (h 16 j).toInt = (h 16 i).toInt * (h 14 j).toInt ∧ (h 15 i).toInt * (h 16 j).toInt = (h 16 i).toInt * (h 15 j).toInt) := fun i j hij hj q => by
      obtain ⟨a, b, c, _⟩ := rR i (by omega)
      obtain ⟨a', b', c', _⟩ := rR j hj
      have z := rP i j hij hj
      unfold parB at z
      refine of_decide_eq_false z ⟨Int32.toInt_inj.mp ?_, Int32.toInt_inj.mp ?_, Int32.toInt_inj.mp ?_⟩
      · rw [(m32 a b').1, (m32 b a').1]; exact q.1
      · rw [(m32 a c').1, (m32 c a').1]; exact q.2.1
      · rw [(m32 b c').1, (m32 c b').1]; exact q.2.2
    rcases Nat.lt_or_gt_of_ne hij with w | w
    · exact key i j w hj q
    · refine key j i w hi ⟨?_, ?_, ?_⟩
      · rw [Int.mul_comm, Int.mul_comm (h 15 j).toInt]; exact q.1.symm
      · rw [Int.mul_comm, Int.mul_comm (h 16 j).toInt]; exact q.2.1.symm
      · rw [Int.mul_comm, Int.mul_comm (h 16 j).toInt]; exact q.2.2.symm
