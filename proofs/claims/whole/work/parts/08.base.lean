/-! more rows: calls whose answer is told, numbers from 0 on; loops -/
def Ret (x : Int32) (h1 : Hp) : Option Value → Hp → Prop := fun v h' => v = some (.int x) ∧ h' = h1
def RetV (h1 : Hp) : Option Value → Hp → Prop := fun v h' => v = none ∧ h' = h1
theorem sw_cvi {J : Mt} {E : ExT} {Z : ZT} {pc : Nat} {L : List (Option Value)} {st : List Value} {h : Hp} {J' : Mt} {idx n q ci i : Nat} {f : Option Nat} {As : List Value} {stk : List Value} {x : Int32} {h1 : Hp} (hC : Ctr J' (.ref q :: As) h (Ret x h1)) (hd : decode J.c pc = .ok (.invokevirtual idx, 3)) (hL : LkV J.y.cls idx n J') (hf : fit J J' = true) (hq : ob q ci i f) (hci : (clsX[ci]?).map (·.1) = some J'.y.cls) (hn : As.length = n) (hs : stk = As.reverse ++ .ref q :: st) (hc : (st.map Value.category).sum ≤ 8)
    (k : SW J E Z (pc + 3) L (.int x :: st) h1) : SW J E Z pc L stk h := sw_callV hC hd hL hf hq hci hn hs hc (fun v h' hv => by obtain ⟨rfl, rfl⟩ := hv; exact k)
theorem sw_cvv {J : Mt} {E : ExT} {Z : ZT} {pc : Nat} {L : List (Option Value)} {st : List Value} {h : Hp} {J' : Mt} {idx n q ci i : Nat} {f : Option Nat} {As : List Value} {stk : List Value} {h1 : Hp} (hC : Ctr J' (.ref q :: As) h (RetV h1)) (hd : decode J.c pc = .ok (.invokevirtual idx, 3)) (hL : LkV J.y.cls idx n J') (hf : fit J J' = true) (hq : ob q ci i f) (hci : (clsX[ci]?).map (·.1) = some J'.y.cls) (hn : As.length = n) (hs : stk = As.reverse ++ .ref q :: st) (hc : (st.map Value.category).sum ≤ 8)
    (k : SW J E Z (pc + 3) L st h1) : SW J E Z pc L stk h := sw_callV hC hd hL hf hq hci hn hs hc (fun v h' hv => by obtain ⟨rfl, rfl⟩ := hv; exact k)
theorem sw_csi {J : Mt} {E : ExT} {Z : ZT} {pc : Nat} {L : List (Option Value)} {st : List Value} {h : Hp} {J' : Mt} {idx n : Nat} {As : List Value} {stk : List Value} {x : Int32} {h1 : Hp} (hC : Ctr J' As h (Ret x h1)) (hd : decode J.c pc = .ok (.invokestatic idx, 3)) (hL : LkS J.y.cls idx n J') (hf : fit J J' = true) (hn : As.length = n) (hs : stk = As.reverse ++ st) (hc : (st.map Value.category).sum ≤ 8)
    (k : SW J E Z (pc + 3) L (.int x :: st) h1) : SW J E Z pc L stk h := sw_callS hC hd hL hf hn hs hc (fun v h' hv => by obtain ⟨rfl, rfl⟩ := hv; exact k)
theorem sw_csv {J : Mt} {E : ExT} {Z : ZT} {pc : Nat} {L : List (Option Value)} {st : List Value} {h : Hp} {J' : Mt} {idx n : Nat} {As : List Value} {stk : List Value} {h1 : Hp} (hC : Ctr J' As h (RetV h1)) (hd : decode J.c pc = .ok (.invokestatic idx, 3)) (hL : LkS J.y.cls idx n J') (hf : fit J J' = true) (hn : As.length = n) (hs : stk = As.reverse ++ st) (hc : (st.map Value.category).sum ≤ 8)
    (k : SW J E Z (pc + 3) L st h1) : SW J E Z pc L stk h := sw_callS hC hd hL hf hn hs hc (fun v h' hv => by obtain ⟨rfl, rfl⟩ := hv; exact k)
theorem sh_k : ∀ k, k < 32 → ((nI k &&& 31).toBitVec.smod 32).toNat = k := by decide +kernel
theorem nI_shr {a k : Nat} (ha : a < 2 ^ 31) (hk : k < 32) : nI a >>> (nI k &&& 31) = nI (a / 2 ^ k) := pk_shrN ha _ k (sh_k k hk)
theorem nI_shl {a k : Nat} (hk : k < 32) (h : a * 2 ^ k < 2 ^ 32) : nI a <<< (nI k &&& 31) = nI (a * 2 ^ k) := pk_shlN _ k (sh_k k hk) h
theorem nI_and1 (a : Nat) : nI a &&& nI 1 = nI (a % 2) := by rw [fa_and, Nat.and_one_is_mod]
theorem sw_iand1 {J : Mt} {E : ExT} {Z : ZT} {pc : Nat} {L : List (Option Value)} {st : List Value} {h : Hp} {a : Nat} (hd : decode J.c pc = .ok (.iand, 1)) (k : SW J E Z (pc + 1) L (.int (nI (a % 2)) :: st) h) : SW J E Z pc L (.int (nI 1) :: .int (nI a) :: st) h := sw_iand hd (by rw [nI_and1]; exact k)
theorem sw_iandN {J : Mt} {E : ExT} {Z : ZT} {pc : Nat} {L : List (Option Value)} {st : List Value} {h : Hp} {a b : Nat} (hd : decode J.c pc = .ok (.iand, 1)) (k : SW J E Z (pc + 1) L (.int (nI (a &&& b)) :: st) h) : SW J E Z pc L (.int (nI b) :: .int (nI a) :: st) h := sw_iand hd (by rw [fa_and]; exact k)
theorem sw_iorN {J : Mt} {E : ExT} {Z : ZT} {pc : Nat} {L : List (Option Value)} {st : List Value} {h : Hp} {a b : Nat} (hd : decode J.c pc = .ok (.ior, 1)) (k : SW J E Z (pc + 1) L (.int (nI (a ||| b)) :: st) h) : SW J E Z pc L (.int (nI b) :: .int (nI a) :: st) h := sw_ior hd (by rw [fa_or]; exact k)
theorem sw_ixorN {J : Mt} {E : ExT} {Z : ZT} {pc : Nat} {L : List (Option Value)} {st : List Value} {h : Hp} {a b : Nat} (hd : decode J.c pc = .ok (.ixor, 1)) (k : SW J E Z (pc + 1) L (.int (nI (a ^^^ b)) :: st) h) : SW J E Z pc L (.int (nI b) :: .int (nI a) :: st) h := sw_ixor hd (by rw [fb_xorI]; exact k)
theorem sw_ishlN {J : Mt} {E : ExT} {Z : ZT} {pc : Nat} {L : List (Option Value)} {st : List Value} {h : Hp} {a b : Nat} (hd : decode J.c pc = .ok (.ishl, 1)) (hb : b < 32) (ha : a * 2 ^ b < 2 ^ 32) (k : SW J E Z (pc + 1) L (.int (nI (a * 2 ^ b)) :: st) h) : SW J E Z pc L (.int (nI b) :: .int (nI a) :: st) h := sw_ishl hd (by rw [nI_shl hb ha]; exact k)
theorem sw_ishrN {J : Mt} {E : ExT} {Z : ZT} {pc : Nat} {L : List (Option Value)} {st : List Value} {h : Hp} {a b : Nat} (hd : decode J.c pc = .ok (.ishr, 1)) (ha : a < 2 ^ 31) (hb : b < 32) (k : SW J E Z (pc + 1) L (.int (nI (a / 2 ^ b)) :: st) h) : SW J E Z pc L (.int (nI b) :: .int (nI a) :: st) h := sw_ishr hd (by rw [nI_shr ha hb]; exact k)
/-- up to n, from anywhere -/
theorem lp_up {S : Nat → Prop} {n : Nat} (hn : S n) (hs : ∀ i, i < n → S (i + 1) → S i) : ∀ i, i ≤ n → S i := by
  intro i hi
  obtain ⟨d, rfl⟩ : ∃ d, n = i + d := ⟨n - i, by omega⟩
  clear hi
  induction d generalizing i with
  | zero => exact hn
  | succ d ih => exact hs i (by omega) (ih (i + 1) (by rw [show i + 1 + d = i + (d + 1) by omega]; exact hn) (by intro j hj; exact hs j (by omega)))
theorem hset_k {h : Hp} {k i a b : Nat} {v : Int32} (hn : a ≠ k) : hset h k i v a b = h a b := hset_ne (fun q => hn q.1)
theorem hset_i {h : Hp} {k i b : Nat} {v : Int32} (hn : b ≠ i) : hset h k i v k b = h k b := hset_ne (fun q => hn q.2)
/-- bits of n below k, counted -/
def bs (n : Nat) : Nat → Nat
  | 0 => 0
  | k + 1 => bs n k + n / 2 ^ k % 2
theorem bs_le (n : Nat) : ∀ k, bs n k ≤ k
  | 0 => Nat.le_refl _
  | k + 1 => by
    have := bs_le n k
    have h2 : n / 2 ^ k % 2 < 2 := Nat.mod_lt _ (by omega)
    simp only [bs]
    omega
def pop (n : Nat) : Nat := bs n 16
theorem zO : narrow .boolean (.int (nI 1)) = .int (nI 1) := by decide
