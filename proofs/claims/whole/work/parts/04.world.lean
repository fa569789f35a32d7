/-! THE ONE WORLD: 43 cells (the class's 28, the reference's 15) at addresses 'ad k'; h k i is the int in slot i of cell k (a field, or a place of a row); what refers to what never changes behind the constructors -/
abbrev Hp : Type := Nat → Nat → Int32
def hset (h : Hp) (k i : Nat) (v : Int32) : Hp := fun a => if a = k then upd (h k) i v else h a
def trV (ad : Nat → Nat) : Value → Value
  | .ref k => .ref (ad k)
  | v => v
abbrev clsX : List vw_C := [(RX0, TX0, 6), (RX1, TX1, 12), (RX2, TX2, 3), (RX3, TX3, 11), (RX4, TX4, 4), (RX5, TX5, 19)]
def plO : Nat → Option (Nat × List (Option Nat))
  | 0 => some (4, [some 1, some 10, some 13, some 19])
  | 1 => some (3, [none, none, none, some 2, some 3, some 4, some 5, some 6, some 7, some 8, some 9])
  | 10 => some (0, [some 11, some 12, none, none, none, none])
  | 13 => some (1, [none, some 14, some 15, some 16, some 17, some 18, none, none, none, none, none, none])
  | 20 => some (2, [some 24, none, none])
  | 21 => some (2, [some 25, none, none])
  | 22 => some (2, [some 26, none, none])
  | 23 => some (2, [some 27, none, none])
  | 28 => some (5, [none, none, some 29, some 30, some 31, some 32, some 33, some 34, none, none, some 35, some 36, some 37, some 38, some 39, none, some 40, some 41, some 42])
  | _ => none
def plA : Nat → Nat
  | 2 => 8
  | 3 => 8
  | 4 => 64
  | 5 => 64
  | 6 => 64
  | 7 => 512
  | 8 => 64
  | 9 => 64
  | 11 => 24
  | 12 => 64
  | 14 => 12
  | 15 => 12
  | 16 => 12
  | 17 => 12
  | 18 => 220
  | 24 => 64
  | 25 => 64
  | 26 => 64
  | 27 => 64
  | 29 => 8
  | 30 => 8
  | 31 => 64
  | 32 => 64
  | 33 => 64
  | 34 => 24
  | 35 => 12
  | 36 => 12
  | 37 => 12
  | 38 => 12
  | 39 => 220
  | 40 => 4
  | 41 => 4
  | 42 => 256
  | _ => 0
def fE (ad : Nat → Nat) (h : Hp) (k i : Nat) (f : Option Nat) : Value := match f with
  | some r => .ref (ad r)
  | none => .int (h k i)
def cE (cI cZ cS : ClassId) (ad : Nat → Nat) (h : Hp) (k : Nat) : va_E := match plO k with
  | some q => .inr (q.1, q.2.mapIdx (fE ad h k))
  | none => if k = 19 then .inl (cS, 4, .inr (.inr (.inr (.inr (fun j => some (ad (20 + j))))))) else .inl (if k = 9 then cZ else cI, plA k, .inl (h k))
def wW (cI cZ cS : ClassId) (ad : Nat → Nat) (h : Hp) : va_W := (List.range 43).map (fun k => (ad k, cE cI cZ cS ad h k))
theorem wW_get {cI cZ cS : ClassId} {ad : Nat → Nat} {h : Hp} {k : Nat} (hk : k < 43) : (wW cI cZ cS ad h)[k]? = some (ad k, cE cI cZ cS ad h k) := by
  simp [wW, hk]
theorem wW_set {cI cZ cS : ClassId} {ad : Nat → Nat} {h h' : Hp} {k : Nat} (hk : k < 43) (hoff : ∀ a, a ≠ k → h' a = h a) : (wW cI cZ cS ad h).set k (ad k, cE cI cZ cS ad h' k) = wW cI cZ cS ad h' := by
  apply List.ext_getElem?
  intro i
  by_cases hi : i = k
  · subst hi
    rw [List.getElem?_set_self (by simp [wW, hk])]
    exact (wW_get hk).symm
  · rw [List.getElem?_set_ne (Ne.symm hi)]
    by_cases h2 : i < 43
    · rw [wW_get h2, wW_get h2]
      have : cE cI cZ cS ad h' i = cE cI cZ cS ad h i := by
        have hf : fE ad h' i = fE ad h i := by
          funext j f
          unfold fE
          rw [hoff i hi]
        unfold cE
        rw [hf, hoff i hi]
      rw [this]
    · have e1 : (wW cI cZ cS ad h)[i]? = none := by simp [wW]; omega
      have e2 : (wW cI cZ cS ad h')[i]? = none := by simp [wW]; omega
      rw [e1, e2]
theorem hset_off {h : Hp} {k i : Nat} {v : Int32} : ∀ a, a ≠ k → hset h k i v a = h a := fun a ha => by simp [hset, ha]
theorem hset_same {h : Hp} {k i : Nat} {v : Int32} : hset h k i v k = upd (h k) i v := by simp [hset]
theorem hset_at {h : Hp} {k i : Nat} {v : Int32} : hset h k i v k i = v := by simp [hset, upd]
theorem hset_ne {h : Hp} {k i a b : Nat} {v : Int32} (hn : ¬ (a = k ∧ b = i)) : hset h k i v a b = h a b := by
  by_cases ha : a = k
  · subst ha
    have hb : b ≠ i := fun e => hn ⟨rfl, e⟩
    simp [hset, upd, hb]
  · simp [hset, ha]
theorem hset_eq (h : Hp) (k i : Nat) (v : Int32) (a b : Nat) : hset h k i v a b = if a = k ∧ b = i then v else h a b := by
  by_cases hc : a = k ∧ b = i
  · rw [if_pos hc, hc.1, hc.2, hset_at]
  · rw [if_neg hc, hset_ne hc]
abbrev tysX (cI cZ cS : ClassId) : List (ClassId × FieldType) := [(cI, .int), (cZ, .boolean), (cS, .object "LooksTogether$Sheet")]
def nsT : List (String × Nat × String × String × String) := [("LooksTogether", 37, "LooksTogether$Table", "lookCount", "I"), ("LooksTogether", 59, "LooksTogether$Table", "size", "I"), ("LooksTogether$Parting", 72, "LooksTogether$Table", "size", "I"), ("LooksTogether$Parting", 31, "LooksTogether$Table", "changes", "I"), ("LooksTogether", 71, "LooksTogether$Table", "looksOf", "[I"), ("LooksTogether", 78, "LooksTogether$Table", "parities", "[I"), ("LooksTogether$Parting", 46, "LooksTogether$Table", "weights", "[I"), ("LooksTogether", 88, "LooksTogether$Table", "weights", "[I"), ("LooksTogether", 98, "LooksTogether$Table", "stakes", "[I"), ("LooksTogether", 114, "LooksTogether$Table", "met", "[Z"), ("LooksTogether", 144, "LooksTogether$Parting", "row", "[I"), ("LooksTogether", 141, "LooksTogether$Parting", "total", "I"), ("LooksTogether", 138, "LooksTogether$Parting", "tried", "I"), ("LooksTogether", 135, "LooksTogether$Parting", "outcome", "I"), ("LooksTogether", 163, "LooksTogether$Rays", "size", "I"), ("LooksTogether", 168, "LooksTogether$Rays", "squares", "[I"), ("LooksTogether", 174, "LooksTogether$Rays", "pairCount", "I"), ("LooksTogether", 177, "LooksTogether$Rays", "threeCount", "I"), ("LooksTogether", 180, "LooksTogether$Rays", "colourCount", "I"), ("LooksTogether", 183, "LooksTogether$Rays", "leastColours", "I"), ("LooksTogether", 186, "LooksTogether$Rays", "mostRed", "I"), ("LooksTogether", 217, "LooksTogether$Sheet", "cells", "[I"), ("LooksTogether", 207, "LooksTogether$Sheet", "lane", "I"), ("LooksTogether", 223, "LooksTogether$Sheet", "size", "I")]
def nsC (q : String × Nat × String × String × String) : Cond := .fieldLinkNest q.1 q.2.1 q.2.2.1 q.2.2.2.1 q.2.2.2.2 "LooksTogether"
def nsN (U : State) : Prop := ∀ q ∈ nsT, va_Nw (nsC q) U
/-- the words that every method is given: those of the tables that keep -/
def ws0 : List Cond := lw_tbl.filter goodWord
theorem ws0_good {l : List Cond} (h : ∀ w ∈ l, w ∈ ws0) : GoodIn ws0 l := fun w hw => ⟨h w hw, good_of_word (List.mem_filter.mp (h w hw)).2⟩
theorem ws0_tbl {w : Cond} (h : w ∈ ws0) : w ∈ lw_tbl := (List.mem_filter.mp h).1
def WA (ad : Nat → Nat) : Nat → Prop := fun q => ∃ k : Nat, k < 43 ∧ q = ad k
def Wld (dC : Nat → ClassId) (dI : Nat → Nat → Nat) (cI cZ cS : ClassId) (ad : Nat → Nat) (h : Hp) (U : State) : Prop :=
  va_P (dC, dI) clsX (wW cI cZ cS ad h) U.heap ∧ va_K (dC, dI) clsX (tysX cI cZ cS) U ∧ va_D (fun _ => True) (wW cI cZ cS ad h) ∧ nsN U
/-- a method: name, code, locals, what it answers, its room, the cells and slots made so far -/
abbrev Mt : Type := MethodName × ByteArray × Nat × Option FieldType × Room × Nat × Nat
abbrev Mt.y (J : Mt) : MethodName := J.1
abbrev Mt.c (J : Mt) : ByteArray := J.2.1
abbrev Mt.n (J : Mt) : Nat := J.2.2.1
abbrev Mt.r (J : Mt) : Option FieldType := J.2.2.2.1
abbrev Mt.R (J : Mt) : Room := J.2.2.2.2.1
abbrev Mt.k (J : Mt) : Nat := J.2.2.2.2.2.1
abbrev Mt.s (J : Mt) : Nat := J.2.2.2.2.2.2
abbrev mkJ (y : MethodName) (c : ByteArray) (n : Nat) (r : Option FieldType) (f lo : Nat) : Mt := (y, c, n, r, ({ frames := f, cells := 0, slots := 0, locals := lo } : Room), 0, 0)
abbrev ExT : Type := State → Array Value → (Nat → Nat) → Prop
abbrev ZT : Type := List Frame → Array Value → State → (Nat → ClassId) → (Nat → Nat → Nat) → ClassId → ClassId → ClassId → (Nat → Nat) → State → Prop
def Fx (J : Mt) (E : ExT) (p : Program) (s : State) (m : MethodId) (args : Array Value) (meth : Method) (c : Code) (dC : Nat → ClassId) (dI : Nat → Nat → Nat) (cI cZ cS : ClassId) (ad : Nat → Nat) : Prop :=
  p.tables.exec = Jvm.exec ∧ c.code = J.c ∧ c.maxLocals = J.n ∧ s.vm.findClass J.y.cls = some m.cls ∧ (∀ w ∈ ws0, w.before args s = true) ∧ va_K (dC, dI) clsX (tysX cI cZ cS) s ∧ nsN s ∧ meth.locks = false ∧ meth.sig.returnType = J.r ∧ E s args ad
def lvH (ls : Array Slot) (nL : Nat) (ad : Nat → Nat) (L : List (Option Value)) : Prop := ls.size = nL ∧ lv_wf ls ∧ ∀ (i : Nat) (v : Value), L[i]? = some (some v) → ls[i]? = some (.val (trV ad v))
/-- the machine, in J's frame at pc with locals L and stack st over the world h, comes to an end as Z says -/
def SW (J : Mt) (E : ExT) (Z : ZT) (pc : Nat) (L : List (Option Value)) (st : List Value) (h : Hp) : Prop :=
  ∀ (p : Program) (l : Launch) (e : Env) (s : State) (m : MethodId) (args : Array Value) (below : List Frame) (meth : Method) (c : Code) (dC : Nat → ClassId) (dI : Nat → Nat → Nat) (cI cZ cS : ClassId) (ad : Nat → Nat),
    Fx J E p s m args meth c dC dI cI cZ cS ad → ∀ (H : Heap) (locs : List Loc) (ls : Array Slot), va_P (dC, dI) clsX (wW cI cZ cS ad h) H → va_D (WA ad) (wW cI cZ cS ad h) → va_S (WA ad) s.heap H locs → lvH ls J.n ad L →
      W p l e J.R s m args below meth c H locs J.k J.s (Z below args s dC dI cI cZ cS ad) (F0 m pc ls (st.map (trV ad)))
def Qg (Q : Option Value → Hp → Prop) (dC : Nat → ClassId) (dI : Nat → Nat → Nat) (cI cZ cS : ClassId) (ad : Nat → Nat) : Array Value → State → Outcome → State → Prop :=
  fun _ st oc t => (∃ (v : Option Value) (h' : Hp), oc = .returned (v.map (trV ad)) ∧ Q v h' ∧ Wld dC dI cI cZ cS ad h' t) ∧ va_F (WA ad) st t
def Zm (Q : Option Value → Hp → Prop) : ZT := fun below args s dC dI cI cZ cS ad => MQ below (Qg Q dC dI cI cZ cS ad) args s 0 0 (WA ad)
def E0 : ExT := fun _ _ _ => True
def aL (args : List Value) (n : Nat) : List (Option Value) := args.flatMap (fun v => if v.category = 2 then [some v, none] else [some v]) ++ List.replicate (n - (lg_sl args).length) none
/-- the contract of a method at the arguments and the world -/
def Ctr (J : Mt) (args : List Value) (h : Hp) (Q : Option Value → Hp → Prop) : Prop :=
  ∀ (l : Launch) (dC : Nat → ClassId) (dI : Nat → Nat → Nat) (cI cZ cS : ClassId) (ad : Nat → Nat), Met l J.y (.code J.y J.c J.n J.r :: ws0) J.R (va_Pc (args.map (trV ad)) (Wld dC dI cI cZ cS ad h)) (Qg Q dC dI cI cZ cS ad) 0 0 (WA ad)
theorem wW_D {cI cZ cS : ClassId} {ad : Nat → Nat} {h : Hp} {A : Nat → Prop} (hD : va_D A (wW cI cZ cS ad h)) : va_D (WA ad) (wW cI cZ cS ad h) := by
  refine ⟨hD.1, fun k q hk => ?_⟩
  have hl := (List.getElem?_eq_some_iff.mp hk).1
  have h2 : k < 43 := by simpa [wW] using hl
  rw [wW_get h2] at hk
  cases hk
  exact ⟨k, h2, rfl⟩
theorem trV_cat (ad : Nat → Nat) (v : Value) : (trV ad v).category = v.category := by cases v <;> rfl
theorem lg_tr (ad : Nat → Nat) (args : List Value) : (lg_sl (args.map (trV ad))).length = (lg_sl args).length := by
  induction args with
  | nil => rfl
  | cons v vs ih =>
    have e : ∀ (f : Value) (fs : List Value), lg_sl (f :: fs) = (if f.category = 2 then [Slot.val f, .second] else [Slot.val f]) ++ lg_sl fs := fun f fs => by simp [lg_sl]
    rw [List.map_cons, e, e, List.length_append, List.length_append, ih, trV_cat]
    by_cases hc : v.category = 2 <;> simp [hc]
theorem aL_mem (ad : Nat → Nat) : ∀ (args : List Value) (n i : Nat) (v : Value), (args.flatMap (fun v => if v.category = 2 then [some v, none] else [some v]) ++ List.replicate n none)[i]? = some (some v) → ∀ o : Nat, (o + i, trV ad v) ∈ lv_args o (args.map (trV ad))
  | [], n, i, v, h, o => by
    simp only [List.flatMap_nil, List.nil_append, List.getElem?_replicate] at h
    split at h <;> cases h
  | a :: as, n, i, v, h, o => by
    rw [List.map_cons]
    unfold lv_args
    rw [trV_cat]
    by_cases hc : a.category = 2
    · simp only [List.flatMap_cons, hc, if_true] at h ⊢
      match i, h with
      | 0, h =>
        simp at h
        rw [h]
        exact List.mem_cons_self
      | 1, h => simp at h
      | i + 2, h =>
        have h' : (as.flatMap (fun v => if v.category = 2 then [some v, none] else [some v]) ++ List.replicate n none)[i]? = some (some v) := by simpa using h
        have := aL_mem ad as n i v h' (o + 2)
        rw [show o + (i + 2) = o + 2 + i by omega]
        exact List.mem_cons_of_mem _ this
    · simp only [List.flatMap_cons, hc, if_false] at h ⊢
      match i, h with
      | 0, h =>
        simp at h
        rw [h]
        exact List.mem_cons_self
      | i + 1, h =>
        have h' : (as.flatMap (fun v => if v.category = 2 then [some v, none] else [some v]) ++ List.replicate n none)[i]? = some (some v) := by simpa using h
        have := aL_mem ad as n i v h' (o + 1)
        rw [show o + (i + 1) = o + 1 + i by omega]
        exact List.mem_cons_of_mem _ this
theorem Wld_moved {dC : Nat → ClassId} {dI : Nat → Nat → Nat} {cI cZ cS : ClassId} {ad : Nat → Nat} {h : Hp} {s U : State} (hP : va_P (dC, dI) clsX (wW cI cZ cS ad h) U.heap) (hD : va_D (WA ad) (wW cI cZ cS ad h)) (hK : va_K (dC, dI) clsX (tysX cI cZ cS) s) (hN : nsN s) (hW : s.WarmedH U.vm) : Wld dC dI cI cZ cS ad h U :=
  ⟨hP, va_K.moved hW.alike hK, hD.weaken (fun _ _ _ _ => trivial), fun q hq => va_Nw.warmF hW (hN q hq)⟩
theorem Wld_blind {args : List Value} {dC : Nat → ClassId} {dI : Nat → Nat → Nat} {cI cZ cS : ClassId} {ad : Nat → Nat} {h : Hp} : FrameBlind (va_Pc args (Wld dC dI cI cZ cS ad h)) := by
  intro a U g mk q
  obtain ⟨q0, qP, qK, qD, qN⟩ := q
  exact ⟨q0, qP, va_K.moved (u := U) (U := U.calling g mk a) (Vm.Alike.refl U.vm) qK, qD, fun w hw => va_Nw.same (u := U) rfl rfl (qN w hw)⟩
/-- a contract out of a walk -/
theorem ctr_start {J : Mt} {args : List Value} {h : Hp} {Q : Option Value → Hp → Prop} (hy : plainName J.y.cls = true) (hn : (lg_sl args).length ≤ J.n) (hk : J.k = 0) (hs : J.s = 0) (k : SW J E0 (Zm Q) 0 (aL args J.n) [] h) : Ctr J args h Q := by
  intro l dC dI cI cZ cS ad
  refine Met.ofW (cc := J.c) (maxL := J.n) (ret := J.r) hy rfl ?_
  intro p e s m argv below meth c s₁ B hml hv
  obtain ⟨rfl, hP, hK, hD, hN⟩ := hv
  have hts : ∀ w ∈ ws0, w.before (args.map (trV ad)).toArray s = true := fun w hw => atoms_spec (ws := .code J.y J.c J.n J.r :: ws0) B.pre w (List.mem_cons_of_mem _ hw)
  have hl := lv_entry (args.map (trV ad)) (n := J.n) (by rw [lg_tr]; exact hn)
  rw [lg_entry_eq]
  have hl2 : lvH (lg_sl (args.map (trV ad)) ++ List.replicate (J.n - (lg_sl (args.map (trV ad))).length) Slot.unset).toArray J.n ad (aL args J.n) :=
    ⟨hl.1, hl.2.1, fun i v hi => by
      have := aL_mem ad args _ i v hi 0
      rw [Nat.zero_add] at this
      exact hl.2.2 _ this⟩
  have := k p l e s m _ below meth c dC dI cI cZ cS ad ⟨B.exec, B.bytes, hml, findClass_of_methodNamed B.named, hts, hK, hN, B.notSynchronized, B.returns, trivial⟩ s.heap [] _ hP (wW_D hD) va_S.rf hl2
  rw [hk, hs] at this
  exact this
