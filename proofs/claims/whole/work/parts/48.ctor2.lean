/-! the contract of a constructor -/
abbrev WT : Type := ClassId → ClassId → ClassId → Nat → (Nat → Nat) → va_W
def CP (dC : Nat → ClassId) (dI : Nat → Nat → Nat) (cI cZ cS : ClassId) (h0 sz : Nat) (e0 : va_E) (U : State) : Prop :=
  U.heap.size = sz ∧ va_P (dC, dI) clsX [(h0, e0)] U.heap ∧ va_K (dC, dI) clsX (tysX cI cZ cS) U ∧ va_D (fun _ => True) [(h0, e0)] ∧ XN U
def CQ (dC : Nat → ClassId) (dI : Nat → Nat → Nat) (w : (Nat → Nat) → va_W) (A : Nat → Prop) : Array Value → State → Outcome → State → Prop := va_Qv (fun _ : Nat → Nat => True) (fun u t => va_P (dC, dI) clsX (w u) t.heap ∧ va_D A (w u)) A
def CtI (J : Mt) (e0 : va_E) (w : WT) : Prop :=
  ∀ (l : Launch) (dC : Nat → ClassId) (dI : Nat → Nat → Nat) (cI cZ cS : ClassId) (h0 sz : Nat), Met l J.y (.code J.y J.c J.n J.r :: ws0) J.R (va_Pc [.ref h0] (CP dC dI cI cZ cS h0 sz e0)) (CQ dC dI (w cI cZ cS h0) (va_A [(h0, e0)] sz)) J.R.cells J.R.slots (va_A [(h0, e0)] sz)
def ZI (J : Mt) (g : Cg) (w : (Nat → Nat) → va_W) : CZT := fun below args s => MQ below (CQ g.1 g.2.1 w g.A) args s J.R.cells J.R.slots g.A
def EI : EXT := fun _ _ => True
theorem CP_blind {dC : Nat → ClassId} {dI : Nat → Nat → Nat} {cI cZ cS : ClassId} {h0 sz : Nat} {e0 : va_E} : FrameBlind (va_Pc [.ref h0] (CP dC dI cI cZ cS h0 sz e0)) := by
  intro a U g mk q
  obtain ⟨q0, q1, qP, qK, qD, qN⟩ := q
  exact ⟨q0, q1, qP, va_K.moved (u := U) (U := U.calling g mk a) (Vm.Alike.refl U.vm) qK, qD, XN_same (u := U) (U := U.calling g mk a) rfl (Vm.Alike.refl U.vm) qN⟩
theorem cti_start {J : Mt} {e0 : va_E} {w : WT} (hy : plainName J.y.cls = true) (hy2 : J.y.name = "<init>") (hn : 1 ≤ J.n) (k : ∀ (dC : Nat → ClassId) (dI : Nat → Nat → Nat) (cI cZ cS : ClassId) (h0 sz : Nat), CW J EI (dC, dI, cI, cZ, cS, va_A [(h0, e0)] sz) (ZI J (dC, dI, cI, cZ, cS, va_A [(h0, e0)] sz) (w cI cZ cS h0)) 0 0 0 (aL [.ref h0] J.n) [] [(h0, e0)]) : CtI J e0 w := by
  intro l dC dI cI cZ cS h0 sz
  refine Met.ofW (cc := J.c) (maxL := J.n) (ret := J.r) hy rfl ?_
  intro p e s m argv below meth c s₁ B hml hv
  obtain ⟨rfl, hsz, hP, hK, hD, hN⟩ := hv
  have hts : ∀ w ∈ ws0, w.before ([.ref h0] : List Value).toArray s = true := fun w hw => atoms_spec (ws := .code J.y J.c J.n J.r :: ws0) B.pre w (List.mem_cons_of_mem _ hw)
  have hl := lv_entry ([.ref h0]) (n := J.n) hn
  rw [lg_entry_eq]
  have hl2 : lvH (lg_sl ([.ref h0]) ++ List.replicate (J.n - (lg_sl ([.ref h0])).length) Slot.unset).toArray J.n id (aL [.ref h0] J.n) :=
    ⟨hl.1, hl.2.1, fun i v hi => by
      have := aL_mem id [.ref h0] _ i v hi 0
      rw [Nat.zero_add] at this
      exact hl.2.2 _ this⟩
  subst hsz
  exact k dC dI cI cZ cS h0 s.heap.size p l e s m _ below meth c ⟨B.exec, B.bytes, hml, findClass_of_methodNamed B.named, hts, hK, hN, B.notSynchronized, B.returns, fun _ => (name_of_methodNamed B.named B.method).1.trans hy2, fun q h => Or.inr h, trivial⟩ s.heap [] _ hP (hD.self (sz := s.heap.size)) va_S.rf hl2
section CWS
variable {J : Mt} {E : EXT} {g : Cg} {Z : CZT} {K S pc : Nat} {L : List (Option Value)} {st : List Value} {ws : va_W}
theorem cw_vret {w : (Nat → Nat) → va_W} (u : Nat → Nat) (hd : decode J.c pc = .ok (.return_, 1)) (hr : J.r = none) (hK : K = J.R.cells) (hS0 : S = J.R.slots) (hw : ws = w u) : CW J E g (ZI J g w) K S pc L [] ws := by
  intro p l e s m args below meth c F H locs ls hP hD hS hl
  subst hK
  subst hS0
  subst hw
  have hlocks := F.2.2.2.2.2.2.2.1
  exact W.vret F.1 F.2.1 (F.2.2.2.2.2.2.2.2.1.trans hr) (fun t ht hW => ⟨⟨u, rfl, trivial, by rw [ht]; exact hP, hD⟩, hS.F ht⟩) hS.2.2 hd
theorem cw_back {J' : Mt} {e0 : va_E} {w : WT} {q : Nat} {w1 : (Nat → Nat) → va_W} (hw1 : w1 = w g.cI g.cZ g.cS q) {p : Program} {l : Launch} {e : Env} {s : State} {m : MethodId} {args : Array Value} {below : List Frame} {meth : Method} {c : Code} (F : CFx J E g p s m args meth c) {H : Heap} {locs : List Loc} {ls : Array Slot} (hP : va_P g.D clsX (ws ++ [(q, e0)]) H) (hD : va_D g.A (ws ++ [(q, e0)])) (hS : va_S g.A s.heap H locs) (hl : lvH ls J.n id L) {st0 : List Value} {a : Array Value}
    (hr : va_Run p l e J.R s m args below meth c H locs K S J'.R.cells J'.R.slots (F0 m pc ls st0) st (CQ g.1 g.2.1 w1 (va_A [(q, e0)] H.size) a) (va_A [(q, e0)] H.size))
    (k : ∀ u : Nat → Nat, CW J E g Z (K + J'.R.cells) (S + J'.R.slots) (pc + 3) L st (ws ++ w1 u)) : W p l e J.R s m args below meth c H locs K S (Z below args s) (F0 m pc ls st0) := by
  have hlen : (ws ++ [(q, e0)])[ws.length]? = some (q, e0) := by simp
  have hFc : ∀ x, va_A [(q, e0)] H.size x → g.A x := va_free (wc := [(q, e0)]) hD hS F.2.2.2.2.2.2.2.2.2.2.1 [ws.length] (by simp)
  refine va_callv hr hS (fun q _ h => hFc q h) hFc (fun u t H1 locs1 ht hvm hw hB hz1 hk1 hS1 => ?_)
  obtain ⟨hP1, hD1⟩ := hB
  rw [ht] at hP1
  have hall : ∀ (i : Nat) (x : Nat × va_E), ws[i]? = some x → H1[x.1]? = H[x.1]? ∧ ¬ va_A [(q, e0)] H.size x.1 := fun i x hx => by
    have hi := (List.getElem?_eq_some_iff.mp hx).1
    have hx2 : (ws ++ [(q, e0)])[i]? = some x := by rw [List.getElem?_append_left hi]; exact hx
    have hlt := (hP i x hx2).lt
    have hna : ¬ va_A [(q, e0)] H.size x.1 := by
      rintro (⟨k, e, he⟩ | h)
      · have hk0 : k = 0 := by have := (List.getElem?_eq_some_iff.mp he).1; simp at this; exact this
        subst hk0
        have e2 : (q, e0) = (x.1, e) := Option.some.inj he
        have e3 : q = x.1 := congrArg Prod.fst e2
        have := hD.1 i ws.length x (q, e0) hx2 hlen e3.symm
        omega
      · omega
    exact ⟨hk1 x.1 hlt hna, hna⟩
  refine k u p l e s m args below meth c F H1 locs1 ls (va_P.app (fun i x hx => ?_) hP1) ⟨fun i j x y hx hy hxy => ?_, fun i x hx => ?_⟩ hS1 hl
  · have hi := (List.getElem?_eq_some_iff.mp hx).1
    have hx2 : (ws ++ [(q, e0)])[i]? = some x := by rw [List.getElem?_append_left hi]; exact hx
    exact (hP i x hx2).kept (hall i x hx).1
  · by_cases h1 : i < ws.length
    · rw [List.getElem?_append_left h1] at hx
      by_cases h2 : j < ws.length
      · rw [List.getElem?_append_left h2] at hy
        exact hD.1 i j x y (by rw [List.getElem?_append_left h1]; exact hx) (by rw [List.getElem?_append_left h2]; exact hy) hxy
      · rw [List.getElem?_append_right (by omega)] at hy
        exact absurd (by rw [hxy]; exact hD1.2 _ y hy) (hall i x hx).2
    · rw [List.getElem?_append_right (by omega)] at hx
      by_cases h2 : j < ws.length
      · rw [List.getElem?_append_left h2] at hy
        exact absurd (by rw [← hxy]; exact hD1.2 _ x hx) (hall j y hy).2
      · rw [List.getElem?_append_right (by omega)] at hy
        have := hD1.1 _ _ x y hx hy hxy
        omega
  · by_cases h1 : i < ws.length
    · rw [List.getElem?_append_left h1] at hx
      exact hD.2 i x (by rw [List.getElem?_append_left h1]; exact hx)
    · rw [List.getElem?_append_right (by omega)] at hx
      exact hFc _ (hD1.2 _ x hx)
/-- the words of a constructor's call -/
def LkI (J' : Mt) : Prop := (∀ w ∈ [Cond.instanceMethod J'.y, .initialized J'.y.cls, .code J'.y J'.c J'.n J'.r], w ∈ ws0) ∧ J'.y.name = "<init>" ∧ J'.r = none ∧ (J'.y.cls ≠ "java/lang/invoke/MethodHandle" ∧ J'.y.cls ≠ "java/lang/invoke/VarHandle" ∧ (parseMethodDescriptor J'.y.desc).map (fun d => d.parameters.length) = some 0)
def fitI (J J' : Mt) (K S : Nat) : Bool := decide (J'.R.frames + 1 ≤ J.R.frames) && decide (8 + (J'.n + 11) + J'.R.locals ≤ J.R.locals) && decide (K + J'.R.cells ≤ J.R.cells) && decide (S + J'.R.slots ≤ J.R.slots)
theorem LkI.good {J' : Mt} (h : LkI J') : GoodIn ws0 (.code J'.y J'.c J'.n J'.r :: ws0) := ws0_good (fun w hw => by
  rcases List.mem_cons.mp hw with h1 | h1
  · exact h.1 w (by rw [h1]; simp)
  · exact h1)
theorem cp_last {e0 : va_E} {q : Nat} {p : Program} {s : State} {m : MethodId} {args : Array Value} {meth : Method} {c : Code} (F : CFx J E g p s m args meth c) {H : Heap} (hP : va_P g.D clsX (ws ++ [(q, e0)]) H) {U : State} (hU : U.heap = H) (hW : s.WarmedH U.vm) : CP g.1 g.2.1 g.cI g.cZ g.cS q H.size e0 U := by
  refine ⟨by rw [hU], fun k x hx => ?_, va_K.moved hW.alike F.2.2.2.2.2.1, ⟨fun i j x y hx hy _ => ?_, fun _ _ _ => trivial⟩, XN_moved F.2.2.2.2.2.2.1 hW⟩
  · have hk : k = 0 := by have := (List.getElem?_eq_some_iff.mp hx).1; simp at this; exact this
    subst hk
    rw [hU]
    exact hP ws.length x (by rw [← hx]; simp)
  · have h1 := (List.getElem?_eq_some_iff.mp hx).1
    have h2 := (List.getElem?_eq_some_iff.mp hy).1
    simp at h1 h2
    omega
theorem cw_callN {J' : Mt} {e0 : va_E} {w : WT} {q idx : Nat} (M : CtI J' e0 w) (hd : decode J.c pc = .ok (.invokespecial idx, 3)) (ho : J.y.cls = RX4) (hm : (idx, J'.y) ∈ nsM) (hL : LkI J') (hf : fitI J J' K S = true) (hst : (st.map Value.category).sum ≤ 8) (k : ∀ u : Nat → Nat, CW J E g Z (K + J'.R.cells) (S + J'.R.slots) (pc + 3) L st (ws ++ w g.cI g.cZ g.cS q u)) : CW J E g Z K S pc L (.ref q :: st) (ws ++ [(q, e0)]) := by
  intro p l e s m args below meth c F H locs ls hP hD hS hl
  simp only [fitI, Bool.and_eq_true, decide_eq_true_eq] at hf
  obtain ⟨⟨⟨f1, f2⟩, f3⟩, f4⟩ := hf
  have hN : va_Nw (.methodLinkNest J.y.cls idx J'.y "LooksTogether") s := by rw [ho]; exact F.2.2.2.2.2.2.1.2.2 _ hm
  refine cw_back (J' := J') rfl F hP hD hS hl (va_runIN (As := []) (rest := st) ⟨F.1, F.2.1, F.2.2.1, F.2.2.2.1, F.2.2.2.2.1⟩ (M l g.1 g.2.1 g.cI g.cZ g.cS q H.size) ⟨va_cnB 0 F.2.2.2.2.1 hL.good (by rw [hL.2.2.1]) rfl rfl hN (F.2.2.2.2.1 _ (hL.1 _ (by simp))) hL.2.2.2 ⟨f1, f2⟩, hL.2.1, F.2.2.2.2.1 _ (hL.1 _ (by simp))⟩ ⟨CP_blind, fun U hU hW => ⟨rfl, cp_last F hP hU hW⟩⟩ rfl rfl hl.1 rfl (lv_room hst) hd ⟨f3, f4⟩) k
theorem cw_callP {J' : Mt} {e0 : va_E} {w : WT} {q idx : Nat} (M : CtI J' e0 w) (hd : decode J.c pc = .ok (.invokespecial idx, 3)) (hm : Cond.methodLink J.y.cls idx J'.y ∈ ws0) (hL : LkI J') (hf : fitI J J' K S = true) (hst : (st.map Value.category).sum ≤ 8) (k : ∀ u : Nat → Nat, CW J E g Z (K + J'.R.cells) (S + J'.R.slots) (pc + 3) L st (ws ++ w g.cI g.cZ g.cS q u)) : CW J E g Z K S pc L (.ref q :: st) (ws ++ [(q, e0)]) := by
  intro p l e s m args below meth c F H locs ls hP hD hS hl
  simp only [fitI, Bool.and_eq_true, decide_eq_true_eq] at hf
  obtain ⟨⟨⟨f1, f2⟩, f3⟩, f4⟩ := hf
  refine cw_back (J' := J') rfl F hP hD hS hl (va_runI (As := []) (rest := st) ⟨F.1, F.2.1, F.2.2.1, F.2.2.2.1, F.2.2.2.2.1⟩ (M l g.1 g.2.1 g.cI g.cZ g.cS q H.size) (cwI 0 F.2.2.2.2.1 hL.good (by rw [hL.2.2.1]) rfl rfl (F.2.2.2.2.1 _ (hL.1 _ (by simp))) (F.2.2.2.2.1 _ hm) (F.2.2.2.2.1 _ (hL.1 _ (by simp))) hL.2.1 hL.2.2.2 ⟨f1, f2⟩) ⟨CP_blind, fun U hU hW => ⟨rfl, cp_last F hP hU hW⟩⟩ rfl rfl hl.1 rfl (lv_room hst) hd ⟨f3, f4⟩) k
end CWS
