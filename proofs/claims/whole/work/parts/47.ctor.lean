theorem nI_nn {n : Nat} (h : n < 2 ^ 31) : ¬ nI n < 0 := fun q => by
  rw [Int32.lt_iff_toInt_lt, t_N h] at q
  have : (0 : Int32).toInt = 0 := by decide
  omega
/-! CONSTRUCTORS: a world that grows; refs are the addresses themselves -/
def nsM : List (Nat × MethodName) := [(9, yX3_init), (18, yX0_init), (25, yX1_init), (36, yX2_init)]
def nsMC (q : Nat × MethodName) : Cond := .methodLinkNest RX4 q.1 q.2 "LooksTogether"
def XN (U : State) : Prop := nsN U ∧ va_AO RX2 U ∧ ∀ q ∈ nsM, va_Nw (nsMC q) U
theorem XN_moved {s U : State} (h : XN s) (hW : s.WarmedH U.vm) : XN U := ⟨fun q hq => va_Nw.warmF hW (h.1 q hq), va_AO.moved hW.alike h.2.1, fun q hq => va_Nw.warmM hW (h.2.2 q hq)⟩
theorem XN_same {u U : State} (h : u.vm = U.vm) (hA : u.vm.Alike U.vm) (hN : XN u) : XN U := ⟨fun q hq => va_Nw.same rfl h (hN.1 q hq), va_AO.moved hA hN.2.1, fun q hq => va_Nw.same rfl h (hN.2.2 q hq)⟩
abbrev Cg : Type := (Nat → ClassId) × (Nat → Nat → Nat) × ClassId × ClassId × ClassId × (Nat → Prop)
abbrev Cg.D (g : Cg) : va_G := (g.1, g.2.1)
abbrev Cg.cI (g : Cg) : ClassId := g.2.2.1
abbrev Cg.cZ (g : Cg) : ClassId := g.2.2.2.1
abbrev Cg.cS (g : Cg) : ClassId := g.2.2.2.2.1
abbrev Cg.A (g : Cg) : Nat → Prop := g.2.2.2.2.2
abbrev CZT : Type := List Frame → Array Value → State → State → Prop
abbrev EXT : Type := State → Array Value → Prop
def CFx (J : Mt) (E : EXT) (g : Cg) (p : Program) (s : State) (m : MethodId) (args : Array Value) (meth : Method) (c : Code) : Prop :=
  p.tables.exec = Jvm.exec ∧ c.code = J.c ∧ c.maxLocals = J.n ∧ s.vm.findClass J.y.cls = some m.cls ∧ (∀ w ∈ ws0, w.before args s = true) ∧ va_K g.D clsX (tysX g.cI g.cZ g.cS) s ∧ XN s ∧ meth.locks = false ∧ meth.sig.returnType = J.r ∧ (J.y.name = "<init>" → meth.name = "<init>") ∧ (∀ q, s.heap.size ≤ q → g.A q) ∧ E s args
/-- J's frame at pc, locals L, stack st, K cells and S slots made, over the world ws -/
def CW (J : Mt) (E : EXT) (g : Cg) (Z : CZT) (K S pc : Nat) (L : List (Option Value)) (st : List Value) (ws : va_W) : Prop :=
  ∀ (p : Program) (l : Launch) (e : Env) (s : State) (m : MethodId) (args : Array Value) (below : List Frame) (meth : Method) (c : Code), CFx J E g p s m args meth c → ∀ (H : Heap) (locs : List Loc) (ls : Array Slot), va_P g.D clsX ws H → va_D g.A ws → va_S g.A s.heap H locs → lvH ls J.n id L →
    W p l e J.R s m args below meth c H locs K S (Z below args s) (F0 m pc ls st)
section CWR
variable {J : Mt} {E : EXT} {g : Cg} {Z : CZT} {K S pc : Nat} {L : List (Option Value)} {st : List Value} {ws : va_W}
theorem cw_aload_n {i : Fin 4} {x : Nat} (hd : decode J.c pc = .ok (.aload_n i, 1)) (hx : L[(i : Nat)]? = some (some (.ref x))) (k : CW J E g Z K S (pc + 1) L (.ref x :: st) ws) : CW J E g Z K S pc L st ws :=
  fun p l e s m args below meth c F H locs ls hP hD hS hl => lv_aload_n F.1 F.2.1 hd rfl (hl.2.2 _ _ hx) (k p l e s m args below meth c F H locs ls hP hD hS hl)
theorem cw_iload_n {i : Fin 4} {x : Int32} (hd : decode J.c pc = .ok (.iload_n i, 1)) (hx : L[(i : Nat)]? = some (some (.int x))) (k : CW J E g Z K S (pc + 1) L (.int x :: st) ws) : CW J E g Z K S pc L st ws :=
  fun p l e s m args below meth c F H locs ls hP hD hS hl => lv_iload_n F.1 F.2.1 hd rfl (hl.2.2 _ _ hx) (k p l e s m args below meth c F H locs ls hP hD hS hl)
theorem cw_iconst {n : Int} {v : Int32} (hd : decode J.c pc = .ok (.iconst n, 1)) (hv : Int32.ofInt n = v) (k : CW J E g Z K S (pc + 1) L (.int v :: st) ws) : CW J E g Z K S pc L st ws :=
  fun p l e s m args below meth c F H locs ls hP hD hS hl => lv_iconst F.1 F.2.1 hd hv (k p l e s m args below meth c F H locs ls hP hD hS hl)
theorem cw_bipush {n : Int} {v : Int32} (hd : decode J.c pc = .ok (.bipush n, 2)) (hv : (Int8.ofInt n).toInt32 = v) (k : CW J E g Z K S (pc + 2) L (.int v :: st) ws) : CW J E g Z K S pc L st ws :=
  fun p l e s m args below meth c F H locs ls hP hD hS hl => lv_bipush F.1 F.2.1 hd hv (k p l e s m args below meth c F H locs ls hP hD hS hl)
theorem cw_sipush {n : Int} {v : Int32} (hd : decode J.c pc = .ok (.sipush n, 3)) (hv : (Int16.ofInt n).toInt32 = v) (k : CW J E g Z K S (pc + 3) L (.int v :: st) ws) : CW J E g Z K S pc L st ws :=
  fun p l e s m args below meth c F H locs ls hP hD hS hl => lv_sipush F.1 F.2.1 hd hv (k p l e s m args below meth c F H locs ls hP hD hS hl)
theorem cw_dup {x : Nat} (hd : decode J.c pc = .ok (.dup, 1)) (k : CW J E g Z K S (pc + 1) L (.ref x :: .ref x :: st) ws) : CW J E g Z K S pc L (.ref x :: st) ws :=
  fun p l e s m args below meth c F H locs ls hP hD hS hl => lv_dup F.1 F.2.1 hd rfl (k p l e s m args below meth c F H locs ls hP hD hS hl)
theorem cw_goto {off : Int} {tgt : Nat} (hd : decode J.c pc = .ok (.goto off, 3)) (ht : (pc : Int) + off = (tgt : Int)) (k : CW J E g Z K S tgt L st ws) : CW J E g Z K S pc L st ws :=
  fun p l e s m args below meth c F H locs ls hP hD hS hl => lv_goto F.1 F.2.1 hd ht (k p l e s m args below meth c F H locs ls hP hD hS hl)
theorem cw_icmp_ge {x y : Int32} {off : Int} {tgt : Nat} (hd : decode J.c pc = .ok (.if_icmp .ge off, 3)) (ht : (pc : Int) + off = (tgt : Int)) (kt : y ≤ x → CW J E g Z K S tgt L st ws) (kf : ¬ (y ≤ x) → CW J E g Z K S (pc + 3) L st ws) : CW J E g Z K S pc L (.int y :: .int x :: st) ws :=
  fun p l e s m args below meth c F H locs ls hP hD hS hl => lv_icmp_ge F.1 F.2.1 hd ht (fun q => kt q p l e s m args below meth c F H locs ls hP hD hS hl) (fun q => kf q p l e s m args below meth c F H locs ls hP hD hS hl)
theorem cw_istore_n {i : Fin 4} {x : Int32} (hd : decode J.c pc = .ok (.istore_n i, 1)) (hn : ((i : Nat) < J.n)) (hk : okS L (i : Nat) = true) (k : CW J E g Z K S (pc + 1) (L.set (i : Nat) (some (.int x))) st ws) : CW J E g Z K S pc L (.int x :: st) ws :=
  fun p l e s m args below meth c F H locs ls hP hD hS hl => lv_istore_n F.1 F.2.1 hd rfl (lvH_has hl) hn rfl (fun ls' hl' => k p l e s m args below meth c F H locs ls' hP hD hS (lvH_st1 (v := .int x) hk hl'))
theorem cw_astore_n {i : Fin 4} {x : Nat} (hd : decode J.c pc = .ok (.astore_n i, 1)) (hn : ((i : Nat) < J.n)) (hk : okS L (i : Nat) = true) (k : CW J E g Z K S (pc + 1) (L.set (i : Nat) (some (.ref x))) st ws) : CW J E g Z K S pc L (.ref x :: st) ws :=
  fun p l e s m args below meth c F H locs ls hP hD hS hl => lv_astore_n F.1 F.2.1 hd rfl (lvH_has hl) hn rfl (fun ls' hl' => k p l e s m args below meth c F H locs ls' hP hD hS (lvH_st1 (v := .ref x) hk hl'))
theorem cw_iinc {i : Nat} {n : Int} {x v : Int32} (hd : decode J.c pc = .ok (.iinc i n, 3)) (hx : L[i]? = some (some (.int x))) (hv : x + Int32.ofInt n = v) (hn : i < J.n) (hk : okS L i = true) (k : CW J E g Z K S (pc + 3) (L.set i (some (.int v))) st ws) : CW J E g Z K S pc L st ws := by
  intro p l e s m args below meth c F H locs ls hP hD hS hl
  obtain ⟨q, hq⟩ := List.getElem?_of_mem (LL_mem (ad := id) hx)
  exact lv_iinc F.1 F.2.1 hd (lvH_has hl) hq hv hn rfl (fun ls' hl' => k p l e s m args below meth c F H locs ls' hP hD hS (lvH_st1 (v := .int v) hk hl'))
theorem ws0_oi : Cond.instanceMethod Lib.objectInit ∈ ws0 ∧ Cond.code Lib.objectInit ⟨#[0xb1]⟩ 1 none ∈ ws0 := by decide +kernel
theorem cw_objI {x idx : Nat} (hd : decode J.c pc = .ok (.invokespecial idx, 3)) (hlk : Cond.methodLink J.y.cls idx Lib.objectInit ∈ ws0) (hf : 1 ≤ J.R.frames) (hlo : 12 ≤ J.R.locals) (k : CW J E g Z K S (pc + 3) L [] ws) : CW J E g Z K S pc L [.ref x] ws := by
  intro p l e s m args below meth c F H locs ls hP hD hS hl
  refine W.objInit F.1 F.2.1 F.2.2.2.1 (F.2.2.2.2.1 _ hlk) (F.2.2.2.2.1 _ ws0_oi.1) (F.2.2.2.2.1 _ ws0_oi.2) rfl (by rw [F.2.2.1]; exact hl.1) rfl hd hf hlo ?_
  exact W.eq (g2 := F0 m (pc + 3) ls []) rfl (k p l e s m args below meth c F H locs ls hP hD hS hl)
theorem ws0_ar : Cond.arrayClass .int ∈ ws0 ∧ Cond.arrayClass .boolean ∈ ws0 := by decide +kernel
/-- a new row of N ints, all 0 -/
abbrev aN (c : ClassId) (q N : Nat) : Nat × va_E := (q, .inl (c, N, .inl (fun _ => 0)))
theorem cw_newI {N : Nat} (hd : decode J.c pc = .ok (.newarray .int, 2)) (hN : N ≤ 1000) (hc : K + 1 ≤ J.R.cells) (hs : S + N ≤ J.R.slots) (k : ∀ q, CW J E g Z (K + 1) (S + N) (pc + 2) L (.ref q :: st) (ws ++ [aN g.cI q N])) : CW J E g Z K S pc L (.int (nI N) :: st) ws := by
  intro p l e s m args below meth c F H locs ls hP hD hS hl
  refine va_newa (atype := .int) F.1 F.2.1 (F.2.2.2.2.1 _ ws0_ar.1) (ty := .int) rfl F.2.2.2.2.2.1 hP hD hS F.2.2.2.2.2.2.2.2.2.2.1 (a0 := (N, .inl (fun _ => 0))) (fun _ => rfl) (N' := N) (nI_nn (by omega)) (nI_clamp (by omega)) (show N * 4 ≤ 536870912 by omega) hc hs hd (fun q cA H1 hK1 hP1 hD1 hS1 => ?_)
  have e1 : s.vm.findClass ("[" ++ FieldType.int.toString) = some cA := (hK1.2 3 _ rfl).2
  have e2 : s.vm.findClass ("[" ++ FieldType.int.toString) = some g.cI := (F.2.2.2.2.2.1.2 0 _ rfl).2
  obtain rfl : cA = g.cI := Option.some.inj (e1.symm.trans e2)
  exact k q p l e s m args below meth c F H1 locs ls hP1 hD1 hS1 hl
theorem cw_newZ {N : Nat} (hd : decode J.c pc = .ok (.newarray .boolean, 2)) (hN : N ≤ 1000) (hc : K + 1 ≤ J.R.cells) (hs : S + N ≤ J.R.slots) (k : ∀ q, CW J E g Z (K + 1) (S + N) (pc + 2) L (.ref q :: st) (ws ++ [aN g.cZ q N])) : CW J E g Z K S pc L (.int (nI N) :: st) ws := by
  intro p l e s m args below meth c F H locs ls hP hD hS hl
  refine va_newa (atype := .boolean) F.1 F.2.1 (F.2.2.2.2.1 _ ws0_ar.2) (ty := .boolean) rfl F.2.2.2.2.2.1 hP hD hS F.2.2.2.2.2.2.2.2.2.2.1 (a0 := (N, .inl (fun _ => 0))) (fun _ => rfl) (N' := N) (nI_nn (by omega)) (nI_clamp (by omega)) (show N * 1 ≤ 536870912 by omega) hc hs hd (fun q cA H1 hK1 hP1 hD1 hS1 => ?_)
  have e1 : s.vm.findClass ("[" ++ FieldType.boolean.toString) = some cA := (hK1.2 3 _ rfl).2
  have e2 : s.vm.findClass ("[" ++ FieldType.boolean.toString) = some g.cZ := (F.2.2.2.2.2.1.2 1 _ rfl).2
  obtain rfl : cA = g.cZ := Option.some.inj (e1.symm.trans e2)
  exact k q p l e s m args below meth c F H1 locs ls hP1 hD1 hS1 hl
theorem cw_newQ {idx N : Nat} (hd : decode J.c pc = .ok (.anewarray idx, 3)) (hlk : Cond.classLink J.y.cls idx RX2 ∈ ws0) (hN : N ≤ 1000) (hc : K + 1 ≤ J.R.cells) (hs : S + N ≤ J.R.slots) (k : ∀ q, CW J E g Z (K + 1) (S + N) (pc + 3) L (.ref q :: st) (ws ++ [(q, .inl (g.cS, N, .inr (.inr (.inr (.inr (fun _ => none))))))])) : CW J E g Z K S pc L (.int (nI N) :: st) ws := by
  intro p l e s m args below meth c F H locs ls hP hD hS hl
  refine va_newq F.1 F.2.1 F.2.2.2.1 (F.2.2.2.2.1 _ hlk) F.2.2.2.2.2.2.1.2.1 F.2.2.2.2.2.1 hP hD hS F.2.2.2.2.2.2.2.2.2.2.1 (N' := N) (nI_nn (by omega)) (nI_clamp (by omega)) (by omega) hc hs hd (fun q cA H1 hK1 hP1 hD1 hS1 => ?_)
  obtain ⟨-, -, -, -, -, e1⟩ := (hK1.2 3 _ rfl).2
  obtain ⟨-, -, -, -, -, e2⟩ := (F.2.2.2.2.2.1.2 2 _ rfl).2
  obtain rfl : cA = g.cS := Option.some.inj (e1.symm.trans e2)
  exact k q p l e s m args below meth c F H1 locs ls hP1 hD1 hS1 hl
/-- a field that is written once -/
def FPF (own : String) (idx ci i : Nat) (ty : FieldType) : Prop := ∃ (C : String) (T : u_T) (N : Nat) (tf : Nat → FieldType), clsX[ci]? = some (C, T, N) ∧ i < N ∧ Cond.fieldLink own idx (T i).1 (T i).2.1 (T i).2.2.1 ∈ ws0 ∧ (∀ w ∈ u_ws C T N, w ∈ ws0) ∧ (T i).2.2.2 = true ∧ (T i).1 = own ∧ parseFieldDescriptor (T i).2.2.1 = some ty ∧ (∀ k, k < N → parseFieldDescriptor (T k).2.2.1 = some (tf k)) ∧ (∀ a, a < N → ∀ b, b < N → a ≠ b → (T a).2.1 ≠ (T b).2.1)
theorem cw_putF {idx ci i a q0 : Nat} {fs : List Value} {v : Value} {ty : FieldType} (hd : decode J.c pc = .ok (.putfield idx, 3)) (hF : FPF J.y.cls idx ci i ty) (hin : J.y.name = "<init>") (he : ws[q0]? = some (a, .inr (ci, fs))) (hn : narrow ty v = v) (hf : fits ty v = true) (hl0 : i < fs.length) (k : CW J E g Z K S (pc + 3) L st (ws.set q0 (a, .inr (ci, fs.set i v)))) : CW J E g Z K S pc L (v :: .ref a :: st) ws := by
  intro p l e s m args below meth c F H locs ls hP hD hS hl
  obtain ⟨C, T, N, tf, hc, hi, hlk, hly, hfin, hdc, hpd, htf, hnm⟩ := hF
  exact va_putF F.1 F.2.1 F.2.2.2.2.1 hly tf htf hnm F.2.2.2.1 F.2.2.2.2.2.1 hP hD hS q0 he hc i hi (F.2.2.2.2.1 _ hlk) (fun x hx => hx) hfin (F.2.2.2.2.2.2.2.2.2.1 hin) hdc hpd hn hf hl0 hd (fun H1 locs1 hP1 hD1 hS1 => k p l e s m args below meth c F H1 locs1 ls hP1 hD1 hS1 hl)
theorem cw_put {idx ci i a q0 : Nat} {fs : List Value} {v : Value} {ty : FieldType} (hd : decode J.c pc = .ok (.putfield idx, 3)) (hF : FP J.y.cls idx ci i ty) (he : ws[q0]? = some (a, .inr (ci, fs))) (hn : narrow ty v = v) (hf : fits ty v = true) (hl0 : i < fs.length) (k : CW J E g Z K S (pc + 3) L st (ws.set q0 (a, .inr (ci, fs.set i v)))) : CW J E g Z K S pc L (v :: .ref a :: st) ws := by
  intro p l e s m args below meth c F H locs ls hP hD hS hl
  obtain ⟨C, T, N, tf, hc, hi, hlk, hly, hdc, hfin, hpd, htf, hnm⟩ := hF
  exact va_put F.1 F.2.1 F.2.2.2.2.1 hly tf htf hnm F.2.2.2.1 F.2.2.2.2.2.1 hP hD hS q0 he hc i hi (F.2.2.2.2.1 _ hlk) (fun x hx => by rw [hdc] at hx; exact hx) hfin hpd hn hf hl0 hd (fun H1 locs1 hP1 hD1 hS1 => k p l e s m args below meth c F H1 locs1 ls hP1 hD1 hS1 hl)
theorem cw_get {idx ci i a q0 : Nat} {fs : List Value} {v : Value} (hd : decode J.c pc = .ok (.getfield idx, 3)) (hF : FL J.y.cls idx ci i) (he : ws[q0]? = some (a, .inr (ci, fs))) (hv : fs[i]? = some v) (k : CW J E g Z K S (pc + 3) L (v :: st) ws) : CW J E g Z K S pc L (.ref a :: st) ws := by
  intro p l e s m args below meth c F H locs ls hP hD hS hl
  obtain ⟨C, T, N, hc, hi, hlk, hly, hdc⟩ := hF
  exact va_get F.1 F.2.1 F.2.2.2.2.1 hly F.2.2.2.1 F.2.2.2.2.2.1 hP q0 he hc i hi (F.2.2.2.2.1 _ hlk) (fun x hx => by rw [hdc] at hx; exact hx) hv hd (k p l e s m args below meth c F H locs ls hP hD hS hl)
theorem cw_iast {a q0 N n : Nat} {f : Nat → Int32} {x : Int32} (hd : decode J.c pc = .ok (.iastore, 1)) (he : ws[q0]? = some (a, .inl (g.cI, N, .inl f))) (hn : n < N) (hN : N ≤ 1000) (k : CW J E g Z K S (pc + 1) L st (ws.set q0 (a, .inl (g.cI, N, .inl (upd f n x))))) : CW J E g Z K S pc L (.int x :: .int (nI n) :: .ref a :: st) ws := by
  intro p l e s m args below meth c F H locs ls hP hD hS hl
  refine va_iast F.1 F.2.1 F.2.2.2.2.2.1 hP hD hS q0 0 he rfl (vp_in_nI hn (by omega)) hd (fun H1 locs1 hP1 hD1 hS1 => ?_)
  rw [nI_clamp (by omega)] at hP1 hD1
  exact k p l e s m args below meth c F H1 locs1 ls hP1 hD1 hS1 hl
theorem cw_aast {a v q0 qk N n : Nat} {f : Nat → Option Nat} {vs : List Value} (hd : decode J.c pc = .ok (.aastore, 1)) (he : ws[q0]? = some (a, .inl (g.cS, N, .inr (.inr (.inr (.inr f)))))) (hv : ws[qk]? = some (v, .inr (2, vs))) (hn : n < N) (hN : N ≤ 1000) (k : CW J E g Z K S (pc + 1) L st (ws.set q0 (a, .inl (g.cS, N, .inr (.inr (.inr (.inr (va_up f n (some v))))))))) : CW J E g Z K S pc L (.ref v :: .int (nI n) :: .ref a :: st) ws := by
  intro p l e s m args below meth c F H locs ls hP hD hS hl
  refine va_astq F.1 F.2.1 F.2.2.2.2.2.1 hP hD hS q0 2 qk 2 (r := (RX2, TX2, 3)) he rfl hv rfl (vp_in_nI hn (by omega)) hd (fun H1 locs1 hP1 hD1 hS1 => ?_)
  rw [nI_clamp (by omega)] at hP1 hD1
  exact k p l e s m args below meth c F H1 locs1 ls hP1 hD1 hS1 hl
/-- the words for a new object -/
def NWs (own : String) (idx ci : Nat) (fs : List Value) : Prop := ∃ (C : String) (T : u_T) (N : Nat) (tf : Nat → FieldType), clsX[ci]? = some (C, T, N) ∧ N = fs.length ∧ (∀ w ∈ [Cond.classLink own idx C, .instantiable C N, .initialized C], w ∈ ws0) ∧ (∀ w ∈ u_ws C T N, w ∈ ws0) ∧ (∀ k, k < N → parseFieldDescriptor (T k).2.2.1 = some (tf k)) ∧ (List.range N).map (fun j => defaultValue (tf j)) = fs
theorem cw_new {idx ci : Nat} {fs : List Value} (hd : decode J.c pc = .ok (.new idx, 3)) (hW : NWs J.y.cls idx ci fs) (hc : K + 1 ≤ J.R.cells) (hs : S + fs.length ≤ J.R.slots) (k : ∀ q, CW J E g Z (K + 1) (S + fs.length) (pc + 3) L (.ref q :: st) (ws ++ [(q, .inr (ci, fs))])) : CW J E g Z K S pc L st ws := by
  intro p l e s m args below meth c F H locs ls hP hD hS hl
  obtain ⟨C, T, N, tf, h1, h2, h3, h4, h5, h6⟩ := hW
  subst h2
  have w1 : (Cond.classLink J.y.cls idx C).before args s = true := F.2.2.2.2.1 _ (h3 _ (by simp))
  have w2 : (Cond.instantiable C fs.length).before args s = true := F.2.2.2.2.1 _ (h3 _ (by simp))
  have w3 : (Cond.initialized C).before args s = true := F.2.2.2.2.1 _ (h3 _ (by simp))
  refine va_new F.1 F.2.1 F.2.2.2.2.1 h4 tf h5 F.2.2.2.1 w1 w2 w3 F.2.2.2.2.2.1 hP hD hS F.2.2.2.2.2.2.2.2.2.2.1 h1 (fun j hj => ?_) hc hs hd (fun q H1 hP1 hD1 hS1 => k q p l e s m args below meth c F H1 locs ls hP1 hD1 hS1 hl)
  have e : fs[j]? = some (defaultValue (tf j)) := by rw [← h6]; simp [hj]
  unfold vp_V
  rw [List.getD_eq_getElem?_getD, e]
  rfl
/-- other indices, the same cells -/
theorem cw_perm (is : List Nat) {ws' : va_W} (hn : va_nd is = true) (hs : is.map (fun i => ws[i]?) = ws'.map some) (k : CW J E g Z K S pc L st ws') : CW J E g Z K S pc L st ws := by
  intro p l e s m args below meth c F H locs ls hP hD hS hl
  refine k p l e s m args below meth c F H locs ls (hP.sub is ?_) (hD.sub is hn hs) hS hl
  have : is.filterMap (fun i => ws[i]?) = (is.map (fun i => ws[i]?)).filterMap id := by rw [List.filterMap_map]; rfl
  rw [this, hs, List.filterMap_map]
  show List.filterMap (fun x => some x) ws' = ws'
  exact List.filterMap_some
/-- a row of refs, told by its first N -/
theorem cw_refs {a q0 N : Nat} {f f' : Nat → Option Nat} {cA : ClassId} (he : ws[q0]? = some (a, .inl (cA, N, .inr (.inr (.inr (.inr f)))))) (hf : ∀ j, j < N → f j = f' j) (k : CW J E g Z K S pc L st (ws.set q0 (a, .inl (cA, N, .inr (.inr (.inr (.inr f'))))))) : CW J E g Z K S pc L st ws := by
  intro p l e s m args below meth c F H locs ls hP hD hS hl
  refine k p l e s m args below meth c F H locs ls (hP.set hD he ?_ (fun _ _ => rfl)) (hD.set he) hS hl
  have h0 := hP q0 _ he
  show H[a]? = some (vp_cell _ _)
  rw [show H[a]? = some (vp_cell cA (N, .inr (.inr (.inr (.inr f))))) from h0, vp_cell_q, vp_cell_q]
  unfold arrV
  congr 2
  exact congrArg Array.ofFn (funext (fun j => congrArg va_rf (hf j.val j.isLt)))
end CWR
