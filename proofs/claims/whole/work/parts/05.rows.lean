theorem sw_iconst {J : Mt} {E : ExT} {Z : ZT} {pc : Nat} {L : List (Option Value)} {st : List Value} {h : Hp} {n : Int} {v : Int32} (hd : decode J.c pc = .ok (.iconst n, 1)) (hv : Int32.ofInt n = v) (k : SW J E Z (pc + 1) L (.int v :: st) h) : SW J E Z pc L (st) h :=
  fun p l e s m args below meth c dC dI cI cZ cS ad F H locs ls hP hD hS hl => lv_iconst F.1 F.2.1 hd hv (k p l e s m args below meth c dC dI cI cZ cS ad F H locs ls hP hD hS hl)
theorem sw_bipush {J : Mt} {E : ExT} {Z : ZT} {pc : Nat} {L : List (Option Value)} {st : List Value} {h : Hp} {n : Int} {v : Int32} (hd : decode J.c pc = .ok (.bipush n, 2)) (hv : (Int8.ofInt n).toInt32 = v) (k : SW J E Z (pc + 2) L (.int v :: st) h) : SW J E Z pc L (st) h :=
  fun p l e s m args below meth c dC dI cI cZ cS ad F H locs ls hP hD hS hl => lv_bipush F.1 F.2.1 hd hv (k p l e s m args below meth c dC dI cI cZ cS ad F H locs ls hP hD hS hl)
theorem sw_sipush {J : Mt} {E : ExT} {Z : ZT} {pc : Nat} {L : List (Option Value)} {st : List Value} {h : Hp} {n : Int} {v : Int32} (hd : decode J.c pc = .ok (.sipush n, 3)) (hv : (Int16.ofInt n).toInt32 = v) (k : SW J E Z (pc + 3) L (.int v :: st) h) : SW J E Z pc L (st) h :=
  fun p l e s m args below meth c dC dI cI cZ cS ad F H locs ls hP hD hS hl => lv_sipush F.1 F.2.1 hd hv (k p l e s m args below meth c dC dI cI cZ cS ad F H locs ls hP hD hS hl)
theorem sw_lconst {J : Mt} {E : ExT} {Z : ZT} {pc : Nat} {L : List (Option Value)} {st : List Value} {h : Hp} {n : Fin 2} {v : Int64} (hd : decode J.c pc = .ok (.lconst n, 1)) (hv : Int64.ofNat (n : Nat) = v) (k : SW J E Z (pc + 1) L (.long v :: st) h) : SW J E Z pc L (st) h :=
  fun p l e s m args below meth c dC dI cI cZ cS ad F H locs ls hP hD hS hl => lv_lconst F.1 F.2.1 hd hv (k p l e s m args below meth c dC dI cI cZ cS ad F H locs ls hP hD hS hl)
theorem sw_iadd {J : Mt} {E : ExT} {Z : ZT} {pc : Nat} {L : List (Option Value)} {st : List Value} {h : Hp} {x y : Int32} (hd : decode J.c pc = .ok (.iadd, 1))  (k : SW J E Z (pc + 1) L (.int (x + y) :: st) h) : SW J E Z pc L (.int y :: .int x :: st) h :=
  fun p l e s m args below meth c dC dI cI cZ cS ad F H locs ls hP hD hS hl => lv_iadd F.1 F.2.1 hd  (k p l e s m args below meth c dC dI cI cZ cS ad F H locs ls hP hD hS hl)
theorem sw_isub {J : Mt} {E : ExT} {Z : ZT} {pc : Nat} {L : List (Option Value)} {st : List Value} {h : Hp} {x y : Int32} (hd : decode J.c pc = .ok (.isub, 1))  (k : SW J E Z (pc + 1) L (.int (x - y) :: st) h) : SW J E Z pc L (.int y :: .int x :: st) h :=
  fun p l e s m args below meth c dC dI cI cZ cS ad F H locs ls hP hD hS hl => lv_isub F.1 F.2.1 hd  (k p l e s m args below meth c dC dI cI cZ cS ad F H locs ls hP hD hS hl)
theorem sw_imul {J : Mt} {E : ExT} {Z : ZT} {pc : Nat} {L : List (Option Value)} {st : List Value} {h : Hp} {x y : Int32} (hd : decode J.c pc = .ok (.imul, 1))  (k : SW J E Z (pc + 1) L (.int (x * y) :: st) h) : SW J E Z pc L (.int y :: .int x :: st) h :=
  fun p l e s m args below meth c dC dI cI cZ cS ad F H locs ls hP hD hS hl => lv_imul F.1 F.2.1 hd  (k p l e s m args below meth c dC dI cI cZ cS ad F H locs ls hP hD hS hl)
theorem sw_iand {J : Mt} {E : ExT} {Z : ZT} {pc : Nat} {L : List (Option Value)} {st : List Value} {h : Hp} {x y : Int32} (hd : decode J.c pc = .ok (.iand, 1))  (k : SW J E Z (pc + 1) L (.int (x &&& y) :: st) h) : SW J E Z pc L (.int y :: .int x :: st) h :=
  fun p l e s m args below meth c dC dI cI cZ cS ad F H locs ls hP hD hS hl => lv_iand F.1 F.2.1 hd  (k p l e s m args below meth c dC dI cI cZ cS ad F H locs ls hP hD hS hl)
theorem sw_ior {J : Mt} {E : ExT} {Z : ZT} {pc : Nat} {L : List (Option Value)} {st : List Value} {h : Hp} {x y : Int32} (hd : decode J.c pc = .ok (.ior, 1))  (k : SW J E Z (pc + 1) L (.int (x ||| y) :: st) h) : SW J E Z pc L (.int y :: .int x :: st) h :=
  fun p l e s m args below meth c dC dI cI cZ cS ad F H locs ls hP hD hS hl => lv_ior F.1 F.2.1 hd  (k p l e s m args below meth c dC dI cI cZ cS ad F H locs ls hP hD hS hl)
theorem sw_ixor {J : Mt} {E : ExT} {Z : ZT} {pc : Nat} {L : List (Option Value)} {st : List Value} {h : Hp} {x y : Int32} (hd : decode J.c pc = .ok (.ixor, 1))  (k : SW J E Z (pc + 1) L (.int (x ^^^ y) :: st) h) : SW J E Z pc L (.int y :: .int x :: st) h :=
  fun p l e s m args below meth c dC dI cI cZ cS ad F H locs ls hP hD hS hl => lv_ixor F.1 F.2.1 hd  (k p l e s m args below meth c dC dI cI cZ cS ad F H locs ls hP hD hS hl)
theorem sw_ladd {J : Mt} {E : ExT} {Z : ZT} {pc : Nat} {L : List (Option Value)} {st : List Value} {h : Hp} {x y : Int64} (hd : decode J.c pc = .ok (.ladd, 1))  (k : SW J E Z (pc + 1) L (.long (x + y) :: st) h) : SW J E Z pc L (.long y :: .long x :: st) h :=
  fun p l e s m args below meth c dC dI cI cZ cS ad F H locs ls hP hD hS hl => lv_ladd F.1 F.2.1 hd  (k p l e s m args below meth c dC dI cI cZ cS ad F H locs ls hP hD hS hl)
theorem sw_ishl {J : Mt} {E : ExT} {Z : ZT} {pc : Nat} {L : List (Option Value)} {st : List Value} {h : Hp} {x y : Int32} (hd : decode J.c pc = .ok (.ishl, 1))  (k : SW J E Z (pc + 1) L (.int (x <<< (y &&& 31)) :: st) h) : SW J E Z pc L (.int y :: .int x :: st) h :=
  fun p l e s m args below meth c dC dI cI cZ cS ad F H locs ls hP hD hS hl => lv_ishl F.1 F.2.1 hd  (k p l e s m args below meth c dC dI cI cZ cS ad F H locs ls hP hD hS hl)
theorem sw_ishr {J : Mt} {E : ExT} {Z : ZT} {pc : Nat} {L : List (Option Value)} {st : List Value} {h : Hp} {x y : Int32} (hd : decode J.c pc = .ok (.ishr, 1))  (k : SW J E Z (pc + 1) L (.int (x >>> (y &&& 31)) :: st) h) : SW J E Z pc L (.int y :: .int x :: st) h :=
  fun p l e s m args below meth c dC dI cI cZ cS ad F H locs ls hP hD hS hl => lv_ishr F.1 F.2.1 hd  (k p l e s m args below meth c dC dI cI cZ cS ad F H locs ls hP hD hS hl)
theorem sw_iushr {J : Mt} {E : ExT} {Z : ZT} {pc : Nat} {L : List (Option Value)} {st : List Value} {h : Hp} {x y v : Int32} (hd : decode J.c pc = .ok (.iushr, 1)) (hv : (x.toUInt32 >>> (y.toUInt32 &&& Int32.toUInt32 31)).toInt32 = v) (k : SW J E Z (pc + 1) L (.int v :: st) h) : SW J E Z pc L (.int y :: .int x :: st) h :=
  fun p l e s m args below meth c dC dI cI cZ cS ad F H locs ls hP hD hS hl => lv_iushr F.1 F.2.1 hd hv (k p l e s m args below meth c dC dI cI cZ cS ad F H locs ls hP hD hS hl)
theorem sw_lshr {J : Mt} {E : ExT} {Z : ZT} {pc : Nat} {L : List (Option Value)} {st : List Value} {h : Hp} {x v : Int64} {y : Int32} (hd : decode J.c pc = .ok (.lshr, 1)) (hv : x >>> (y.toInt64 &&& 63) = v) (k : SW J E Z (pc + 1) L (.long v :: st) h) : SW J E Z pc L (.int y :: .long x :: st) h :=
  fun p l e s m args below meth c dC dI cI cZ cS ad F H locs ls hP hD hS hl => lv_lshr F.1 F.2.1 hd hv (k p l e s m args below meth c dC dI cI cZ cS ad F H locs ls hP hD hS hl)
theorem sw_i2l {J : Mt} {E : ExT} {Z : ZT} {pc : Nat} {L : List (Option Value)} {st : List Value} {h : Hp} {x : Int32} (hd : decode J.c pc = .ok (.i2l, 1))  (k : SW J E Z (pc + 1) L (.long x.toInt64 :: st) h) : SW J E Z pc L (.int x :: st) h :=
  fun p l e s m args below meth c dC dI cI cZ cS ad F H locs ls hP hD hS hl => lv_i2l F.1 F.2.1 hd rfl (k p l e s m args below meth c dC dI cI cZ cS ad F H locs ls hP hD hS hl)
theorem sw_l2i {J : Mt} {E : ExT} {Z : ZT} {pc : Nat} {L : List (Option Value)} {st : List Value} {h : Hp} {x : Int64} (hd : decode J.c pc = .ok (.l2i, 1))  (k : SW J E Z (pc + 1) L (.int x.toInt32 :: st) h) : SW J E Z pc L (.long x :: st) h :=
  fun p l e s m args below meth c dC dI cI cZ cS ad F H locs ls hP hD hS hl => lv_l2i F.1 F.2.1 hd rfl (k p l e s m args below meth c dC dI cI cZ cS ad F H locs ls hP hD hS hl)
theorem sw_i2b {J : Mt} {E : ExT} {Z : ZT} {pc : Nat} {L : List (Option Value)} {st : List Value} {h : Hp} {x : Int32} (hd : decode J.c pc = .ok (.i2b, 1))  (k : SW J E Z (pc + 1) L (.int x.toInt8.toInt32 :: st) h) : SW J E Z pc L (.int x :: st) h :=
  fun p l e s m args below meth c dC dI cI cZ cS ad F H locs ls hP hD hS hl => lv_i2b F.1 F.2.1 hd rfl (k p l e s m args below meth c dC dI cI cZ cS ad F H locs ls hP hD hS hl)
theorem sw_i2s {J : Mt} {E : ExT} {Z : ZT} {pc : Nat} {L : List (Option Value)} {st : List Value} {h : Hp} {x : Int32} (hd : decode J.c pc = .ok (.i2s, 1))  (k : SW J E Z (pc + 1) L (.int x.toInt16.toInt32 :: st) h) : SW J E Z pc L (.int x :: st) h :=
  fun p l e s m args below meth c dC dI cI cZ cS ad F H locs ls hP hD hS hl => lv_i2s F.1 F.2.1 hd rfl (k p l e s m args below meth c dC dI cI cZ cS ad F H locs ls hP hD hS hl)
theorem sw_lcmp {J : Mt} {E : ExT} {Z : ZT} {pc : Nat} {L : List (Option Value)} {st : List Value} {h : Hp} {x y : Int64} (hd : decode J.c pc = .ok (.lcmp, 1))  (k : SW J E Z (pc + 1) L (.int (lg_cmp x y) :: st) h) : SW J E Z pc L (.long y :: .long x :: st) h :=
  fun p l e s m args below meth c dC dI cI cZ cS ad F H locs ls hP hD hS hl => W.lcmp F.1 F.2.1 hd  (k p l e s m args below meth c dC dI cI cZ cS ad F H locs ls hP hD hS hl)
theorem sw_dup {J : Mt} {E : ExT} {Z : ZT} {pc : Nat} {L : List (Option Value)} {st : List Value} {h : Hp} {v : Value} (hd : decode J.c pc = .ok (.dup, 1)) (hc : v.category = 1) (k : SW J E Z (pc + 1) L (v :: v :: st) h) : SW J E Z pc L (v :: st) h :=
  fun p l e s m args below meth c dC dI cI cZ cS ad F H locs ls hP hD hS hl => lv_dup F.1 F.2.1 hd (by rw [trV_cat]; exact hc) (k p l e s m args below meth c dC dI cI cZ cS ad F H locs ls hP hD hS hl)
theorem sw_dup2 {J : Mt} {E : ExT} {Z : ZT} {pc : Nat} {L : List (Option Value)} {st : List Value} {h : Hp} {v w : Value} (hd : decode J.c pc = .ok (.dup2, 1)) (hc : v.category = 1) (hc2 : w.category = 1) (k : SW J E Z (pc + 1) L (v :: w :: v :: w :: st) h) : SW J E Z pc L (v :: w :: st) h :=
  fun p l e s m args below meth c dC dI cI cZ cS ad F H locs ls hP hD hS hl => lv_dup2_11 F.1 F.2.1 hd (by rw [trV_cat]; exact hc) (by rw [trV_cat]; exact hc2) (k p l e s m args below meth c dC dI cI cZ cS ad F H locs ls hP hD hS hl)
theorem sw_iload_n {J : Mt} {E : ExT} {Z : ZT} {pc : Nat} {L : List (Option Value)} {st : List Value} {h : Hp} {i : Fin 4} {x : Int32} (hd : decode J.c pc = .ok (.iload_n i, 1)) (hx : L[(i : Nat)]? = some (some (.int x))) (k : SW J E Z (pc + 1) L (.int x :: st) h) : SW J E Z pc L st h :=
  fun p l e s m args below meth c dC dI cI cZ cS ad F H locs ls hP hD hS hl => lv_iload_n F.1 F.2.1 hd rfl (hl.2.2 _ _ hx) (k p l e s m args below meth c dC dI cI cZ cS ad F H locs ls hP hD hS hl)
theorem sw_iload {J : Mt} {E : ExT} {Z : ZT} {pc : Nat} {L : List (Option Value)} {st : List Value} {h : Hp} {i : Nat} {x : Int32} (hd : decode J.c pc = .ok (.iload i, 2)) (hx : L[i]? = some (some (.int x))) (k : SW J E Z (pc + 2) L (.int x :: st) h) : SW J E Z pc L st h :=
  fun p l e s m args below meth c dC dI cI cZ cS ad F H locs ls hP hD hS hl => lv_iload F.1 F.2.1 hd (hl.2.2 _ _ hx) (k p l e s m args below meth c dC dI cI cZ cS ad F H locs ls hP hD hS hl)
theorem sw_lload_n {J : Mt} {E : ExT} {Z : ZT} {pc : Nat} {L : List (Option Value)} {st : List Value} {h : Hp} {i : Fin 4} {x : Int64} (hd : decode J.c pc = .ok (.lload_n i, 1)) (hx : L[(i : Nat)]? = some (some (.long x))) (k : SW J E Z (pc + 1) L (.long x :: st) h) : SW J E Z pc L st h :=
  fun p l e s m args below meth c dC dI cI cZ cS ad F H locs ls hP hD hS hl => lv_lload_n F.1 F.2.1 hd rfl (hl.2.2 _ _ hx) (k p l e s m args below meth c dC dI cI cZ cS ad F H locs ls hP hD hS hl)
theorem sw_lload {J : Mt} {E : ExT} {Z : ZT} {pc : Nat} {L : List (Option Value)} {st : List Value} {h : Hp} {i : Nat} {x : Int64} (hd : decode J.c pc = .ok (.lload i, 2)) (hx : L[i]? = some (some (.long x))) (k : SW J E Z (pc + 2) L (.long x :: st) h) : SW J E Z pc L st h :=
  fun p l e s m args below meth c dC dI cI cZ cS ad F H locs ls hP hD hS hl => lv_lload F.1 F.2.1 hd (hl.2.2 _ _ hx) (k p l e s m args below meth c dC dI cI cZ cS ad F H locs ls hP hD hS hl)
theorem sw_aload_n {J : Mt} {E : ExT} {Z : ZT} {pc : Nat} {L : List (Option Value)} {st : List Value} {h : Hp} {i : Fin 4} {x : Nat} (hd : decode J.c pc = .ok (.aload_n i, 1)) (hx : L[(i : Nat)]? = some (some (.ref x))) (k : SW J E Z (pc + 1) L (.ref x :: st) h) : SW J E Z pc L st h :=
  fun p l e s m args below meth c dC dI cI cZ cS ad F H locs ls hP hD hS hl => lv_aload_n F.1 F.2.1 hd rfl (hl.2.2 _ _ hx) (k p l e s m args below meth c dC dI cI cZ cS ad F H locs ls hP hD hS hl)
theorem sw_aload {J : Mt} {E : ExT} {Z : ZT} {pc : Nat} {L : List (Option Value)} {st : List Value} {h : Hp} {i : Nat} {x : Nat} (hd : decode J.c pc = .ok (.aload i, 2)) (hx : L[i]? = some (some (.ref x))) (k : SW J E Z (pc + 2) L (.ref x :: st) h) : SW J E Z pc L st h :=
  fun p l e s m args below meth c dC dI cI cZ cS ad F H locs ls hP hD hS hl => lv_aload F.1 F.2.1 hd (hl.2.2 _ _ hx) (k p l e s m args below meth c dC dI cI cZ cS ad F H locs ls hP hD hS hl)
def LL (ad : Nat → Nat) (L : List (Option Value)) : List (Nat × Value) := L.zipIdx.filterMap (fun q => q.1.map (fun v => (q.2, trV ad v)))
theorem LL_mem {ad : Nat → Nat} {L : List (Option Value)} {i : Nat} {v : Value} (h : L[i]? = some (some v)) : (i, trV ad v) ∈ LL ad L := by
  refine List.mem_filterMap.mpr ⟨(some v, i), ?_, rfl⟩
  exact List.mem_zipIdx_iff_getElem?.mpr h
theorem LL_of {ad : Nat → Nat} {L : List (Option Value)} {q : Nat × Value} (h : q ∈ LL ad L) : ∃ v, L[q.1]? = some (some v) ∧ q.2 = trV ad v := by
  obtain ⟨⟨o, i⟩, h1, h2⟩ := List.mem_filterMap.mp h
  cases o with
  | none => cases h2
  | some v =>
    cases h2
    exact ⟨v, List.mem_zipIdx_iff_getElem?.mp h1, rfl⟩
theorem lvH_has {ls : Array Slot} {nL : Nat} {ad : Nat → Nat} {L : List (Option Value)} (h : lvH ls nL ad L) : lv_has ls nL (LL ad L) := by
  refine ⟨h.1, h.2.1, fun q hq => ?_⟩
  obtain ⟨v, h1, h2⟩ := LL_of hq
  rw [h2]
  exact h.2.2 _ _ h1
def okS (L : List (Option Value)) : Nat → Bool
  | 0 => true
  | j + 1 => match L[j]? with
    | some (some (.long _)) => false
    | some (some (.double _)) => false
    | _ => true
theorem okS_cat {L : List (Option Value)} {j : Nat} {w : Value} (h : okS L (j + 1) = true) (hw : L[j]? = some (some w)) : w.category = 1 := by
  simp only [okS, hw] at h
  cases w <;> first | rfl | (simp at h)
theorem lvH_st1 {ls : Array Slot} {nL i : Nat} {ad : Nat → Nat} {L : List (Option Value)} {v : Value} (hk : okS L i = true) (h : lv_has ls nL ((i, trV ad v) :: (LL ad L).filter (fun q => !(q.1 == i) && !(q.1 + 1 == i && q.2.category == 2)))) : lvH ls nL ad (L.set i (some v)) := by
  refine ⟨h.1, h.2.1, fun j w hj => ?_⟩
  by_cases hji : j = i
  · subst hji
    have hlt : j < L.length := by
      rcases Nat.lt_or_ge j L.length with q | q
      · exact q
      · rw [List.getElem?_eq_none (by simpa using q)] at hj; cases hj
    rw [List.getElem?_set_self hlt] at hj
    cases hj
    exact h.2.2 _ List.mem_cons_self
  · rw [List.getElem?_set_ne (Ne.symm hji)] at hj
    refine h.2.2 (j, trV ad w) (List.mem_cons_of_mem _ (List.mem_filter.mpr ⟨LL_mem hj, ?_⟩))
    by_cases h1 : j + 1 = i
    · subst h1
      have := okS_cat hk hj
      simp [trV_cat, this]
    · simp [hji, h1]
theorem lvH_st2 {ls : Array Slot} {nL i : Nat} {ad : Nat → Nat} {L : List (Option Value)} {v : Value} (hk : okS L i = true) (h : lv_has ls nL ((i, trV ad v) :: (LL ad L).filter (fun q => !(q.1 == i) && (!(q.1 == i + 1) && !(q.1 + 1 == i && q.2.category == 2))))) : lvH ls nL ad ((L.set (i + 1) none).set i (some v)) := by
  refine ⟨h.1, h.2.1, fun j w hj => ?_⟩
  by_cases hji : j = i
  · subst hji
    have hlt : j < (L.set (j + 1) none).length := by
      rcases Nat.lt_or_ge j (L.set (j + 1) none).length with q | q
      · exact q
      · rw [List.getElem?_eq_none (by simpa using q)] at hj; cases hj
    rw [List.getElem?_set_self hlt] at hj
    cases hj
    exact h.2.2 _ List.mem_cons_self
  · rw [List.getElem?_set_ne (Ne.symm hji)] at hj
    by_cases h2 : j = i + 1
    · subst h2
      rcases Nat.lt_or_ge (i + 1) L.length with q | q
      · rw [List.getElem?_set_self q] at hj; cases hj
      · rw [List.getElem?_eq_none (by simpa using q)] at hj; cases hj
    · rw [List.getElem?_set_ne (Ne.symm h2)] at hj
      refine h.2.2 (j, trV ad w) (List.mem_cons_of_mem _ (List.mem_filter.mpr ⟨LL_mem hj, ?_⟩))
      by_cases h1 : j + 1 = i
      · subst h1
        have := okS_cat hk hj
        simp [trV_cat, this]
        omega
      · simp [hji, h1, h2]
theorem sw_istore_n {J : Mt} {E : ExT} {Z : ZT} {pc : Nat} {L : List (Option Value)} {st : List Value} {h : Hp} {i : Fin 4} {x : Int32} (hd : decode J.c pc = .ok (.istore_n i, 1)) (hn : ((i : Nat) < J.n)) (hk : okS L (i : Nat) = true) (k : SW J E Z (pc + 1) (L.set (i : Nat) (some (.int x))) st h) : SW J E Z pc L (.int x :: st) h :=
  fun p l e s m args below meth c dC dI cI cZ cS ad F H locs ls hP hD hS hl => lv_istore_n F.1 F.2.1 hd rfl (lvH_has hl) hn rfl (fun ls' hl' => k p l e s m args below meth c dC dI cI cZ cS ad F H locs ls' hP hD hS (lvH_st1 (v := .int x) hk hl'))
theorem sw_istore {J : Mt} {E : ExT} {Z : ZT} {pc : Nat} {L : List (Option Value)} {st : List Value} {h : Hp} {i : Nat} {x : Int32} (hd : decode J.c pc = .ok (.istore i, 2)) (hn : (i < J.n)) (hk : okS L i = true) (k : SW J E Z (pc + 2) (L.set i (some (.int x))) st h) : SW J E Z pc L (.int x :: st) h :=
  fun p l e s m args below meth c dC dI cI cZ cS ad F H locs ls hP hD hS hl => lv_istore F.1 F.2.1 hd (lvH_has hl) hn rfl (fun ls' hl' => k p l e s m args below meth c dC dI cI cZ cS ad F H locs ls' hP hD hS (lvH_st1 (v := .int x) hk hl'))
theorem sw_astore_n {J : Mt} {E : ExT} {Z : ZT} {pc : Nat} {L : List (Option Value)} {st : List Value} {h : Hp} {i : Fin 4} {x : Nat} (hd : decode J.c pc = .ok (.astore_n i, 1)) (hn : ((i : Nat) < J.n)) (hk : okS L (i : Nat) = true) (k : SW J E Z (pc + 1) (L.set (i : Nat) (some (.ref x))) st h) : SW J E Z pc L (.ref x :: st) h :=
  fun p l e s m args below meth c dC dI cI cZ cS ad F H locs ls hP hD hS hl => lv_astore_n F.1 F.2.1 hd rfl (lvH_has hl) hn rfl (fun ls' hl' => k p l e s m args below meth c dC dI cI cZ cS ad F H locs ls' hP hD hS (lvH_st1 (v := .ref x) hk hl'))
theorem sw_astore {J : Mt} {E : ExT} {Z : ZT} {pc : Nat} {L : List (Option Value)} {st : List Value} {h : Hp} {i : Nat} {x : Nat} (hd : decode J.c pc = .ok (.astore i, 2)) (hn : (i < J.n)) (hk : okS L i = true) (k : SW J E Z (pc + 2) (L.set i (some (.ref x))) st h) : SW J E Z pc L (.ref x :: st) h :=
  fun p l e s m args below meth c dC dI cI cZ cS ad F H locs ls hP hD hS hl => lv_astore F.1 F.2.1 hd (lvH_has hl) hn rfl (fun ls' hl' => k p l e s m args below meth c dC dI cI cZ cS ad F H locs ls' hP hD hS (lvH_st1 (v := .ref x) hk hl'))
theorem sw_lstore {J : Mt} {E : ExT} {Z : ZT} {pc : Nat} {L : List (Option Value)} {st : List Value} {h : Hp} {i : Nat} {x : Int64} (hd : decode J.c pc = .ok (.lstore i, 2)) (hn : (i + 1 < J.n)) (hk : okS L i = true) (k : SW J E Z (pc + 2) ((L.set (i + 1) none).set i (some (.long x))) st h) : SW J E Z pc L (.long x :: st) h :=
  fun p l e s m args below meth c dC dI cI cZ cS ad F H locs ls hP hD hS hl => lv_lstore F.1 F.2.1 hd (lvH_has hl) hn rfl (fun ls' hl' => k p l e s m args below meth c dC dI cI cZ cS ad F H locs ls' hP hD hS (lvH_st2 (v := .long x) hk hl'))
theorem sw_iinc {J : Mt} {E : ExT} {Z : ZT} {pc : Nat} {L : List (Option Value)} {st : List Value} {h : Hp} {i : Nat} {n : Int} {x v : Int32} (hd : decode J.c pc = .ok (.iinc i n, 3)) (hx : L[i]? = some (some (.int x))) (hv : x + Int32.ofInt n = v) (hn : i < J.n) (hk : okS L i = true) (k : SW J E Z (pc + 3) (L.set i (some (.int v))) st h) : SW J E Z pc L st h := by
  intro p l e s m args below meth c dC dI cI cZ cS ad F H locs ls hP hD hS hl
  obtain ⟨q, hq⟩ := List.getElem?_of_mem (LL_mem (ad := ad) hx)
  exact lv_iinc F.1 F.2.1 hd (lvH_has hl) hq hv hn rfl (fun ls' hl' => k p l e s m args below meth c dC dI cI cZ cS ad F H locs ls' hP hD hS (lvH_st1 (v := .int v) hk hl'))
theorem sw_if_eq {J : Mt} {E : ExT} {Z : ZT} {pc : Nat} {L : List (Option Value)} {st : List Value} {h : Hp} {x : Int32} {off : Int} {tgt : Nat} (hd : decode J.c pc = .ok (.ifCond .eq off, 3)) (ht : (pc : Int) + off = (tgt : Int)) (kt : x = 0 → SW J E Z tgt L st h) (kf : ¬ x = 0 → SW J E Z (pc + 3) L st h) : SW J E Z pc L (.int x :: st) h :=
  fun p l e s m args below meth c dC dI cI cZ cS ad F H locs ls hP hD hS hl => lv_if_eq F.1 F.2.1 hd ht (fun q => kt q p l e s m args below meth c dC dI cI cZ cS ad F H locs ls hP hD hS hl) (fun q => kf q p l e s m args below meth c dC dI cI cZ cS ad F H locs ls hP hD hS hl)
theorem sw_icmp_eq {J : Mt} {E : ExT} {Z : ZT} {pc : Nat} {L : List (Option Value)} {st : List Value} {h : Hp} {x y : Int32} {off : Int} {tgt : Nat} (hd : decode J.c pc = .ok (.if_icmp .eq off, 3)) (ht : (pc : Int) + off = (tgt : Int)) (kt : x = y → SW J E Z tgt L st h) (kf : ¬ x = y → SW J E Z (pc + 3) L st h) : SW J E Z pc L (.int y :: .int x :: st) h :=
  fun p l e s m args below meth c dC dI cI cZ cS ad F H locs ls hP hD hS hl => lv_icmp_eq F.1 F.2.1 hd ht (fun q => kt q p l e s m args below meth c dC dI cI cZ cS ad F H locs ls hP hD hS hl) (fun q => kf q p l e s m args below meth c dC dI cI cZ cS ad F H locs ls hP hD hS hl)
theorem sw_if_ne {J : Mt} {E : ExT} {Z : ZT} {pc : Nat} {L : List (Option Value)} {st : List Value} {h : Hp} {x : Int32} {off : Int} {tgt : Nat} (hd : decode J.c pc = .ok (.ifCond .ne off, 3)) (ht : (pc : Int) + off = (tgt : Int)) (kt : ¬ x = 0 → SW J E Z tgt L st h) (kf : x = 0 → SW J E Z (pc + 3) L st h) : SW J E Z pc L (.int x :: st) h :=
  fun p l e s m args below meth c dC dI cI cZ cS ad F H locs ls hP hD hS hl => lv_if_ne F.1 F.2.1 hd ht (fun q => kt q p l e s m args below meth c dC dI cI cZ cS ad F H locs ls hP hD hS hl) (fun q => kf q p l e s m args below meth c dC dI cI cZ cS ad F H locs ls hP hD hS hl)
theorem sw_icmp_ne {J : Mt} {E : ExT} {Z : ZT} {pc : Nat} {L : List (Option Value)} {st : List Value} {h : Hp} {x y : Int32} {off : Int} {tgt : Nat} (hd : decode J.c pc = .ok (.if_icmp .ne off, 3)) (ht : (pc : Int) + off = (tgt : Int)) (kt : ¬ x = y → SW J E Z tgt L st h) (kf : x = y → SW J E Z (pc + 3) L st h) : SW J E Z pc L (.int y :: .int x :: st) h :=
  fun p l e s m args below meth c dC dI cI cZ cS ad F H locs ls hP hD hS hl => lv_icmp_ne F.1 F.2.1 hd ht (fun q => kt q p l e s m args below meth c dC dI cI cZ cS ad F H locs ls hP hD hS hl) (fun q => kf q p l e s m args below meth c dC dI cI cZ cS ad F H locs ls hP hD hS hl)
theorem sw_if_lt {J : Mt} {E : ExT} {Z : ZT} {pc : Nat} {L : List (Option Value)} {st : List Value} {h : Hp} {x : Int32} {off : Int} {tgt : Nat} (hd : decode J.c pc = .ok (.ifCond .lt off, 3)) (ht : (pc : Int) + off = (tgt : Int)) (kt : x < 0 → SW J E Z tgt L st h) (kf : ¬ (x < 0) → SW J E Z (pc + 3) L st h) : SW J E Z pc L (.int x :: st) h :=
  fun p l e s m args below meth c dC dI cI cZ cS ad F H locs ls hP hD hS hl => lv_if_lt F.1 F.2.1 hd ht (fun q => kt q p l e s m args below meth c dC dI cI cZ cS ad F H locs ls hP hD hS hl) (fun q => kf q p l e s m args below meth c dC dI cI cZ cS ad F H locs ls hP hD hS hl)
theorem sw_icmp_lt {J : Mt} {E : ExT} {Z : ZT} {pc : Nat} {L : List (Option Value)} {st : List Value} {h : Hp} {x y : Int32} {off : Int} {tgt : Nat} (hd : decode J.c pc = .ok (.if_icmp .lt off, 3)) (ht : (pc : Int) + off = (tgt : Int)) (kt : x < y → SW J E Z tgt L st h) (kf : ¬ (x < y) → SW J E Z (pc + 3) L st h) : SW J E Z pc L (.int y :: .int x :: st) h :=
  fun p l e s m args below meth c dC dI cI cZ cS ad F H locs ls hP hD hS hl => lv_icmp_lt F.1 F.2.1 hd ht (fun q => kt q p l e s m args below meth c dC dI cI cZ cS ad F H locs ls hP hD hS hl) (fun q => kf q p l e s m args below meth c dC dI cI cZ cS ad F H locs ls hP hD hS hl)
theorem sw_if_ge {J : Mt} {E : ExT} {Z : ZT} {pc : Nat} {L : List (Option Value)} {st : List Value} {h : Hp} {x : Int32} {off : Int} {tgt : Nat} (hd : decode J.c pc = .ok (.ifCond .ge off, 3)) (ht : (pc : Int) + off = (tgt : Int)) (kt : 0 ≤ x → SW J E Z tgt L st h) (kf : ¬ (0 ≤ x) → SW J E Z (pc + 3) L st h) : SW J E Z pc L (.int x :: st) h :=
  fun p l e s m args below meth c dC dI cI cZ cS ad F H locs ls hP hD hS hl => lv_if_ge F.1 F.2.1 hd ht (fun q => kt q p l e s m args below meth c dC dI cI cZ cS ad F H locs ls hP hD hS hl) (fun q => kf q p l e s m args below meth c dC dI cI cZ cS ad F H locs ls hP hD hS hl)
theorem sw_icmp_ge {J : Mt} {E : ExT} {Z : ZT} {pc : Nat} {L : List (Option Value)} {st : List Value} {h : Hp} {x y : Int32} {off : Int} {tgt : Nat} (hd : decode J.c pc = .ok (.if_icmp .ge off, 3)) (ht : (pc : Int) + off = (tgt : Int)) (kt : y ≤ x → SW J E Z tgt L st h) (kf : ¬ (y ≤ x) → SW J E Z (pc + 3) L st h) : SW J E Z pc L (.int y :: .int x :: st) h :=
  fun p l e s m args below meth c dC dI cI cZ cS ad F H locs ls hP hD hS hl => lv_icmp_ge F.1 F.2.1 hd ht (fun q => kt q p l e s m args below meth c dC dI cI cZ cS ad F H locs ls hP hD hS hl) (fun q => kf q p l e s m args below meth c dC dI cI cZ cS ad F H locs ls hP hD hS hl)
theorem sw_if_gt {J : Mt} {E : ExT} {Z : ZT} {pc : Nat} {L : List (Option Value)} {st : List Value} {h : Hp} {x : Int32} {off : Int} {tgt : Nat} (hd : decode J.c pc = .ok (.ifCond .gt off, 3)) (ht : (pc : Int) + off = (tgt : Int)) (kt : 0 < x → SW J E Z tgt L st h) (kf : ¬ (0 < x) → SW J E Z (pc + 3) L st h) : SW J E Z pc L (.int x :: st) h :=
  fun p l e s m args below meth c dC dI cI cZ cS ad F H locs ls hP hD hS hl => lv_if_gt F.1 F.2.1 hd ht (fun q => kt q p l e s m args below meth c dC dI cI cZ cS ad F H locs ls hP hD hS hl) (fun q => kf q p l e s m args below meth c dC dI cI cZ cS ad F H locs ls hP hD hS hl)
theorem sw_icmp_gt {J : Mt} {E : ExT} {Z : ZT} {pc : Nat} {L : List (Option Value)} {st : List Value} {h : Hp} {x y : Int32} {off : Int} {tgt : Nat} (hd : decode J.c pc = .ok (.if_icmp .gt off, 3)) (ht : (pc : Int) + off = (tgt : Int)) (kt : y < x → SW J E Z tgt L st h) (kf : ¬ (y < x) → SW J E Z (pc + 3) L st h) : SW J E Z pc L (.int y :: .int x :: st) h :=
  fun p l e s m args below meth c dC dI cI cZ cS ad F H locs ls hP hD hS hl => lv_icmp_gt F.1 F.2.1 hd ht (fun q => kt q p l e s m args below meth c dC dI cI cZ cS ad F H locs ls hP hD hS hl) (fun q => kf q p l e s m args below meth c dC dI cI cZ cS ad F H locs ls hP hD hS hl)
theorem sw_if_le {J : Mt} {E : ExT} {Z : ZT} {pc : Nat} {L : List (Option Value)} {st : List Value} {h : Hp} {x : Int32} {off : Int} {tgt : Nat} (hd : decode J.c pc = .ok (.ifCond .le off, 3)) (ht : (pc : Int) + off = (tgt : Int)) (kt : x ≤ 0 → SW J E Z tgt L st h) (kf : ¬ (x ≤ 0) → SW J E Z (pc + 3) L st h) : SW J E Z pc L (.int x :: st) h :=
  fun p l e s m args below meth c dC dI cI cZ cS ad F H locs ls hP hD hS hl => lv_if_le F.1 F.2.1 hd ht (fun q => kt q p l e s m args below meth c dC dI cI cZ cS ad F H locs ls hP hD hS hl) (fun q => kf q p l e s m args below meth c dC dI cI cZ cS ad F H locs ls hP hD hS hl)
theorem sw_icmp_le {J : Mt} {E : ExT} {Z : ZT} {pc : Nat} {L : List (Option Value)} {st : List Value} {h : Hp} {x y : Int32} {off : Int} {tgt : Nat} (hd : decode J.c pc = .ok (.if_icmp .le off, 3)) (ht : (pc : Int) + off = (tgt : Int)) (kt : x ≤ y → SW J E Z tgt L st h) (kf : ¬ (x ≤ y) → SW J E Z (pc + 3) L st h) : SW J E Z pc L (.int y :: .int x :: st) h :=
  fun p l e s m args below meth c dC dI cI cZ cS ad F H locs ls hP hD hS hl => lv_icmp_le F.1 F.2.1 hd ht (fun q => kt q p l e s m args below meth c dC dI cI cZ cS ad F H locs ls hP hD hS hl) (fun q => kf q p l e s m args below meth c dC dI cI cZ cS ad F H locs ls hP hD hS hl)
theorem sw_icmpN_eq {J : Mt} {E : ExT} {Z : ZT} {pc : Nat} {L : List (Option Value)} {st : List Value} {h : Hp} {a b : Nat} {off : Int} {tgt : Nat} (hd : decode J.c pc = .ok (.if_icmp .eq off, 3)) (ht : (pc : Int) + off = (tgt : Int)) (ha : a < 2 ^ 31) (hb : b < 2 ^ 31) (kt : a = b → SW J E Z tgt L st h) (kf : ¬ a = b → SW J E Z (pc + 3) L st h) : SW J E Z pc L (.int (nI b) :: .int (nI a) :: st) h :=
  sw_icmp_eq hd ht (fun q => kt ((nI_eq ha hb).mp q)) (fun q => kf (fun z => q ((nI_eq ha hb).mpr z)))
theorem sw_icmpN_ne {J : Mt} {E : ExT} {Z : ZT} {pc : Nat} {L : List (Option Value)} {st : List Value} {h : Hp} {a b : Nat} {off : Int} {tgt : Nat} (hd : decode J.c pc = .ok (.if_icmp .ne off, 3)) (ht : (pc : Int) + off = (tgt : Int)) (ha : a < 2 ^ 31) (hb : b < 2 ^ 31) (kt : ¬ a = b → SW J E Z tgt L st h) (kf : a = b → SW J E Z (pc + 3) L st h) : SW J E Z pc L (.int (nI b) :: .int (nI a) :: st) h :=
  sw_icmp_ne hd ht (fun q => kt (fun z => q ((nI_eq ha hb).mpr z))) (fun q => kf ((nI_eq ha hb).mp q))
theorem sw_icmpN_lt {J : Mt} {E : ExT} {Z : ZT} {pc : Nat} {L : List (Option Value)} {st : List Value} {h : Hp} {a b : Nat} {off : Int} {tgt : Nat} (hd : decode J.c pc = .ok (.if_icmp .lt off, 3)) (ht : (pc : Int) + off = (tgt : Int)) (ha : a < 2 ^ 31) (hb : b < 2 ^ 31) (kt : a < b → SW J E Z tgt L st h) (kf : b ≤ a → SW J E Z (pc + 3) L st h) : SW J E Z pc L (.int (nI b) :: .int (nI a) :: st) h :=
  sw_icmp_lt hd ht (fun q => kt ((nI_ltI ha hb).mp q)) (fun q => kf (Nat.not_lt.mp fun z => q ((nI_ltI ha hb).mpr z)))
theorem sw_icmpN_ge {J : Mt} {E : ExT} {Z : ZT} {pc : Nat} {L : List (Option Value)} {st : List Value} {h : Hp} {a b : Nat} {off : Int} {tgt : Nat} (hd : decode J.c pc = .ok (.if_icmp .ge off, 3)) (ht : (pc : Int) + off = (tgt : Int)) (ha : a < 2 ^ 31) (hb : b < 2 ^ 31) (kt : b ≤ a → SW J E Z tgt L st h) (kf : a < b → SW J E Z (pc + 3) L st h) : SW J E Z pc L (.int (nI b) :: .int (nI a) :: st) h :=
  sw_icmp_ge hd ht (fun q => kt ((nI_leI hb ha).mp q)) (fun q => kf (Nat.not_le.mp fun z => q ((nI_leI hb ha).mpr z)))
theorem sw_icmpN_gt {J : Mt} {E : ExT} {Z : ZT} {pc : Nat} {L : List (Option Value)} {st : List Value} {h : Hp} {a b : Nat} {off : Int} {tgt : Nat} (hd : decode J.c pc = .ok (.if_icmp .gt off, 3)) (ht : (pc : Int) + off = (tgt : Int)) (ha : a < 2 ^ 31) (hb : b < 2 ^ 31) (kt : b < a → SW J E Z tgt L st h) (kf : a ≤ b → SW J E Z (pc + 3) L st h) : SW J E Z pc L (.int (nI b) :: .int (nI a) :: st) h :=
  sw_icmp_gt hd ht (fun q => kt ((nI_ltI hb ha).mp q)) (fun q => kf (Nat.not_lt.mp fun z => q ((nI_ltI hb ha).mpr z)))
theorem sw_icmpN_le {J : Mt} {E : ExT} {Z : ZT} {pc : Nat} {L : List (Option Value)} {st : List Value} {h : Hp} {a b : Nat} {off : Int} {tgt : Nat} (hd : decode J.c pc = .ok (.if_icmp .le off, 3)) (ht : (pc : Int) + off = (tgt : Int)) (ha : a < 2 ^ 31) (hb : b < 2 ^ 31) (kt : a ≤ b → SW J E Z tgt L st h) (kf : b < a → SW J E Z (pc + 3) L st h) : SW J E Z pc L (.int (nI b) :: .int (nI a) :: st) h :=
  sw_icmp_le hd ht (fun q => kt ((nI_leI ha hb).mp q)) (fun q => kf (Nat.not_le.mp fun z => q ((nI_leI ha hb).mpr z)))
theorem sw_goto {J : Mt} {E : ExT} {Z : ZT} {pc : Nat} {L : List (Option Value)} {st : List Value} {h : Hp} {off : Int} {tgt : Nat} (hd : decode J.c pc = .ok (.goto off, 3)) (ht : (pc : Int) + off = (tgt : Int)) (k : SW J E Z tgt L st h) : SW J E Z pc L st h :=
  fun p l e s m args below meth c dC dI cI cZ cS ad F H locs ls hP hD hS hl => lv_goto F.1 F.2.1 hd ht (k p l e s m args below meth c dC dI cI cZ cS ad F H locs ls hP hD hS hl)
theorem sw_idiv {J : Mt} {E : ExT} {Z : ZT} {pc : Nat} {L : List (Option Value)} {st : List Value} {h : Hp} {x y : Int32} (hd : decode J.c pc = .ok (.idiv, 1)) (hne : ¬ y = 0) (k : SW J E Z (pc + 1) L (.int (x / y) :: st) h) : SW J E Z pc L (.int y :: .int x :: st) h :=
  fun p l e s m args below meth c dC dI cI cZ cS ad F H locs ls hP hD hS hl => lv_idiv F.1 F.2.1 hd hne (k p l e s m args below meth c dC dI cI cZ cS ad F H locs ls hP hD hS hl)
theorem sw_irem {J : Mt} {E : ExT} {Z : ZT} {pc : Nat} {L : List (Option Value)} {st : List Value} {h : Hp} {x y : Int32} (hd : decode J.c pc = .ok (.irem, 1)) (hne : ¬ y = 0) (k : SW J E Z (pc + 1) L (.int (x - x / y * y) :: st) h) : SW J E Z pc L (.int y :: .int x :: st) h :=
  fun p l e s m args below meth c dC dI cI cZ cS ad F H locs ls hP hD hS hl => lv_irem F.1 F.2.1 hd hne (k p l e s m args below meth c dC dI cI cZ cS ad F H locs ls hP hD hS hl)
theorem sw_iaddN {J : Mt} {E : ExT} {Z : ZT} {pc : Nat} {L : List (Option Value)} {st : List Value} {h : Hp} {a b : Nat} (hd : decode J.c pc = .ok (.iadd, 1)) (k : SW J E Z (pc + 1) L (.int (nI (a + b)) :: st) h) : SW J E Z pc L (.int (nI b) :: .int (nI a) :: st) h := sw_iadd hd (by rw [nI_add]; exact k)
theorem sw_imulN {J : Mt} {E : ExT} {Z : ZT} {pc : Nat} {L : List (Option Value)} {st : List Value} {h : Hp} {a b : Nat} (hd : decode J.c pc = .ok (.imul, 1)) (k : SW J E Z (pc + 1) L (.int (nI (a * b)) :: st) h) : SW J E Z pc L (.int (nI b) :: .int (nI a) :: st) h := sw_imul hd (by rw [pk_mul]; exact k)
theorem sw_isubN {J : Mt} {E : ExT} {Z : ZT} {pc : Nat} {L : List (Option Value)} {st : List Value} {h : Hp} {a b : Nat} (hd : decode J.c pc = .ok (.isub, 1)) (hab : b ≤ a) (k : SW J E Z (pc + 1) L (.int (nI (a - b)) :: st) h) : SW J E Z pc L (.int (nI b) :: .int (nI a) :: st) h := sw_isub hd (by rw [pk_sub hab]; exact k)
theorem sw_iincN {J : Mt} {E : ExT} {Z : ZT} {pc : Nat} {L : List (Option Value)} {st : List Value} {h : Hp} {i a b : Nat} (hd : decode J.c pc = .ok (.iinc i (b : Int), 3)) (hx : L[i]? = some (some (.int (nI a)))) (hn : i < J.n) (hk : okS L i = true) (k : SW J E Z (pc + 3) (L.set i (some (.int (nI (a + b))))) st h) : SW J E Z pc L st h := sw_iinc (v := nI (a + b)) hd hx (by rw [← nI_add]; rfl) hn hk k
theorem sw_top {J : Mt} {E : ExT} {Z : ZT} {pc : Nat} {L : List (Option Value)} {st : List Value} {h : Hp} {x y : Int32} (e : x = y) (k : SW J E Z pc L (.int y :: st) h) : SW J E Z pc L (.int x :: st) h := by rw [e]; exact k
theorem sw_nd {J : Mt} {E : ExT} {Z : ZT} {pc : Nat} {L : List (Option Value)} {st : List Value} {h : Hp} {x y z : Int32} (e : x = y) (k : SW J E Z pc L (.int z :: .int y :: st) h) : SW J E Z pc L (.int z :: .int x :: st) h := by rw [e]; exact k
theorem sw_to {J : Mt} {E : ExT} {Z : ZT} {pc : Nat} {L : List (Option Value)} {st : List Value} {h : Hp} {L' : List (Option Value)} {st' : List Value} {h' : Hp} (k : SW J E Z pc L' st' h') (e1 : L = L') (e2 : st = st') (e3 : h = h') : SW J E Z pc L st h := by subst e1; subst e2; subst e3; exact k
theorem sw_ldc {J : Mt} {E : ExT} {Z : ZT} {pc : Nat} {L : List (Option Value)} {st : List Value} {h : Hp} {idx : Nat} {v : Int32} (hd : decode J.c pc = .ok (.ldc idx, 2)) (hc : Cond.constant J.y.cls idx v ∈ ws0) (k : SW J E Z (pc + 2) L (.int v :: st) h) : SW J E Z pc L st h :=
  fun p l e s m args below meth c dC dI cI cZ cS ad F H locs ls hP hD hS hl => lv_ldc F.1 F.2.1 F.2.2.2.1 (F.2.2.2.2.1 _ hc) hd (k p l e s m args below meth c dC dI cI cZ cS ad F H locs ls hP hD hS hl)
theorem sw_ldc_w {J : Mt} {E : ExT} {Z : ZT} {pc : Nat} {L : List (Option Value)} {st : List Value} {h : Hp} {idx : Nat} {v : Int32} (hd : decode J.c pc = .ok (.ldc_w idx, 3)) (hc : Cond.constant J.y.cls idx v ∈ ws0) (k : SW J E Z (pc + 3) L (.int v :: st) h) : SW J E Z pc L st h :=
  fun p l e s m args below meth c dC dI cI cZ cS ad F H locs ls hP hD hS hl => lv_ldcw F.1 F.2.1 F.2.2.2.1 (F.2.2.2.2.1 _ hc) hd (k p l e s m args below meth c dC dI cI cZ cS ad F H locs ls hP hD hS hl)
theorem sw_ldc2_w {J : Mt} {E : ExT} {Z : ZT} {pc : Nat} {L : List (Option Value)} {st : List Value} {h : Hp} {idx : Nat} {v : Int64} (hd : decode J.c pc = .ok (.ldc2_w idx, 3)) (hc : Cond.constantLong J.y.cls idx v ∈ ws0) (k : SW J E Z (pc + 3) L (.long v :: st) h) : SW J E Z pc L st h :=
  fun p l e s m args below meth c dC dI cI cZ cS ad F H locs ls hP hD hS hl => lv_ldc2 F.1 F.2.1 F.2.2.2.1 (F.2.2.2.2.1 _ hc) hd (k p l e s m args below meth c dC dI cI cZ cS ad F H locs ls hP hD hS hl)
theorem sw_tabOut {J : Mt} {E : ExT} {Z : ZT} {pc : Nat} {L : List (Option Value)} {st : List Value} {h : Hp} {x : Int32} {dflt lo hi : Int} {offs : Array Int} {len tgt : Nat} (hd : decode J.c pc = .ok (.tableswitch dflt lo hi offs, len)) (hx : x.toInt < lo ∨ hi < x.toInt) (ht : (pc : Int) + dflt = (tgt : Int)) (k : SW J E Z tgt L st h) : SW J E Z pc L (.int x :: st) h :=
  fun p l e s m args below meth c dC dI cI cZ cS ad F H locs ls hP hD hS hl => lv_tableOut F.1 F.2.1 hd hx ht (k p l e s m args below meth c dC dI cI cZ cS ad F H locs ls hP hD hS hl)
theorem sw_tabIn {J : Mt} {E : ExT} {Z : ZT} {pc : Nat} {L : List (Option Value)} {st : List Value} {h : Hp} {x : Int32} {dflt lo hi off : Int} {offs : Array Int} {len tgt : Nat} (hd : decode J.c pc = .ok (.tableswitch dflt lo hi offs, len)) (h1 : ¬ x.toInt < lo) (h2 : ¬ hi < x.toInt) (ho : offs[(x.toInt - lo).toNat]? = some off) (ht : (pc : Int) + off = (tgt : Int)) (k : SW J E Z tgt L st h) : SW J E Z pc L (.int x :: st) h :=
  fun p l e s m args below meth c dC dI cI cZ cS ad F H locs ls hP hD hS hl => lv_tableIn F.1 F.2.1 hd h1 h2 ho ht (k p l e s m args below meth c dC dI cI cZ cS ad F H locs ls hP hD hS hl)
theorem sw_lookup {J : Mt} {E : ExT} {Z : ZT} {pc : Nat} {L : List (Option Value)} {st : List Value} {h : Hp} {x : Int32} {dflt off : Int} {ps : Array (Int × Int)} {len tgt : Nat} (hd : decode J.c pc = .ok (.lookupswitch dflt ps, len)) (hp : (ps.toList.zip (ps.toList.drop 1)).all (fun (a, next) => a.1 < next.1) = true) (ho : Op.lookupswitch.offset ps.toList dflt x.toInt = off) (ht : (pc : Int) + off = (tgt : Int)) (k : SW J E Z tgt L st h) : SW J E Z pc L (.int x :: st) h :=
  fun p l e s m args below meth c dC dI cI cZ cS ad F H locs ls hP hD hS hl => lv_lookup F.1 F.2.1 hd hp ho ht (k p l e s m args below meth c dC dI cI cZ cS ad F H locs ls hP hD hS hl)
def isI (k : Nat) : Bool := decide (k < 43) && (plO k).isNone && decide (k ≠ 19) && decide (k ≠ 9)
theorem isI_cE {k : Nat} (hk : isI k = true) {cI cZ cS : ClassId} {ad : Nat → Nat} {h : Hp} : (wW cI cZ cS ad h)[k]? = some (ad k, .inl (cI, plA k, .inl (h k))) := by
  simp only [isI, Bool.and_eq_true, decide_eq_true_eq, Option.isNone_iff_eq_none] at hk
  obtain ⟨⟨⟨h1, h2⟩, h3⟩, h4⟩ := hk
  rw [wW_get h1]
  simp [cE, h2, h3, h4]
theorem isI_lt {k : Nat} (hk : isI k = true) : k < 43 := by
  simp only [isI, Bool.and_eq_true, decide_eq_true_eq] at hk
  exact hk.1.1.1
theorem isI_set {k : Nat} (hk : isI k = true) {cI cZ cS : ClassId} {ad : Nat → Nat} {h h' : Hp} {f : Nat → Int32} (ho : ∀ a, a ≠ k → h' a = h a) (hf : h' k = f) : (wW cI cZ cS ad h).set k (ad k, .inl (cI, plA k, .inl f)) = wW cI cZ cS ad h' := by
  rw [← wW_set (isI_lt hk) ho]
  congr 2
  have h2 := isI_cE hk (cI := cI) (cZ := cZ) (cS := cS) (ad := ad) (h := h')
  rw [wW_get (isI_lt hk)] at h2
  have h3 := (Prod.mk.inj (Option.some.inj h2)).2
  rw [h3, hf]
theorem met_cE {cI cZ cS : ClassId} {ad : Nat → Nat} {h : Hp} : (wW cI cZ cS ad h)[9]? = some (ad 9, .inl (cZ, 64, .inl (h 9))) := by
  rw [wW_get (by decide)]
  rfl
theorem met_set {cI cZ cS : ClassId} {ad : Nat → Nat} {h h' : Hp} {f : Nat → Int32} (ho : ∀ a, a ≠ 9 → h' a = h a) (hf : h' 9 = f) : (wW cI cZ cS ad h).set 9 (ad 9, .inl (cZ, 64, .inl f)) = wW cI cZ cS ad h' := by
  rw [← wW_set (k := 9) (by decide) ho]
  subst hf
  rfl
theorem nI_cl {n N : Nat} (h : n < N) (hN : N ≤ 512) : (nI n).toNatClampNeg = n := nI_clamp (by omega)
theorem plA_le (k : Nat) : plA k ≤ 512 := by unfold plA; split <;> decide
theorem sw_iald {J : Mt} {E : ExT} {Z : ZT} {pc : Nat} {L : List (Option Value)} {st : List Value} {h : Hp} {q n : Nat} (hd : decode J.c pc = .ok (.iaload, 1)) (hk : isI q = true) (hn : n < plA q) (k : SW J E Z (pc + 1) L (.int (h q n) :: st) h) : SW J E Z pc L (.int (nI n) :: .ref q :: st) h := by
  intro p l e s m args below meth c dC dI cI cZ cS ad F H locs ls hP hD hS hl
  have hz := plA_le q
  refine va_iald F.1 F.2.1 F.2.2.2.2.2.1 hP q 0 (isI_cE hk) rfl (vp_in_nI hn (by omega)) hd ?_
  rw [nI_cl hn hz]
  exact (k p l e s m args below meth c dC dI cI cZ cS ad F H locs ls hP hD hS hl)
theorem sw_iast {J : Mt} {E : ExT} {Z : ZT} {pc : Nat} {L : List (Option Value)} {st : List Value} {h : Hp} {q n : Nat} {x : Int32} (hd : decode J.c pc = .ok (.iastore, 1)) (hk : isI q = true) (hn : n < plA q) (k : SW J E Z (pc + 1) L st (hset h q n x)) : SW J E Z pc L (.int x :: .int (nI n) :: .ref q :: st) h := by
  intro p l e s m args below meth c dC dI cI cZ cS ad F H locs ls hP hD hS hl
  have hz := plA_le q
  refine va_iast F.1 F.2.1 F.2.2.2.2.2.1 hP hD hS q 0 (isI_cE hk) rfl (vp_in_nI hn (by omega)) hd (fun H1 locs1 hP1 hD1 hS1 => ?_)
  have ee := isI_set hk (cI := cI) (cZ := cZ) (cS := cS) (ad := ad) (h := h) (h' := hset h q n x) (f := upd (h q) (nI n).toNatClampNeg x) hset_off (by rw [hset_same, nI_cl hn hz])
  rw [ee] at hP1 hD1
  exact k p l e s m args below meth c dC dI cI cZ cS ad F H1 locs1 ls hP1 hD1 hS1 hl
theorem sw_zald {J : Mt} {E : ExT} {Z : ZT} {pc : Nat} {L : List (Option Value)} {st : List Value} {h : Hp} {n : Nat} (hd : decode J.c pc = .ok (.baload, 1)) (hn : n < 64) (k : SW J E Z (pc + 1) L (.int (h 9 n) :: st) h) : SW J E Z pc L (.int (nI n) :: .ref 9 :: st) h := by
  intro p l e s m args below meth c dC dI cI cZ cS ad F H locs ls hP hD hS hl
  refine va_zald F.1 F.2.1 F.2.2.2.2.2.1 hP 9 1 met_cE rfl (vp_in_nI hn (by omega)) hd ?_
  rw [nI_cl hn (by omega)]
  exact (k p l e s m args below meth c dC dI cI cZ cS ad F H locs ls hP hD hS hl)
theorem sw_zast {J : Mt} {E : ExT} {Z : ZT} {pc : Nat} {L : List (Option Value)} {st : List Value} {h : Hp} {n : Nat} {x : Int32} (hd : decode J.c pc = .ok (.bastore, 1)) (hn : n < 64) (hx : vp_nar .boolean x = x) (k : SW J E Z (pc + 1) L st (hset h 9 n x)) : SW J E Z pc L (.int x :: .int (nI n) :: .ref 9 :: st) h := by
  intro p l e s m args below meth c dC dI cI cZ cS ad F H locs ls hP hD hS hl
  refine va_zast F.1 F.2.1 F.2.2.2.2.2.1 hP hD hS 9 1 met_cE rfl (vp_in_nI hn (by omega)) hd (fun H1 locs1 hP1 hD1 hS1 => ?_)
  have ee := met_set (cI := cI) (cZ := cZ) (cS := cS) (ad := ad) (h := h) (h' := hset h 9 n x) (f := upd (h 9) (nI n).toNatClampNeg (vp_nar .boolean x)) hset_off (by rw [hset_same, nI_cl hn (by omega), hx])
  rw [ee] at hP1 hD1
  exact k p l e s m args below meth c dC dI cI cZ cS ad F H1 locs1 ls hP1 hD1 hS1 hl
theorem sw_aald {J : Mt} {E : ExT} {Z : ZT} {pc : Nat} {L : List (Option Value)} {st : List Value} {h : Hp} {n : Nat} (hd : decode J.c pc = .ok (.aaload, 1)) (hn : n < 4) (k : SW J E Z (pc + 1) L (.ref (20 + n) :: st) h) : SW J E Z pc L (.int (nI n) :: .ref 19 :: st) h := by
  intro p l e s m args below meth c dC dI cI cZ cS ad F H locs ls hP hD hS hl
  refine va_aldq F.1 F.2.1 F.2.2.2.2.2.1 hP 19 2 (n := 4) (f := fun j => some (ad (20 + j))) (by rw [wW_get (by decide)]; rfl) rfl (vp_in_nI hn (by omega)) hd ?_
  rw [nI_cl hn (by omega)]
  exact (k p l e s m args below meth c dC dI cI cZ cS ad F H locs ls hP hD hS hl)
theorem sw_alen {J : Mt} {E : ExT} {Z : ZT} {pc : Nat} {L : List (Option Value)} {st : List Value} {h : Hp} {q : Nat} {v : Int32} (hd : decode J.c pc = .ok (.arraylength, 1)) (hk : isI q = true) (hv : nI (plA q) = v) (k : SW J E Z (pc + 1) L (.int v :: st) h) : SW J E Z pc L (.ref q :: st) h :=
  fun p l e s m args below meth c dC dI cI cZ cS ad F H locs ls hP hD hS hl => va_alen F.1 F.2.1 F.2.2.2.2.2.1 hP q 0 (isI_cE hk) (ty := .int) rfl hv hd (k p l e s m args below meth c dC dI cI cZ cS ad F H locs ls hP hD hS hl)
/-- the field of number i of class ci, as the class own names it by idx -/
def FL (own : String) (idx ci i : Nat) : Prop := ∃ (C : String) (T : u_T) (N : Nat), clsX[ci]? = some (C, T, N) ∧ i < N ∧ Cond.fieldLink own idx C (T i).2.1 (T i).2.2.1 ∈ ws0 ∧ (∀ w ∈ u_ws C T N, w ∈ ws0) ∧ (T i).1 = C
def FN (own : String) (idx ci i : Nat) : Prop := ∃ (C : String) (T : u_T) (N : Nat), clsX[ci]? = some (C, T, N) ∧ i < N ∧ (own, idx, C, (T i).2.1, (T i).2.2.1) ∈ nsT ∧ (∀ w ∈ u_ws C T N, w ∈ ws0) ∧ (T i).1 = C
def FP (own : String) (idx ci i : Nat) (ty : FieldType) : Prop := ∃ (C : String) (T : u_T) (N : Nat) (tf : Nat → FieldType), clsX[ci]? = some (C, T, N) ∧ i < N ∧ Cond.fieldLink own idx C (T i).2.1 (T i).2.2.1 ∈ ws0 ∧ (∀ w ∈ u_ws C T N, w ∈ ws0) ∧ (T i).1 = C ∧ (T i).2.2.2 = false ∧ parseFieldDescriptor (T i).2.2.1 = some ty ∧ (∀ k, k < N → parseFieldDescriptor (T k).2.2.1 = some (tf k)) ∧ (∀ a, a < N → ∀ b, b < N → a ≠ b → (T a).2.1 ≠ (T b).2.1)
/-- cell q is an object of class ci whose slot i is f -/
def ob (q ci i : Nat) (f : Option Nat) : Prop := q < 43 ∧ ∃ fs, plO q = some (ci, fs) ∧ fs[i]? = some f
theorem ob_cE {q ci i : Nat} {f : Option Nat} (ho : ob q ci i f) {cI cZ cS : ClassId} {ad : Nat → Nat} {h : Hp} : ∃ vs : List Value, (wW cI cZ cS ad h)[q]? = some (ad q, .inr (ci, vs)) ∧ vs[i]? = some (fE ad h q i f) ∧ ∀ x : Int32, f = none → (wW cI cZ cS ad h).set q (ad q, .inr (ci, vs.set i (.int x))) = wW cI cZ cS ad (hset h q i x) := by
  obtain ⟨hq, fs, h1, h2⟩ := ho
  refine ⟨fs.mapIdx (fE ad h q), ?_, ?_, ?_⟩
  · rw [wW_get hq]
    simp [cE, h1]
  · rw [List.getElem?_mapIdx, h2]
    rfl
  · intro x hf
    subst hf
    rw [← wW_set hq (hset_off (h := h) (k := q) (i := i) (v := x))]
    congr 2
    simp only [cE, h1]
    congr 2
    apply List.ext_getElem?
    intro j
    by_cases hj : j = i
    · subst hj
      have hl := (List.getElem?_eq_some_iff.mp h2).1
      rw [List.getElem?_set_self (by simpa using hl), List.getElem?_mapIdx, h2]
      simp [fE, hset_at]
    · rw [List.getElem?_set_ne (Ne.symm hj), List.getElem?_mapIdx, List.getElem?_mapIdx]
      cases fs[j]? with
      | none => rfl
      | some g =>
        cases g with
        | some r => rfl
        | none => simp [fE, hset, upd, hj]
theorem sw_getI {J : Mt} {E : ExT} {Z : ZT} {pc : Nat} {L : List (Option Value)} {st : List Value} {h : Hp} {idx ci i q : Nat}  (hd : decode J.c pc = .ok (.getfield idx, 3)) (hF : FL J.y.cls idx ci i) (hq : ob q ci i none) (k : SW J E Z (pc + 3) L (.int (h q i) :: st) h) : SW J E Z pc L (.ref q :: st) h := by
  intro p l e s m args below meth c dC dI cI cZ cS ad F H locs ls hP hD hS hl
  obtain ⟨C, T, N, hc, hi, hlk, hly, hdc⟩ := hF
  obtain ⟨vs, e1, e2, -⟩ := ob_cE hq (cI := cI) (cZ := cZ) (cS := cS) (ad := ad) (h := h)
  exact va_get F.1 F.2.1 F.2.2.2.2.1 hly F.2.2.2.1 F.2.2.2.2.2.1 hP q e1 hc i hi (F.2.2.2.2.1 _ hlk) (fun x hx => by rw [hdc] at hx; exact hx) e2 hd (k p l e s m args below meth c dC dI cI cZ cS ad F H locs ls hP hD hS hl)
theorem sw_getR {J : Mt} {E : ExT} {Z : ZT} {pc : Nat} {L : List (Option Value)} {st : List Value} {h : Hp} {idx ci i q : Nat} {r : Nat} (hd : decode J.c pc = .ok (.getfield idx, 3)) (hF : FL J.y.cls idx ci i) (hq : ob q ci i (some r)) (k : SW J E Z (pc + 3) L (.ref r :: st) h) : SW J E Z pc L (.ref q :: st) h := by
  intro p l e s m args below meth c dC dI cI cZ cS ad F H locs ls hP hD hS hl
  obtain ⟨C, T, N, hc, hi, hlk, hly, hdc⟩ := hF
  obtain ⟨vs, e1, e2, -⟩ := ob_cE hq (cI := cI) (cZ := cZ) (cS := cS) (ad := ad) (h := h)
  exact va_get F.1 F.2.1 F.2.2.2.2.1 hly F.2.2.2.1 F.2.2.2.2.2.1 hP q e1 hc i hi (F.2.2.2.2.1 _ hlk) (fun x hx => by rw [hdc] at hx; exact hx) e2 hd (k p l e s m args below meth c dC dI cI cZ cS ad F H locs ls hP hD hS hl)
theorem sw_getNI {J : Mt} {E : ExT} {Z : ZT} {pc : Nat} {L : List (Option Value)} {st : List Value} {h : Hp} {idx ci i q : Nat}  (hd : decode J.c pc = .ok (.getfield idx, 3)) (hF : FN J.y.cls idx ci i) (hq : ob q ci i none) (k : SW J E Z (pc + 3) L (.int (h q i) :: st) h) : SW J E Z pc L (.ref q :: st) h := by
  intro p l e s m args below meth c dC dI cI cZ cS ad F H locs ls hP hD hS hl
  obtain ⟨C, T, N, hc, hi, hlk, hly, hdc⟩ := hF
  obtain ⟨vs, e1, e2, -⟩ := ob_cE hq (cI := cI) (cZ := cZ) (cS := cS) (ad := ad) (h := h)
  exact va_getN F.1 F.2.1 F.2.2.2.2.1 hly F.2.2.2.1 F.2.2.2.2.2.1 hP q e1 hc i hi (va_Nw.use rfl (F.2.2.2.2.2.2.1 _ hlk)) (fun x hx => by rw [hdc] at hx; exact hx) e2 hd (k p l e s m args below meth c dC dI cI cZ cS ad F H locs ls hP hD hS hl)
theorem sw_getNR {J : Mt} {E : ExT} {Z : ZT} {pc : Nat} {L : List (Option Value)} {st : List Value} {h : Hp} {idx ci i q : Nat} {r : Nat} (hd : decode J.c pc = .ok (.getfield idx, 3)) (hF : FN J.y.cls idx ci i) (hq : ob q ci i (some r)) (k : SW J E Z (pc + 3) L (.ref r :: st) h) : SW J E Z pc L (.ref q :: st) h := by
  intro p l e s m args below meth c dC dI cI cZ cS ad F H locs ls hP hD hS hl
  obtain ⟨C, T, N, hc, hi, hlk, hly, hdc⟩ := hF
  obtain ⟨vs, e1, e2, -⟩ := ob_cE hq (cI := cI) (cZ := cZ) (cS := cS) (ad := ad) (h := h)
  exact va_getN F.1 F.2.1 F.2.2.2.2.1 hly F.2.2.2.1 F.2.2.2.2.2.1 hP q e1 hc i hi (va_Nw.use rfl (F.2.2.2.2.2.2.1 _ hlk)) (fun x hx => by rw [hdc] at hx; exact hx) e2 hd (k p l e s m args below meth c dC dI cI cZ cS ad F H locs ls hP hD hS hl)
theorem sw_put {J : Mt} {E : ExT} {Z : ZT} {pc : Nat} {L : List (Option Value)} {st : List Value} {h : Hp} {idx ci i q : Nat} {x : Int32} {ty : FieldType} (hd : decode J.c pc = .ok (.putfield idx, 3)) (hF : FP J.y.cls idx ci i ty) (hq : ob q ci i none) (hn : narrow ty (.int x) = .int x) (hf : fits ty (.int x) = true) (k : SW J E Z (pc + 3) L st (hset h q i x)) : SW J E Z pc L (.int x :: .ref q :: st) h := by
  intro p l e s m args below meth c dC dI cI cZ cS ad F H locs ls hP hD hS hl
  obtain ⟨C, T, N, tf, hc, hi, hlk, hly, hdc, hfin, hpd, htf, hnm⟩ := hF
  obtain ⟨vs, e1, e2, e3⟩ := ob_cE hq (cI := cI) (cZ := cZ) (cS := cS) (ad := ad) (h := h)
  refine va_put F.1 F.2.1 F.2.2.2.2.1 hly tf htf hnm F.2.2.2.1 F.2.2.2.2.2.1 hP hD hS q e1 hc i hi (F.2.2.2.2.1 _ hlk) (fun x hx => by rw [hdc] at hx; exact hx) hfin hpd hn hf (List.getElem?_eq_some_iff.mp e2).1 hd (fun H1 locs1 hP1 hD1 hS1 => ?_)
  rw [show trV ad (.int x) = .int x from rfl, e3 x rfl] at hP1 hD1
  exact k p l e s m args below meth c dC dI cI cZ cS ad F H1 locs1 ls hP1 hD1 hS1 hl
def LkV (own : String) (idx n : Nat) (J' : Mt) : Prop := (∀ w ∈ [Cond.methodLink own idx J'.y, .instanceMethod J'.y, .selects J'.y.cls J'.y J'.y, .initialized J'.y.cls, .code J'.y J'.c J'.n J'.r], w ∈ ws0) ∧ J'.y.cls ≠ "java/lang/invoke/MethodHandle" ∧ J'.y.cls ≠ "java/lang/invoke/VarHandle" ∧ (parseMethodDescriptor J'.y.desc).map (fun d => d.parameters.length) = some n
def LkS (own : String) (idx n : Nat) (J' : Mt) : Prop := (∀ w ∈ [Cond.methodLink own idx J'.y, .static J'.y, .initialized J'.y.cls, .code J'.y J'.c J'.n J'.r], w ∈ ws0) ∧ J'.y.cls ≠ "java/lang/invoke/MethodHandle" ∧ J'.y.cls ≠ "java/lang/invoke/VarHandle" ∧ (parseMethodDescriptor J'.y.desc).map (fun d => d.parameters.length) = some n
/-- the room of a callee in its caller's -/
def fit (J J' : Mt) : Bool := decide (J'.R.cells = 0) && decide (J'.R.slots = 0) && decide (J'.R.frames + 1 ≤ J.R.frames) && decide (8 + (J'.n + 11) + J'.R.locals ≤ J.R.locals) && decide (J.k ≤ J.R.cells) && decide (J.s ≤ J.R.slots)
theorem sw_behind {J : Mt} {E : ExT} {Z : ZT} {pc : Nat} {L : List (Option Value)} {st : List Value} {Q' : Option Value → Hp → Prop} (k : ∀ (v : Option Value) (h' : Hp), Q' v h' → SW J E Z (pc + 3) L (v.toList ++ st) h')
    {p : Program} {l : Launch} {e : Env} {s : State} {m : MethodId} {args : Array Value} {below : List Frame} {meth : Method} {c : Code} {dC : Nat → ClassId} {dI : Nat → Nat → Nat} {cI cZ cS : ClassId} {ad : Nat → Nat} (F : Fx J E p s m args meth c dC dI cI cZ cS ad) {H : Heap} {locs : List Loc} {ls : Array Slot} {st0 : List Value} {a : Array Value} (hS : va_S (WA ad) s.heap H locs) (hl : lvH ls J.n ad L)
    (hr : va_Run p l e J.R s m args below meth c H locs J.k J.s 0 0 (F0 m pc ls st0) (st.map (trV ad)) (Qg Q' dC dI cI cZ cS ad a) (WA ad)) : W p l e J.R s m args below meth c H locs J.k J.s (Z below args s dC dI cI cZ cS ad) (F0 m pc ls st0) := by
  intro T hT X
  obtain ⟨v, st₀, t, T', L1, h0, X', hL, e1, e2, ⟨⟨v', h', hv, hq, hP', hK', hD', hN'⟩, hz, hk⟩, go⟩ := hr T hT X
  cases hv
  rw [h0] at hz hk
  rw [← e1] at hP' hz hk
  have es : (v'.map (trV ad)).toList ++ st.map (trV ad) = (v'.toList ++ st).map (trV ad) := by cases v' <;> simp
  rw [es] at go
  obtain ⟨t2, a1, b1⟩ := k v' h' hq p l e s m args below meth c dC dI cI cZ cS ad F T'.heap (locs ++ L1) ls hP' (wW_D hD')
    ⟨Nat.le_trans hS.1 hz, fun q h1 h2 => by rw [hk q (Nat.lt_of_lt_of_le h1 hS.1) h2]; exact hS.2.1 q h1 h2, fun q hq => by
      rcases List.mem_append.mp hq with h | h
      · exact hS.2.2 q h
      · exact hL q h⟩ hl T' rfl X'
  exact ⟨t2, go t2 a1, b1⟩
theorem sw_callV {J : Mt} {E : ExT} {Z : ZT} {pc : Nat} {L : List (Option Value)} {st : List Value} {h : Hp} {J' : Mt} {idx n q ci i : Nat} {f : Option Nat} {As : List Value} {stk : List Value} {Q' : Option Value → Hp → Prop} (hC : Ctr J' (.ref q :: As) h Q') (hd : decode J.c pc = .ok (.invokevirtual idx, 3)) (hL : LkV J.y.cls idx n J') (hf : fit J J' = true) (hq : ob q ci i f) (hci : (clsX[ci]?).map (·.1) = some J'.y.cls) (hn : As.length = n) (hs : stk = As.reverse ++ .ref q :: st) (hc : (st.map Value.category).sum ≤ 8)
    (k : ∀ (v : Option Value) (h' : Hp), Q' v h' → SW J E Z (pc + 3) L (v.toList ++ st) h') : SW J E Z pc L stk h := by
  intro p l e s m args below meth c dC dI cI cZ cS ad F H locs ls hP hD hS hl
  subst hs
  simp only [fit, Bool.and_eq_true, decide_eq_true_eq] at hf
  obtain ⟨⟨⟨⟨⟨f1, f2⟩, f3⟩, f4⟩, f5⟩, f6⟩ := hf
  obtain ⟨l1, l2, l3, l4⟩ := hL
  obtain ⟨vs, e1, -, -⟩ := ob_cE hq (cI := cI) (cZ := cZ) (cS := cS) (ad := ad) (h := h)
  have hG : GoodIn ws0 (wsV J.y.cls idx J'.y.cls J'.y (.code J'.y J'.c J'.n J'.r :: ws0)) := ws0_good (fun w hw => by
    unfold wsV at hw
    rcases List.mem_append.mp hw with h | h
    · exact l1 w (by simp only [List.mem_cons, List.not_mem_nil, or_false] at h ⊢; rcases h with h | h | h | h <;> simp [h])
    · rcases List.mem_cons.mp h with h | h
      · exact l1 w (by rw [h]; simp)
      · exact h)
  obtain ⟨r, hr1, hr2⟩ : ∃ r, clsX[ci]? = some r ∧ r.1 = J'.y.cls := by
    cases hz : clsX[ci]? with
    | none => rw [hz] at hci; cases hci
    | some r => rw [hz] at hci; exact ⟨r, rfl, Option.some.inj hci⟩
  have est : ((As.reverse ++ .ref q :: st).map (trV ad)) = (As.map (trV ad)).reverse ++ .ref (ad q) :: st.map (trV ad) := by simp [trV]
  have hsum : ((st.map (trV ad)).map fun v => v.category) = st.map Value.category := by rw [List.map_map]; congr 1; funext v; exact trV_cat ad v
  rw [est]
  have hrecv := va_recv F.2.2.2.2.2.1 hP hr1 e1
  rw [hr2] at hrecv
  refine sw_behind k F hS hl (a := (Value.ref (ad q) :: As.map (trV ad)).toArray) (va_runV (As := As.map (trV ad)) (rest := st.map (trV ad)) ⟨F.1, F.2.1, F.2.2.1, F.2.2.2.1, F.2.2.2.2.1⟩ (hC l dC dI cI cZ cS ad) (cwV n F.2.2.2.2.1 hG rfl f1 f2 ⟨rfl, l2, l3, l4⟩ ⟨f3, f4⟩) ⟨Wld_blind, hrecv, fun U hU hW => ⟨rfl, Wld_moved (by rw [hU]; exact hP) hD F.2.2.2.2.2.1 F.2.2.2.2.2.2.1 hW⟩⟩ rfl (by simpa using hn) hl.1 rfl (lv_room (by rw [hsum]; exact hc)) hd ⟨f5, f6⟩)
theorem sw_callS {J : Mt} {E : ExT} {Z : ZT} {pc : Nat} {L : List (Option Value)} {st : List Value} {h : Hp} {J' : Mt} {idx n : Nat} {As : List Value} {stk : List Value} {Q' : Option Value → Hp → Prop} (hC : Ctr J' As h Q') (hd : decode J.c pc = .ok (.invokestatic idx, 3)) (hL : LkS J.y.cls idx n J') (hf : fit J J' = true) (hn : As.length = n) (hs : stk = As.reverse ++ st) (hc : (st.map Value.category).sum ≤ 8)
    (k : ∀ (v : Option Value) (h' : Hp), Q' v h' → SW J E Z (pc + 3) L (v.toList ++ st) h') : SW J E Z pc L stk h := by
  intro p l e s m args below meth c dC dI cI cZ cS ad F H locs ls hP hD hS hl
  subst hs
  simp only [fit, Bool.and_eq_true, decide_eq_true_eq] at hf
  obtain ⟨⟨⟨⟨⟨f1, f2⟩, f3⟩, f4⟩, f5⟩, f6⟩ := hf
  obtain ⟨l1, l2, l3, l4⟩ := hL
  have hG : GoodIn ws0 (va_wsS J.y.cls idx J'.y (.code J'.y J'.c J'.n J'.r :: ws0)) := ws0_good (fun w hw => by
    unfold va_wsS at hw
    rcases List.mem_append.mp hw with h | h
    · exact l1 w (by simp only [List.mem_cons, List.not_mem_nil, or_false] at h ⊢; rcases h with h | h | h <;> simp [h])
    · rcases List.mem_cons.mp h with h | h
      · exact l1 w (by rw [h]; simp)
      · exact h)
  have est : ((As.reverse ++ st).map (trV ad)) = (As.map (trV ad)).reverse ++ st.map (trV ad) := by simp
  have hsum : ((st.map (trV ad)).map fun v => v.category) = st.map Value.category := by rw [List.map_map]; congr 1; funext v; exact trV_cat ad v
  rw [est]
  refine sw_behind k F hS hl (a := (As.map (trV ad)).toArray) (va_runS (As := As.map (trV ad)) (rest := st.map (trV ad)) ⟨F.1, F.2.1, F.2.2.1, F.2.2.2.1, F.2.2.2.2.1⟩ (hC l dC dI cI cZ cS ad) (va_cwS n F.2.2.2.2.1 hG rfl f1 f2 ⟨l2, l3, l4⟩ ⟨f3, f4⟩) ⟨Wld_blind, fun U hU hW => ⟨rfl, Wld_moved (by rw [hU]; exact hP) hD F.2.2.2.2.2.1 F.2.2.2.2.2.2.1 hW⟩⟩ rfl (by simpa using hn) hl.1 rfl (lv_room (by rw [hsum]; exact hc)) hd ⟨f5, f6⟩)
theorem sw_iret {J : Mt} {E : ExT} {pc : Nat} {L : List (Option Value)} {h : Hp} {Q : Option Value → Hp → Prop} {v : Int32} (hd : decode J.c pc = .ok (.ireturn, 1)) (hr : J.r = some .int) (hk : J.k = 0) (hs : J.s = 0)  (hQ : Q (some (.int v)) h) : SW J E (Zm Q) pc L [.int v] h := by
  intro p l e s m args below meth c dC dI cI cZ cS ad F H locs ls hP hD hS hl
  have hlocks := F.2.2.2.2.2.2.2.1
  rw [hk, hs]
  exact W.iret F.1 F.2.1 (F.2.2.2.2.2.2.2.2.1.trans hr) (fun t ht hW => ⟨⟨_, h, rfl, hQ, Wld_moved (by rw [ht]; exact hP) hD F.2.2.2.2.2.1 F.2.2.2.2.2.2.1 hW⟩, hS.F ht⟩) hS.2.2 hd
theorem sw_zret {J : Mt} {E : ExT} {pc : Nat} {L : List (Option Value)} {h : Hp} {Q : Option Value → Hp → Prop} {v : Int32} (hd : decode J.c pc = .ok (.ireturn, 1)) (hr : J.r = some .boolean) (hk : J.k = 0) (hs : J.s = 0) (hn : narrow .boolean (.int v) = .int v) (hQ : Q (some (.int v)) h) : SW J E (Zm Q) pc L [.int v] h := by
  intro p l e s m args below meth c dC dI cI cZ cS ad F H locs ls hP hD hS hl
  have hlocks := F.2.2.2.2.2.2.2.1
  rw [hk, hs]
  exact W.zret F.1 F.2.1 (F.2.2.2.2.2.2.2.2.1.trans hr) hn (fun t ht hW => ⟨⟨_, h, rfl, hQ, Wld_moved (by rw [ht]; exact hP) hD F.2.2.2.2.2.1 F.2.2.2.2.2.2.1 hW⟩, hS.F ht⟩) hS.2.2 hd
theorem sw_vret {J : Mt} {E : ExT} {pc : Nat} {L : List (Option Value)} {h : Hp} {Q : Option Value → Hp → Prop}  (hd : decode J.c pc = .ok (.return_, 1)) (hr : J.r = none) (hk : J.k = 0) (hs : J.s = 0)  (hQ : Q (none) h) : SW J E (Zm Q) pc L [] h := by
  intro p l e s m args below meth c dC dI cI cZ cS ad F H locs ls hP hD hS hl
  have hlocks := F.2.2.2.2.2.2.2.1
  rw [hk, hs]
  exact W.vret F.1 F.2.1 (F.2.2.2.2.2.2.2.2.1.trans hr) (fun t ht hW => ⟨⟨_, h, rfl, hQ, Wld_moved (by rw [ht]; exact hP) hD F.2.2.2.2.2.1 F.2.2.2.2.2.2.1 hW⟩, hS.F ht⟩) hS.2.2 hd
