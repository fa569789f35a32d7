/-! THE LAW: its rows -/
abbrev jL_law : Mt := (yL_law, cL_law, 4, ret, room_1, 43, 2292)
def EL (M : Nat) (xs : Nat → Int32) : ExT := fun s args ad => args = #[.ref (ad 99)] ∧ va_X (ad 99) M xs s s.heap ∧ ad 99 < s.heap.size ∧ ∀ k, k < 43 → s.heap.size ≤ ad k
def ZL : ZT := fun below args s _ _ _ _ _ _ => lw_Z below args s
abbrev LL4 (t : Nat) : List (Option Value) := [some (.ref 99), some (.ref 0), some (.ref 28), some (.int (nI (6 * t)))]
theorem EL_off {M : Nat} {xs : Nat → Int32} {s : State} {args : Array Value} {ad : Nat → Nat} (h : EL M xs s args ad) : ¬ WA ad (ad 99) := by
  rintro ⟨k, hk, e⟩
  have h1 := h.2.2.1
  have h2 := h.2.2.2 k hk
  omega
theorem sw_slen {M : Nat} {xs : Nat → Int32} {Z : ZT} {pc : Nat} {L : List (Option Value)} {st : List Value} {h : Hp} (hd : decode jL_law.c pc = .ok (.arraylength, 1)) (k : SW jL_law (EL M xs) Z (pc + 1) L (.int (nI M) :: st) h) : SW jL_law (EL M xs) Z pc L (.ref 99 :: st) h := by
  intro p l e s m args below meth c dC dI cI cZ cS ad F H locs ls hP hD hS hl
  have hE := F.2.2.2.2.2.2.2.2.2
  exact va_slen F.1 F.2.1 hE.2.1 hE.2.2.1 (EL_off hE) hS hd (k p l e s m args below meth c dC dI cI cZ cS ad F H locs ls hP hD hS hl)
theorem sw_sld {M : Nat} {xs : Nat → Int32} {Z : ZT} {pc n : Nat} {L : List (Option Value)} {st : List Value} {h : Hp} (hd : decode jL_law.c pc = .ok (.iaload, 1)) (hM : M ≤ 3072) (hn : n < M) (k : SW jL_law (EL M xs) Z (pc + 1) L (.int (xs n) :: st) h) : SW jL_law (EL M xs) Z pc L (.int (nI n) :: .ref 99 :: st) h := by
  intro p l e s m args below meth c dC dI cI cZ cS ad F H locs ls hP hD hS hl
  have hE := F.2.2.2.2.2.2.2.2.2
  refine va_sld F.1 F.2.1 hE.2.1 hE.2.2.1 (EL_off hE) hS (vp_in_nI hn (by omega)) hd ?_
  rw [nI_clamp (by omega)]
  exact k p l e s m args below meth c dC dI cI cZ cS ad F H locs ls hP hD hS hl
theorem sw_lret {M : Nat} {xs : Nat → Int32} {pc : Nat} {L : List (Option Value)} {h : Hp} (hd : decode jL_law.c pc = .ok (.ireturn, 1)) : SW jL_law (EL M xs) ZL pc L [.int (nI 1)] h := by
  intro p l e s m args below meth c dC dI cI cZ cS ad F H locs ls hP hD hS hl
  have hE := F.2.2.2.2.2.2.2.2.2
  obtain ⟨rfl, -, -, h4⟩ := hE
  refine W.widen (k := 600000) (n := 7302250) (by decide) (by decide) ?_
  refine va_forget (fun q hq => ?_) ?_
  · obtain ⟨k, hk, e⟩ := hS.2.2 q hq
    rw [e]
    exact h4 k hk
  · exact lw_ret F.1 F.2.1 F.2.2.2.2.2.2.2.2.1 F.2.2.2.2.2.2.2.1 hd
theorem and31 (x : Int32) : ∃ v, v < 32 ∧ x &&& nI 31 = nI v := by
  have e : x = nI x.toBitVec.toNat := Int32.toBitVec_inj.mp (by unfold nI; simp)
  refine ⟨x.toBitVec.toNat &&& 31, ?_, ?_⟩
  · exact Nat.and_lt_two_pow (n := 5) _ (by decide)
  · rw [← fa_and, ← e]
