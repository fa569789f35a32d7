/-! draw -/
theorem fau_sh {h : Hp} {k s : Nat} (hcell : ∀ i, i < 64 → h (24 + k) i = h 42 (64 * k + i)) (hs : s ≤ 64) (f kd m : Nat) : fau (fun i => h 42 (64 * k + i)) s f kd 0 m = fau (h (24 + k)) s f kd 0 m := fau_cong (fun i hi => (hcell i (by omega)).symm) m 0
theorem okv0 {v : Int32} (q : okv 0 v = true) : ∃ u, u ≤ 1000 ∧ v = nI u := rg_nat2 (z := 1000) (by decide) q
theorem b_draw (c kd a l f : Int32) : Both jX4_draw jX5_draw [.int c, .int kd, .int a, .int l, .int f] := by
  intro h K hK hI
  have hI0 := hI
  obtain ⟨n, z, sm, lf, r, I⟩ := hI
  have I' := I
  obtain ⟨i1, iT, iM, iW, iS, iC, iR, iH⟩ := I'
  have hz8 := iT.1.2.1
  by_cases ok : rg 0 ((z : Int) - 1) c = true ∧ rg 0 1 kd = true ∧ rg 0 3 a = true ∧ rg 0 2 l = true
  · obtain ⟨o1, o2, o3, o4⟩ := ok
    obtain ⟨c, hc, rfl⟩ := rg_nat (by omega) o1
    obtain ⟨kd, hkd, rfl⟩ := rg_nat2 (z := 1) (by decide) o2
    obtain ⟨k, hk, rfl⟩ := rg_nat2 (z := 3) (by decide) o3
    obtain ⟨l, hl, rfl⟩ := rg_nat2 (z := 2) (by decide) o4
    clear o1 o2 o3 o4
    have hk4 : k < 4 := by omega
    have hp := pow3 (iT.2.1 c hc).2.2.2
    have hp1 : 1 ≤ 2 ^ pop (sm c) := Nat.two_pow_pos _
    obtain ⟨hl2, hcell⟩ := iH k hk4
    rcases hl2 with ⟨x1, m1⟩ | ⟨l2, s, hl3, hs64, x1, m1, x2, m2⟩
    · exact ⟨-11, x_draw iT (s := 0) hc (by omega) hk4 (by omega) (by omega) (fun q => absurd x1 q) (fun _ => ⟨rfl, m_draw iM (s := 0) hc (by omega) hk4 (by omega) (by omega) (fun q => absurd m1 q) (fun _ => ⟨rfl, hI0.up⟩) (fun q => absurd m1 q) (fun q => absurd (m1.symm.trans q).symm (l4_ne (by omega))) (fun _ q => absurd (m1.symm.trans q).symm (l4_ne (by omega))) (fun _ q => absurd (m1.symm.trans q).symm (l4_ne (by omega)))⟩) (fun q => absurd x1 q) (fun q => absurd (x1.symm.trans q).symm (l1_ne (by omega))) (fun _ q => absurd (x1.symm.trans q).symm (l1_ne (by omega))) (fun _ q => absurd (x1.symm.trans q).symm (l1_ne (by omega)))⟩
    · have nx : ¬ h (20 + k) 1 = -1 := by rw [x1]; exact l1_ne hl3
      have nm : ¬ h 40 k = -4 := by rw [m1]; exact l4_ne (by omega)
      by_cases el : l2 = l
      · subst el
        cases hb : rg 0 ((s : Int) - 1) f with
        | false =>
          refine ⟨-12, x_draw iT (s := s) hc (by omega) hk4 (by omega) hs64 (fun _ => x2) (fun q => absurd q nx) (fun _ q => absurd x1 q) (fun _ _ => ⟨rfl, m_draw iM (s := s) hc (by omega) hk4 (by omega) hs64 (fun _ => m2) (fun q => absurd q nm) (fun _ q => absurd m1 q) (fun _ _ => ⟨rfl, hI0.up⟩) (fun f' _ hf' ef => ?_) (fun f' _ hf' ef => ?_)⟩) (fun f' _ hf' ef => ?_) (fun f' _ hf' ef => ?_)⟩
          all_goals
            rw [ef, rg_nI (by omega) hf'] at hb
            exact absurd hb (by decide)
        | true =>
          obtain ⟨f, hf, rfl⟩ := rg_nat (by omega) hb
          have fs := fau_sh hcell hs64 f kd (2 ^ pop (sm c))
          have ff : ∀ f', f' < s → nI f = nI f' → f = f' := fun f' hf' e => (nI_eq (by omega) (by omega)).mp e
          by_cases hF : fau (h (24 + k)) s f kd 0 (2 ^ pop (sm c)) = 0
          · refine ⟨nI 1, x_draw iT (s := s) hc (by omega) hk4 (by omega) hs64 (fun _ => x2) (fun q => absurd q nx) (fun _ q => absurd x1 q) (fun _ q => absurd (hb.symm.trans q) (by decide)) (fun f' _ hf' ef q => absurd (by rw [ff f' hf' ef] at hF; exact hF) q) (fun f' _ hf' ef _ g hg0 hg1 => ?_)⟩
            obtain rfl := ff f' hf' ef
            have hok := fau_0 _ 0 (by omega) hF
            refine ⟨rfl, ?_⟩
            have eg : ∀ q, q ≠ 1 → q ≠ 4 → q ≠ 5 → g q = h q := fun q h1 h4 h5 => by
              rcases (show kd = 0 ∨ kd = 1 by omega) with rfl | rfl
              · exact (hg0 rfl).1 q h1 h4
              · exact (hg1 rfl).1 q h5
            have iM' : TM g n z sm := TM_keep iM (by rw [eg 28 (by decide) (by decide) (by decide)]) (by rw [eg 28 (by decide) (by decide) (by decide)]) (eg 29 (by decide) (by decide) (by decide))
            have e40 := eg 40 (by decide) (by decide) (by decide)
            have e41 := eg 41 (by decide) (by decide) (by decide)
            have e42 := eg 42 (by decide) (by decide) (by decide)
            refine m_draw iM' (s := s) hc (by omega) hk4 (by omega) hs64 (fun _ => by rw [e41]; exact m2) (fun q => absurd q (by rw [e40]; exact nm)) (fun _ q => absurd m1 (by rw [e40] at q; exact q)) (fun _ q => absurd (hb.symm.trans q) (by decide)) (fun f' _ hf' ef q => absurd (by rw [e42, fs.symm.trans (by rw [ff f' hf' ef])] at *; exact hF) q) (fun f' _ hf' ef _ e hD => ?_)
            obtain rfl := ff f' hf' ef
            refine ⟨rfl, ?_⟩
            rw [e42] at hD
            have hgl : ∀ i, drw (fun i => h 42 (64 * k + i)) (g (31 + kd)) c f (2 ^ pop (sm c)) i = drw (h (24 + k)) (h (31 + kd)) c f (2 ^ pop (sm c)) i := fun i => by
              rw [eg (31 + kd) (by omega) (by omega) (by omega)]
              unfold drw
              by_cases w : 8 * c ≤ i ∧ i < 8 * c + 2 ^ pop (sm c)
              · rw [if_pos w, if_pos w]
                have := hok (i - 8 * c) (Nat.zero_le _) (by omega)
                exact (hcell _ (by omega)).symm
              · rw [if_neg w, if_neg w]
            rcases (show kd = 0 ∨ kd = 1 by omega) with rfl | rfl
            · obtain ⟨d1, d2, d3, d4⟩ := hg0 rfl
              have ef1 : ∀ q, q ≠ 31 → e q = g q := fun q hq => hD.1 q hq
              have e31 : ∀ i, e 31 i = drw (h (24 + k)) (h 31) c f (2 ^ pop (sm c)) i := fun i => (hD.2 i).trans (hgl i)
              have efg : ∀ q, q ≠ 1 → q ≠ 4 → q ≠ 31 → e q = h q := fun q h1 h4 h3 => by rw [ef1 q h3, d1 q h1 h4]
              refine ⟨n, z, sm, fun i => if 8 * c ≤ i ∧ i < 8 * c + 2 ^ pop (sm c) then (h (24 + k) (f + (i - 8 * c))).toNatClampNeg else lf i, r, i1, ⟨⟨iT.1.1, hz8, by rw [ef1 1 (by decide), d2 0 (by decide)]; exact iT.1.2.2.1, by rw [ef1 1 (by decide), d2 1 (by decide)]; exact iT.1.2.2.2⟩, by rw [efg 2 (by decide) (by decide) (by decide)]; exact iT.2.1, by rw [efg 7 (by decide) (by decide) (by decide)]; exact iT.2.2.1, by rw [efg 6 (by decide) (by decide) (by decide)]; exact iT.2.2.2⟩, TM_keep iM (by rw [efg 28 (by decide) (by decide) (by decide)]) (by rw [efg 28 (by decide) (by decide) (by decide)]) (efg 29 (by decide) (by decide) (by decide)), ⟨fun q hq => ?_, fun c' j' hc' h1 h2 => ?_⟩, ?_, CK_new (d := 2 ^ pop (sm c)) iC hK hp1 hp (by rw [ef1 1 (by decide)]; exact d3) (by rw [efg 10 (by decide) (by decide) (by decide)]), RI_eq (fun q q1 q2 => efg q (by omega) (by omega) (by omega)) (fun q q1 q2 => efg q (by omega) (by omega) (by omega)) (by rw [efg 28 (by decide) (by decide) (by decide)]) iR, SH_eq (fun q q1 q2 => efg q (by omega) (by omega) (by omega)) (fun q q1 q2 => efg q (by omega) (by omega) (by omega)) iH⟩
              · rw [ef1 4 (by decide), d4, e31]
                unfold drw
                dsimp only
                by_cases w : 8 * c ≤ q ∧ q < 8 * c + 2 ^ pop (sm c)
                · rw [if_pos w, if_pos w, if_pos w]
                  obtain ⟨u, hu, eu⟩ := okv0 (hok (q - 8 * c) (Nat.zero_le _) (by omega)).2
                  rw [eu, nI_clamp (by omega)]
                  exact ⟨rfl, rfl, hu⟩
                · rw [if_neg w, if_neg w, if_neg w]
                  exact iW.1 q hq
              · have w : ¬ (8 * c ≤ 8 * c' + j' ∧ 8 * c' + j' < 8 * c + 2 ^ pop (sm c)) := fun w => by
                  obtain rfl : c' = c := by omega
                  omega
                show (if 8 * c ≤ 8 * c' + j' ∧ 8 * c' + j' < 8 * c + 2 ^ pop (sm c) then _ else lf (8 * c' + j')) = 0
                rw [if_neg w]
                exact iW.2 c' j' hc' h1 h2
              · unfold SP at iS ⊢
                rw [efg 5 (by decide) (by decide) (by decide), efg 32 (by decide) (by decide) (by decide), efg 3 (by decide) (by decide) (by decide), efg 30 (by decide) (by decide) (by decide)]
                exact iS
            · obtain ⟨d1, d2⟩ := hg1 rfl
              have e32 : ∀ i, e 32 i = drw (h (24 + k)) (h 32) c f (2 ^ pop (sm c)) i := fun i => (hD.2 i).trans (hgl i)
              have efg : ∀ q, q ≠ 5 → q ≠ 32 → e q = h q := fun q h1 h2 => (hD.1 q h2).trans (d1 q h1)
              refine ⟨n, z, sm, lf, r, I0_sp I (fun q _ h5 _ h2 => efg q h5 h2) ⟨fun q hq => ?_, ?_⟩⟩
              · rw [e32, hD.1 5 (by decide), d2]
                unfold drw
                rw [iS.1 q hq]
              · rw [efg 3 (by decide) (by decide), efg 30 (by decide) (by decide)]
                exact iS.2
          · refine ⟨fau (h (24 + k)) s f kd 0 (2 ^ pop (sm c)), x_draw iT (s := s) hc (by omega) hk4 (by omega) hs64 (fun _ => x2) (fun q => absurd q nx) (fun _ q => absurd x1 q) (fun _ q => absurd (hb.symm.trans q) (by decide)) (fun f' _ hf' ef _ => ?_) (fun f' _ hf' ef q => absurd (by rw [← ff f' hf' ef] at q; exact q) hF)⟩
            obtain rfl := ff f' hf' ef
            refine ⟨rfl, m_draw iM (s := s) hc (by omega) hk4 (by omega) hs64 (fun _ => m2) (fun q => absurd q nm) (fun _ q => absurd m1 q) (fun _ q => absurd (hb.symm.trans q) (by decide)) (fun f' _ hf' ef _ => ?_) (fun f' _ hf' ef q => absurd (by rw [← ff f' hf' ef, fs] at q; exact q) hF)⟩
            obtain rfl := ff f' hf' ef
            exact ⟨by rw [fs], hI0.up⟩
      · have nl : ¬ nI l2 = nI l := fun q => el ((nI_eq (by omega) (by omega)).mp q)
        exact ⟨-13, x_draw iT (s := s) hc (by omega) hk4 (by omega) hs64 (fun _ => x2) (fun q => absurd q nx) (fun _ _ => ⟨rfl, m_draw iM (s := s) hc (by omega) hk4 (by omega) hs64 (fun _ => m2) (fun q => absurd q nm) (fun _ _ => ⟨rfl, hI0.up⟩) (fun q => absurd (m1.symm.trans q) nl) (fun _ q => absurd (m1.symm.trans q) nl) (fun _ q => absurd (m1.symm.trans q) nl)⟩) (fun q => absurd (x1.symm.trans q) nl) (fun _ q => absurd (x1.symm.trans q) nl) (fun _ q => absurd (x1.symm.trans q) nl)⟩
  · exact ⟨-1, x_draw_bad iT ok ⟨rfl, m_draw_bad iM ok ⟨rfl, hI0.up⟩⟩⟩
