set_option maxHeartbeats 16000000 in
set_option maxRecDepth 100000 in
theorem law_known {p : Program} {s : State} {m : MethodId} {meth : Method} {c : Code} {b L : Nat} {xs : Nat → Int32} (C0 : lw_At p s m meth c b L xs) : ∃ (D : va_G) (cs : Nat → ClassId), va_K D vwCl (k_tys cs) s ∧ k_N s ∧ va_AO "LeastNeed$Valley" s := by
  obtain ⟨hx, hb, hr, hml, hown, hts, hX, hbl, hlocks, hgv⟩ := C0
  obtain ⟨c0, i0, hK0⟩ := u_known (C := RX0) (T := TX0) (N := 5) (n := 5) hts inX0 (hts (.instantiable RX0 5) (by decide +kernel))
  obtain ⟨c1, i1, hK1⟩ := u_known (C := RX2) (T := TX2) (N := 6) (n := 6) hts inX2 (hts (.instantiable RX2 6) (by decide +kernel))
  obtain ⟨c2, i2, hK2⟩ := u_known (C := RX3) (T := TX3) (N := 4) (n := 4) hts inX3 (hts (.instantiable RX3 4) (by decide +kernel))
  obtain ⟨c3, i3, hK3⟩ := u_known (C := RX5) (T := TX5) (N := 15) (n := 15) hts inX5 (hts (.instantiable RX5 15) (by decide +kernel))
  obtain ⟨c4, i4, hK4⟩ := u_known (C := RX6) (T := TX6) (N := 12) (n := 12) hts inX6 (hts (.instantiable RX6 12) (by decide +kernel))
  obtain ⟨c5, i5, hK5⟩ := u_known (C := RX7) (T := TX7) (N := 25) (n := 25) hts inX7 (hts (.instantiable RX7 25) (by decide +kernel))
  have hKc : ∃ (dC : Nat → ClassId) (dI : Nat → Nat → Nat), ∀ (k : Nat) (q : vw_C), vwCl[k]? = some q → u_Kn s q.1 q.2.1 q.2.2 (dC k) (dI k) := by
    refine ⟨fun k => if k = 0 then c0 else if k = 1 then c1 else if k = 2 then c2 else if k = 3 then c3 else if k = 4 then c4 else c5, fun k => if k = 0 then i0 else if k = 1 then i1 else if k = 2 then i2 else if k = 3 then i3 else if k = 4 then i4 else i5, ?_⟩
    intro k q hq
    match k, hq with
    | 0, hq => cases hq; exact hK0
    | 1, hq => cases hq; exact hK1
    | 2, hq => cases hq; exact hK2
    | 3, hq => cases hq; exact hK3
    | 4, hq => cases hq; exact hK4
    | 5, hq => cases hq; exact hK5
    | k + 6, hq => simp [vwCl] at hq
  obtain ⟨dC, dI, hKc⟩ := hKc
  obtain ⟨aC, kC, pC, fC, gC, hC⟩ := Cond.arrayClass_spec (type := .char) (show (Cond.arrayClass .char).holds #[Value.ref b] s none s [] = true from hts (.arrayClass .char) (by decide +kernel))
  obtain ⟨aI, kI, pI, fI, gI, hI⟩ := Cond.arrayClass_spec (type := .int) (show (Cond.arrayClass .int).holds #[Value.ref b] s none s [] = true from hts (.arrayClass .int) (by decide +kernel))
  obtain ⟨aJ, kJ, pJ, fJ, gJ, hJ⟩ := Cond.arrayClass_spec (type := .long) (show (Cond.arrayClass .long).holds #[Value.ref b] s none s [] = true from hts (.arrayClass .long) (by decide +kernel))
  obtain ⟨aZ, kZ, pZ, fZ, gZ, hZ⟩ := Cond.arrayClass_spec (type := .boolean) (show (Cond.arrayClass .boolean).holds #[Value.ref b] s none s [] = true from hts (.arrayClass .boolean) (by decide +kernel))
  have hO : va_AO "LeastNeed$Valley" s := va_AO.of (hts (.arrayOver (.object "LeastNeed$Valley")) (by decide +kernel))
  obtain ⟨pV, aV, kV, f1, _, f3, f4, f5⟩ := Cond.arrayOver_spec (show (Cond.arrayOver (.object "LeastNeed$Valley")).holds #[] s none s [] = true from hO)
  refine ⟨(dC, dI), fun k => if k = 0 then aC else if k = 1 then aI else if k = 2 then aJ else if k = 3 then aZ else aV, ⟨hKc, fun k q hq => ?_⟩, ?_, hO⟩
  · match k, hq with
    | 0, hq => cases hq; exact ⟨fun n z => ⟨fun k h => (by cases h), kC, gC, pC, hC⟩, fC⟩
    | 1, hq => cases hq; exact ⟨fun n z => ⟨fun k h => (by cases h), kI, gI, pI, hI⟩, fI⟩
    | 2, hq => cases hq; exact ⟨fun n z => ⟨fun k h => (by cases h), kJ, gJ, pJ, hJ⟩, fJ⟩
    | 3, hq => cases hq; exact ⟨fun n z => ⟨fun k h => (by cases h), kZ, gZ, pZ, hZ⟩, fZ⟩
    | 4, hq => cases hq; exact ⟨fun n z => ⟨fun k h => (by cases h), kV, f3, pV, f4⟩, kV, pV, f3, f4, f1, f5⟩
    | k + 5, hq => simp at hq
  · exact ⟨va_Nw.of rfl (hts (.methodLinkNest RX3 29 yX6_copyRow "LeastNeed") (by decide +kernel)), va_Nw.of rfl (hts (.methodLinkNest RX5 67 yX6_copyRow "LeastNeed") (by decide +kernel)), va_Nw.of rfl (hts (.methodLinkNest RX6 11 yX5_init "LeastNeed") (by decide +kernel)), va_Nw.of rfl (hts (.methodLinkNest RX6 29 yX2_init "LeastNeed") (by decide +kernel)), va_Nw.of rfl (hts (.methodLinkNest RX6 36 yX0_init "LeastNeed") (by decide +kernel))⟩
