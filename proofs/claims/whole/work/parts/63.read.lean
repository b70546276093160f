/-! a valley is read -/
theorem it_inv2 {σ ρ τ π : Type} {f : σ → Option (σ ⊕ ρ)} {g : τ → Option (τ ⊕ π)} {Post : ρ → π → Prop} (Inv : Nat → σ → τ → Prop) (N : Nat) (hN : N < 1000) (hs : ∀ i st st', i < N → Inv i st st' → (∃ s1 s2, f st = some (.inl s1) ∧ g st' = some (.inl s2) ∧ Inv (i + 1) s1 s2) ∨ ∃ x y, f st = some (.inr x) ∧ g st' = some (.inr y) ∧ Post x y) (hx : ∀ st st', Inv N st st' → ∃ x y, f st = some (.inr x) ∧ g st' = some (.inr y) ∧ Post x y) {st0 : σ} {st1 : τ} (h0 : Inv 0 st0 st1) : ∃ x y, k_it f 1000 st0 = some x ∧ k_it g 1000 st1 = some y ∧ Post x y := by
  have key : ∀ (j i fuel : Nat) (st : σ) (st' : τ), i + j = N → j < fuel → Inv i st st' → ∃ x y, k_it f fuel st = some x ∧ k_it g fuel st' = some y ∧ Post x y := by
    intro j
    induction j with
    | zero =>
      intro i fuel st st' h1 h2 h3
      obtain ⟨fu, rfl⟩ : ∃ fu, fuel = fu + 1 := ⟨fuel - 1, by omega⟩
      have e : i = N := by omega
      subst e
      obtain ⟨x, y, hx1, hx2, hx3⟩ := hx st st' h3
      exact ⟨x, y, by rw [k_it, hx1], by rw [k_it, hx2], hx3⟩
    | succ j ih =>
      intro i fuel st st' h1 h2 h3
      obtain ⟨fu, rfl⟩ : ∃ fu, fuel = fu + 1 := ⟨fuel - 1, by omega⟩
      rcases hs i st st' (by omega) h3 with ⟨s1, s2, e1, e2, e3⟩ | ⟨x, y, e1, e2, e3⟩
      · obtain ⟨x, y, hx1, hx2, hx3⟩ := ih (i + 1) fu s1 s2 (by omega) (by omega) e3
        exact ⟨x, y, by rw [k_it, e1]; exact hx1, by rw [k_it, e2]; exact hx2, hx3⟩
      · exact ⟨x, y, by rw [k_it, e1], by rw [k_it, e2], e3⟩
  exact key N 0 1000 st0 st1 (by omega) hN h0
theorem neg_fault {a : Nat} (h : a ≤ 150) : (-10 : Int32) - nI a < 0 := by
  have hh : ∀ a : Fin 151, (-10 : Int32) - nI a.val < 0 := by decide +kernel
  exact hh ⟨a, by omega⟩
/-- what both readings end with -/
def rdP (C : Nat → Int32) (len : Nat) (T : Nat → Nat → Int32) (o : Int32 × (Nat → Nat → Int32) × (Nat → Nat → Int32)) (o' : Int32 × (Nat → Nat → Int32)) : Prop := o.1 = o'.1 ∧ o.2.1 1 = C ∧ o.2.1 0 2 = nI len ∧ o'.2 0 18 = nI len ∧ (∀ c, c ≠ 0 → c ≠ 1 → c ≠ 5 → c ≠ 17 → c ≠ 18 → o'.2 c = T c) ∧ ((o.1 < 0 ∧ o'.2 1 = T 1) ∨ (¬ o.1 < 0 ∧ ∃ n m d : Nat, vr o.2.2 (o'.2 1) n m 0 0 0 d 9999))
theorem rdP_fault {C : Nat → Int32} {len q : Nat} {S V T T' : Nat → Nat → Int32} (hl : len ≤ 150) (hq : q ≤ len) (hc : cT S C len q) (hr : rT T' C len q) (hf : ∀ c, c ≠ 0 → c ≠ 5 → c ≠ 17 → c ≠ 18 → T' c = T c) : rdP C len T ((-10 : Int32) - S 0 4, S, V) ((-10 : Int32) - T' 0 19, T') := by
  have e1 : S 0 4 = nI (atF C len q) := hc.2.2.2.1
  have e2 : T' 0 19 = nI (atF C len q) := hr.2.2.1
  have ha := (at_le C hq).2
  refine ⟨by show (-10 : Int32) - S 0 4 = (-10 : Int32) - T' 0 19; rw [e1, e2], hc.1, hc.2.1, hr.1, fun c c0 c1 c5 c17 c18 => hf c c0 c5 c17 c18, Or.inl ⟨?_, hf 1 (by decide) (by decide) (by decide) (by decide)⟩⟩
  show (-10 : Int32) - S 0 4 < 0
  rw [e1]
  exact neg_fault (by omega)
theorem vr_row {V : Nat → Nat → Int32} {t t' : Nat → Int32} {n m d dm : Nat} (ht : ∀ j, j < 140 → t' j = t j) (h : vr V t n m 0 0 0 d dm) : vr V t' n m 0 0 0 d dm := by
  obtain ⟨h1, h2, h3, h4, h5, h6, h7, h8, h9, h10⟩ := h
  obtain ⟨b1, b2, b3, b4, b5, b6⟩ := h2
  refine ⟨?_, ⟨b1, b2, b3, b4, b5, b6⟩, h3, ?_, ?_, ?_, fun j hj => absurd hj (by omega), fun j hj => absurd hj (by omega), fun j hj => absurd hj (by omega), fun j hj => absurd hj (by omega)⟩
  · rw [ht 0 (by decide), ht 1 (by decide), ht 2 (by decide), ht 3 (by decide), ht 4 (by decide), ht 22 (by decide)]; exact h1
  · intro p hp
    rw [ht (23 + p) (by omega), ht (30 + p) (by omega), ht (15 + p) (by omega)]; exact h4 p hp
  · intro j hj
    rw [ht (37 + j) (by omega)]; exact h5 j hj
  · intro k hk
    rw [ht (65 + k) (by omega), ht (70 + k) (by omega), ht (75 + k) (by omega), ht (5 + k) (by omega), ht (10 + k) (by omega)]; exact h6 k hk
/-- what holds of both loops -/
def rdI (C : Nat → Int32) (len : Nat) (T : Nat → Nat → Int32) (i : Nat) (st : Int32 × (Nat → Nat → Int32) × (Nat → Nat → Int32)) (st' : Int32 × (Nat → Nat → Int32)) : Prop := st.1 = nI (i + 1) ∧ st'.1 = nI (i + 1) ∧ (∀ c, c ≠ 0 → c ≠ 5 → c ≠ 17 → c ≠ 18 → st'.2 c = T c) ∧ ∃ p n m d : Nat, p ≤ len ∧ 2 * (i + 1) ≤ p ∧ cT st.2.1 C len p ∧ rT st'.2 C len p ∧ vr st.2.2 (st'.2 17) n m 0 0 0 d 9999 ∧ d ≤ 99 * i
/-- behind an item -/
theorem item_next {C : Nat → Int32} {len p d i : Nat} {T R : Nat → Nat → Int32} {M : Nat → Nat → Int64} (hl : len ≤ 150) (hp : p ≤ len) (hi : 2 * (i + 1) ≤ p) (hd : d ≤ 99 * i) (hf : ∀ c, c ≠ 0 → c ≠ 5 → c ≠ 17 → c ≠ 18 → R c = T c) {o : Int32 × (Nat → Nat → Int32) × (Nat → Nat → Int32)} {o' : Int32 × (Nat → Nat → Int32)} (h : itP C len p d R o o') : (∃ s1 s2, nX2_tell_i39_j143 (nI (i + 1)) o.1 o.2.1 o.2.2 = some (.inl s1) ∧ (if o'.1 = 0 then k_up (some (((-10 : Int32) - (o'.2 0 19)), o'.2)) else if (o'.2 0 21) = (3 : Int32) then k_b1 (nX7_goBehind o'.2 M) (fun S98 => some (.inl ((nI (i + 1) + (1 : Int32)), S98))) else k_up (some (((-10 : Int32) - (o'.2 0 19)), o'.2))) = (some (.inl s2) : Option ((Int32 × (Nat → Nat → Int32)) ⊕ (Int32 × (Nat → Nat → Int32)))) ∧ rdI C len T (i + 1) s1 s2) ∨ (∃ x y, nX2_tell_i39_j143 (nI (i + 1)) o.1 o.2.1 o.2.2 = some (.inr x) ∧ (if o'.1 = 0 then k_up (some (((-10 : Int32) - (o'.2 0 19)), o'.2)) else if (o'.2 0 21) = (3 : Int32) then k_b1 (nX7_goBehind o'.2 M) (fun S98 => some (.inl ((nI (i + 1) + (1 : Int32)), S98))) else k_up (some (((-10 : Int32) - (o'.2 0 19)), o'.2))) = (some (.inr y) : Option ((Int32 × (Nat → Nat → Int32)) ⊕ (Int32 × (Nat → Nat → Int32)))) ∧ rdP C len T x y) := by
  obtain ⟨r, S1, V1⟩ := o
  obtain ⟨r', R1⟩ := o'
  obtain ⟨h1, h2⟩ := h
  have h1 : ∀ c, c ≠ 0 → c ≠ 5 → c ≠ 17 → c ≠ 18 → R1 c = R c := h1
  have hf1 : ∀ c, c ≠ 0 → c ≠ 5 → c ≠ 17 → c ≠ 18 → R1 c = T c := fun c a b e f => (h1 c a b e f).trans (hf c a b e f)
  rcases h2 with ⟨q1, ⟨q, q2, q3, q4⟩, q5⟩ | ⟨q1, q2, q, q3, q4, q5, q6, q7, n, m, d', q8, q9⟩
  · right
    have q1 : r = 0 := q1
    have q3 : cT S1 C len q := q3
    have q4 : rT R1 C len q := q4
    refine ⟨((-10 : Int32) - S1 0 4, S1, V1), ((-10 : Int32) - R1 0 19, R1), ?_, ?_, rdP_fault hl q2 q3 q4 hf1⟩
    · show nX2_tell_i39_j143 (nI (i + 1)) r S1 V1 = _
      unfold nX2_tell_i39_j143
      rw [q1, if_pos rfl]; rfl
    · rcases q5 with g | ⟨g, g'⟩
      · rw [if_pos g]; rfl
      · rw [if_neg (by rw [g]; decide), if_neg g']; rfl
  · left
    have q1 : r = 1 := q1
    have q2 : r' = 1 := q2
    have q5 : rT R1 C len q := q5
    have q7 : cT S1 C len (enF C len q) := q7
    have q8 : vr V1 (R1 17) n m 0 0 0 d' 9999 := q8
    obtain ⟨R2, g1, g2, g3⟩ := X7_goBehind_spec (M := M) hl q4 q5
    have he := enF_le C q4
    have he3 := he.2.2 (by omega)
    refine ⟨(nI (i + 1 + 1), S1, V1), (nI (i + 1 + 1), R2), ?_, ?_, rfl, rfl, fun c a b e f => (g2 c a).trans (hf1 c a b e f), enF C len q, n, m, d', he.2.1, by omega, q7, g3, ?_, by omega⟩
    · show nX2_tell_i39_j143 (nI (i + 1)) r S1 V1 = _
      unfold nX2_tell_i39_j143
      rw [q1, if_neg (by decide), nI_1]
    · have h21 : R1 0 21 = 3 := by
        have := q5.2.2.2.2.1
        rw [this, q6]; rfl
      refine (if_neg (show ¬ r' = 0 by rw [q2]; decide)).trans ((if_pos h21).trans ?_)
      show k_b1 (nX7_goBehind R1 M) _ = _
      rw [g1, b1_some, nI_1]
    · show vr V1 (R2 17) n m 0 0 0 d' 9999
      rw [g2 17 (by decide)]; exact q8
theorem wrap01 {r : Int32} {R : Nat → Nat → Int32} (h : r = 0 ∨ r = 1) : (if ¬ (r = 0 ∨ r = 1) then (none : Option (Int32 × (Nat → Nat → Int32))) else some (r, R)) = some (r, R) := if_neg (fun q => q h)
theorem itP_01 {C : Nat → Int32} {len p d : Nat} {T : Nat → Nat → Int32} {o : Int32 × (Nat → Nat → Int32) × (Nat → Nat → Int32)} {o' : Int32 × (Nat → Nat → Int32)} (h : itP C len p d T o o') : o'.1 = 0 ∨ o'.1 = 1 := by
  rcases h.2 with ⟨-, -, q | q⟩ | ⟨-, q, -⟩
  · exact Or.inl q
  · exact Or.inr q.1
  · exact Or.inr q
theorem takesItem_if {r : Int32} {R : Nat → Nat → Int32} (h : r = 0 ∨ r = 1) : (if r = 0 then some ((0 : Int32), R) else some ((1 : Int32), R)) = some (r, R) := by
  rcases h with h | h
  · rw [if_pos h, h]
  · rw [if_neg (by rw [h]; decide), h]
/-- both try the same words in the same order -/
theorem words_both {S V T : Nat → Nat → Int32} {M : Nat → Nat → Int64} {C : Nat → Int32} {len p n m d : Nat} (hl : len ≤ 150) (hp : p ≤ len) (hc : cT S C len p) (hr : rT T C len p) (hk : tkF C len p ≠ 0) (hv : vr V (T 17) n m 0 0 0 d 9999) (hd : d + 99 ≤ 9999) (x : Int32) (hx : x < 151) (hx2 : ¬ (150 : Int32) < x) : ∃ o o', nX2_tell_l39 x S V = nX2_tell_i39_j143 x o.1 o.2.1 o.2.2 ∧ nX7_takesItem T M = some o' ∧ itP C len p d T o o' := by
  unfold nX2_tell_l39 nX7_takesItem
  have h3 : ¬ S 0 3 = 3 := by
    rw [hc.2.2.1]
    exact fun q => hk ((ckT C len p).2.2.2.mp q)
  rw [if_neg hx2, if_neg h3, X2_isWord_spec hl hp (show 1 < 6 by decide) hc, b1_some, X7_spells_spec 1 6 (p1 := 6) (q0 := 112) (q1 := 101) (q2 := 114) (q3 := 115) (q4 := 111) (q5 := 110) hl hp (by decide) hr rfl rfl (by decide), b1_some]
  by_cases w1 : wdF C len p 1 = true
  · obtain ⟨o, o', e1, e2, e3⟩ := person_both (M := M) hl hp hc hr hk hv
    obtain ⟨r, S1, V1⟩ := o
    obtain ⟨r', R1⟩ := o'
    rw [if_pos w1, if_neg (by decide), if_neg (by decide), e1, b3_some, e2, b2_some, wrap01 (itP_01 e3)]
    exact ⟨(r, S1, V1), (r', R1), rfl, rfl, e3⟩
  · rw [if_neg w1, if_pos rfl, if_pos rfl, X2_isWord_spec hl hp (show 2 < 6 by decide) hc, b1_some, X7_spells_spec 2 4 (p1 := 4) (q0 := 99) (q1 := 111) (q2 := 97) (q3 := 116) (q4 := 0) (q5 := 0) hl hp (by decide) hr rfl rfl (by decide), b1_some]
    by_cases w2 : wdF C len p 2 = true
    · obtain ⟨o, o', e1, e2, e3⟩ := coat_both (M := M) hl hp hc hr hk hv
      obtain ⟨r, S1, V1⟩ := o
      obtain ⟨r', R1⟩ := o'
      rw [if_pos w2, if_neg (by decide), if_neg (by decide), e1, b3_some, e2, b2_some, wrap01 (itP_01 e3)]
      exact ⟨(r, S1, V1), (r', R1), rfl, rfl, e3⟩
    · rw [if_neg w2, if_pos rfl, if_pos rfl, X2_isWord_spec hl hp (show 3 < 6 by decide) hc, b1_some, X7_spells_spec 3 5 (p1 := 5) (q0 := 116) (q1 := 104) (q2 := 105) (q3 := 110) (q4 := 103) (q5 := 0) hl hp (by decide) hr rfl rfl (by decide), b1_some]
      by_cases w3 : wdF C len p 3 = true
      · obtain ⟨o, o', e1, e2, e3⟩ := thing_both (M := M) hl hp hc hr hk hv
        obtain ⟨r, S1, V1⟩ := o
        obtain ⟨r', R1⟩ := o'
        rw [if_pos w3, if_neg (by decide), if_neg (by decide), e1, b3_some, e2, b2_some, wrap01 (itP_01 e3)]
        exact ⟨(r, S1, V1), (r', R1), rfl, rfl, e3⟩
      · rw [if_neg w3, if_pos rfl, if_pos rfl, X2_isWord_spec hl hp (show 4 < 6 by decide) hc, b1_some, X7_spells_spec 4 4 (p1 := 4) (q0 := 108) (q1 := 111) (q2 := 115) (q3 := 101) (q4 := 0) (q5 := 0) hl hp (by decide) hr rfl rfl (by decide), b1_some]
        by_cases w4 : wdF C len p 4 = true
        · obtain ⟨o, o', e1, e2, e3⟩ := loss_both (M := M) hl hp hc hr hk hv
          obtain ⟨r, S1, V1⟩ := o
          obtain ⟨r', R1⟩ := o'
          rw [if_pos w4, if_neg (by decide), if_neg (by decide), e1, b3_some, e2, b2_some, wrap01 (itP_01 e3)]
          exact ⟨(r, S1, V1), (r', R1), rfl, rfl, e3⟩
        · rw [if_neg w4, if_pos rfl, if_pos rfl, X2_isWord_spec hl hp (show 5 < 6 by decide) hc, b1_some, X7_spells_spec 5 4 (p1 := 4) (q0 := 100) (q1 := 97) (q2 := 121) (q3 := 115) (q4 := 0) (q5 := 0) hl hp (by decide) hr rfl rfl (by decide), b1_some]
          by_cases w5 : wdF C len p 5 = true
          · obtain ⟨o, o', e1, e2, e3⟩ := days_both (M := M) hl hp hc hr hk hv hd
            obtain ⟨r, S1, V1⟩ := o
            obtain ⟨r', R1⟩ := o'
            rw [if_pos w5, if_neg (by decide), if_neg (by decide), e1, b3_some, e2, b2_some, takesItem_if (itP_01 e3)]
            exact ⟨(r, S1, V1), (r', R1), rfl, rfl, e3⟩
          · rw [if_neg w5, if_pos rfl, if_pos rfl]
            exact ⟨(0, S, V), (0, T), rfl, rfl, itP_f0 (fun _ _ _ _ _ => rfl) hp hc hr⟩
theorem X7_l109_spec (T : Nat → Nat → Int32) (M : Nat → Nat → Int64) (x : Int32) : ∃ T', k_it (fun st => nX7_read_l109 x st.1 st.2 M) 1000 ((0 : Int32), T) = some (x, T') ∧ (∀ c, c ≠ 1 → T' c = T c) ∧ ∀ j, j < 140 → T' 1 j = T 17 j := by
  have key : ∃ o, k_it (fun st => nX7_read_l109 x st.1 st.2 M) 1000 ((0 : Int32), T) = some o ∧ (o.1 = x ∧ (∀ c, c ≠ 1 → o.2 c = T c) ∧ ∀ j, j < 140 → o.2 1 j = T 17 j) := by
    refine it_inv (fun i st => st.1 = nI i ∧ (∀ c, c ≠ 1 → st.2 c = T c) ∧ ∀ j, j < i → st.2 1 j = T 17 j) 140 (by decide) (fun i st hi hv => ?_) (fun st hv => ?_) ⟨rfl, fun _ _ => rfl, fun j hj => absurd hj (Nat.not_lt_zero j)⟩
    · obtain ⟨y, Q⟩ := st
      obtain ⟨q1, q2, q3⟩ := hv
      have q1 : y = nI i := q1
      have q2 : ∀ c, c ≠ 1 → Q c = T c := q2
      left
      refine ⟨(nI (i + 1), k_w Q 1 i (T 17 i)), ?_, rfl, fun c hc => (w_ne _ _ hc).trans (q2 c hc), fun j hj => ?_⟩
      · show nX7_read_l109 x y Q M = _
        unfold nX7_read_l109
        rw [q1, show (140 : Int32) = nI 140 from rfl, if_leF hi (by decide), if_ok hi (by decide), if_ok (show i < 284 by omega) (by decide), nI_clamp (by omega), q2 17 (by decide), nI_1]
      · show k_w Q 1 i (T 17 i) 1 j = _
        by_cases q : j = i
        · rw [q, w_at]
        · rw [w_off _ q]; exact q3 j (by omega)
    · obtain ⟨y, Q⟩ := st
      obtain ⟨q1, q2, q3⟩ := hv
      have q1 : y = nI 140 := q1
      refine ⟨(x, Q), ?_, rfl, q2, q3⟩
      show nX7_read_l109 x y Q M = _
      unfold nX7_read_l109
      rw [q1, if_pos (by decide)]; rfl
  obtain ⟨⟨y, T'⟩, e1, e2, e3, e4⟩ := key
  have e2 : y = x := e2
  subst e2
  exact ⟨T', e1, e3, e4⟩
theorem tell_both {S V T R : Nat → Nat → Int32} {M : Nat → Nat → Int64} {C : Nat → Int32} {len : Nat} (hl : len ≤ 150) (h0 : rdI C len T 0 ((1 : Int32), S, V) ((1 : Int32), R)) : ∃ o o', k_it (fun st => nX2_tell_l39 st.1 st.2.1 st.2.2) 1000 ((1 : Int32), S, V) = some o ∧ k_it (fun st => nX7_read_l67 st.1 st.2 M) 1000 ((1 : Int32), R) = some o' ∧ rdP C len T o o' := by
  refine it_inv2 (rdI C len T) 75 (by decide) (fun i st st' hi hv => ?_) (fun st st' hv => ?_) h0
  · obtain ⟨x, S1, V1⟩ := st
    obtain ⟨x', R1⟩ := st'
    obtain ⟨g1, g2, g3, p, n, m, d, g4, g5, g6, g7, g8, g9⟩ := hv
    have g1 : x = nI (i + 1) := g1
    have g2 : x' = nI (i + 1) := g2
    subst g1 g2
    have g3 : ∀ c, c ≠ 0 → c ≠ 5 → c ≠ 17 → c ≠ 18 → R1 c = T c := g3
    have g6 : cT S1 C len p := g6
    have g7 : rT R1 C len p := g7
    have g8 : vr V1 (R1 17) n m 0 0 0 d 9999 := g8
    have h21 : R1 0 21 = nI (tkF C len p) := g7.2.2.2.2.1
    have h4 : tkF C len p ≤ 4 := tk_le C len (atF C len p)
    have hno : ¬ (150 : Int32) < nI (i + 1) := by
      rw [show (150 : Int32) = nI 150 from rfl, nI_ltI (by decide) (by omega)]; omega
    by_cases c : tkF C len p = 0
    · right
      obtain ⟨R2, e1, e2, e3⟩ := X7_l109_spec R1 M (nI (i + 1))
      refine ⟨(nI (i + 1), S1, V1), (nI (i + 1), R2), ?_, ?_, rfl, g6.1, g6.2.1, ?_, fun c c0 c1 c5 c17 c18 => (e2 c c1).trans (g3 c c0 c5 c17 c18), Or.inr ⟨nI_pos (show i + 1 < 2 ^ 31 by omega), n, m, d, vr_row e3 g8⟩⟩
      · show nX2_tell_l39 (nI (i + 1)) S1 V1 = _
        unfold nX2_tell_l39
        rw [if_neg hno, if_pos (show S1 0 3 = 3 by rw [g6.2.2.1]; exact (ckT C len p).2.2.2.mpr c)]; rfl
      · show nX7_read_l67 (nI (i + 1)) R1 M = _
        unfold nX7_read_l67
        rw [if_pos (show R1 0 21 = 0 by rw [h21, c]; rfl), e1]; rfl
      · show R2 0 18 = nI len
        rw [e2 0 (by decide)]; exact g7.1
    · obtain ⟨o, o', e1, e2, e3⟩ := words_both (M := M) hl g4 g6 g7 c g8 (by omega) (nI (i + 1)) (by rw [show (151 : Int32) = nI 151 from rfl, nI_ltI (by omega) (by decide)]; omega) hno
      obtain ⟨r', R2⟩ := o'
      have e67 : nX7_read_l67 (nI (i + 1)) R1 M = (if r' = 0 then k_up (some (((-10 : Int32) - (R2 0 19)), R2)) else if (R2 0 21) = (3 : Int32) then k_b1 (nX7_goBehind R2 M) (fun S98 => some (.inl ((nI (i + 1) + (1 : Int32)), S98))) else k_up (some (((-10 : Int32) - (R2 0 19)), R2))) := by
        unfold nX7_read_l67
        rw [if_neg (show ¬ R1 0 21 = 0 from by rw [h21]; exact fun q => c ((nI_eq (show tkF C len p < 2 ^ 31 by omega) (show 0 < 2 ^ 31 by decide)).mp q)), e2, b2_some]
      show (∃ s1 s2, nX2_tell_l39 (nI (i + 1)) S1 V1 = _ ∧ nX7_read_l67 (nI (i + 1)) R1 M = _ ∧ _) ∨ ∃ x y, nX2_tell_l39 (nI (i + 1)) S1 V1 = _ ∧ nX7_read_l67 (nI (i + 1)) R1 M = _ ∧ _
      rw [e1, e67]
      exact item_next (M := M) hl g4 g5 g9 g3 e3
  · obtain ⟨-, -, -, p, n, m, d, g4, g5, -⟩ := hv
    omega
theorem read_both {S V T : Nat → Nat → Int32} {M : Nat → Nat → Int64} {C : Nat → Int32} {len : Nat} (hl : len ≤ 150) (h1 : S 1 = C) (h2 : S 0 2 = nI len) (h18 : T 0 18 = nI len) (hC : ∀ i, i < len → T 16 i = C i) : ∃ o o', nX2_tell S V = some o ∧ nX7_read T M = some o' ∧ rdP C len T o o' := by
  obtain ⟨S1, e1, e2, hc⟩ := X2_toNextToken_spec (S := k_w S 0 5 0) (C := C) (p := 0) hl (by rw [w_ne _ _ (by decide)]; exact h1) (by rw [w_off _ (by decide)]; exact h2) (by rw [w_at]; rfl) (Nat.zero_le len)
  obtain ⟨T1, f1, f2, hr⟩ := X7_lookAt_spec (T := T) (M := M) (C := C) (p := 0) hl h18 hC (Nat.zero_le len)
  have F1 : ∀ c, c ≠ 0 → c ≠ 5 → c ≠ 17 → c ≠ 18 → T1 c = T c := fun c c0 _ _ _ => f2 c c0
  have hz := Nat.zero_le len
  unfold nX2_tell nX5_empty nX7_read
  rw [b1_some, e1, b1_some, X2_isWord_spec hl hz (show 0 < 6 by decide) hc, b1_some, show nX7_lookAt T M 0 = _ from f1, b1_some, X7_spells_spec 0 6 (p1 := 6) (q0 := 118) (q1 := 97) (q2 := 108) (q3 := 108) (q4 := 101) (q5 := 121) hl hz (by decide) hr rfl rfl (by decide), b1_some]
  by_cases w0 : wdF C len 0 0 = true
  · have hk : tkF C len 0 = 1 := (of_decide_eq_true w0).1
    obtain ⟨T2, g1, g2, hr2⟩ := X7_goBehind_spec (M := M) hl hz hr
    have F2 : ∀ c, c ≠ 0 → c ≠ 5 → c ≠ 17 → c ≠ 18 → T2 c = T c := fun c c0 a b e => (g2 c c0).trans (F1 c c0 a b e)
    have l1 := enF_le C hz
    have l2 := enF_le C l1.2.1
    rw [if_pos w0, if_neg (by decide), if_neg (by decide), g1, b1_some]
    rcases end_both hl hz hc hr2 with ⟨S3, u1, hx, u3⟩ | ⟨S3, u1, hx, -, u3, u4⟩
    · rw [u1, b2_some, if_pos rfl, if_neg u3]
      exact ⟨_, _, rfl, rfl, rdP_fault hl l1.2.1 hx hr2 F2⟩
    · obtain ⟨T3, y1, y2, hr3⟩ := X7_goBehind_spec (M := M) hl l1.2.1 hr2
      rw [u1, b2_some, if_neg (by decide), if_pos u3, y1, b1_some, X7_begin_17_spec, b1_some]
      have a1 := l1.2.2 (by omega)
      have a2 := l2.2.2 (by omega)
      have bo : ∀ c, c ≠ 17 → bgF T3 17 140 c = T3 c := fun c hc => r_ne _ hc
      exact tell_both (M := M) hl ⟨rfl, rfl, fun c c0 c5 c17 c18 => ((bo c c17).trans (y2 c c0)).trans (F2 c c0 c5 c17 c18), _, 0, 0, 0, l2.2.1, by omega, hx, rT_congr (bo 16 (by decide)) (bo 0 (by decide)) hr3, vr_empty V T3 17 9999, Nat.zero_le _⟩
  · rw [if_neg w0, if_pos rfl, if_pos rfl]
    exact ⟨_, _, rfl, rfl, rdP_fault hl hz hc hr F1⟩
theorem op_read : k_op_read k_R := by
  intro S L T M hR
  have hR0 := hR
  obtain ⟨-, -, -, -, ⟨len, hl, g1, g2, g3⟩⟩ := hR
  obtain ⟨⟨r, S8, V8⟩, ⟨r', T8⟩, e1, e2, q1, q2, q3, q4, q5, q6⟩ := read_both (S := k_wi S 67) (V := k_wi S 17) (T := T) (M := M) (C := S 68) hl rfl g1 g2 (fun i hi => ((g3 i hi).1).symm)
  have q1 : r = r' := q1
  subst q1
  have q2 : S8 1 = S 68 := q2
  have q3 : S8 0 2 = nI len := q3
  have q4 : T8 0 18 = nI len := q4
  have q5 : ∀ c, c ≠ 0 → c ≠ 1 → c ≠ 5 → c ≠ 17 → c ≠ 18 → T8 c = T c := q5
  obtain ⟨X, hX⟩ : ∃ X, X = k_sp (k_sp S 67 3 S8) 17 16 V8 := ⟨_, rfl⟩
  have x67 : X 67 2 = S 67 2 := by
    rw [hX, sp_out (by decide), sp_in (by decide) (by decide)]
    exact q3.trans g1.symm
  have xo : ∀ c, (1 ≤ c ∧ c < 17 ∨ 33 ≤ c ∧ c < 65 ∨ c = 66 ∨ c = 68 ∨ c = 75) → X c = S c := fun c hc => by
    rw [hX, sp_out (by omega)]
    by_cases q : c = 68
    · rw [q, sp_in (by decide) (by decide)]; exact q2
    · rw [sp_out (by omega)]
  have hRX : k_R X L T M := R_congr xo x67 (fun _ _ => rfl) rfl ⟨rfl, rfl⟩ ⟨rfl, rfl⟩ hR0
  rcases q6 with ⟨q7, q8⟩ | ⟨q7, n, m, d, q8⟩
  · have q7 : r < 0 := q7
    have q8 : T8 1 = T 1 := q8
    refine ⟨r, X, T8, ?_, e2, R_congr (S := X) (L := L) (M := M) (fun _ _ => rfl) rfl (fun c hc => ?_) (by rw [q4, g2]) ⟨rfl, rfl⟩ ⟨rfl, rfl⟩ hRX⟩
    · unfold nX6_read
      rw [e1, b3_some, if_pos q7, ← hX]
    · by_cases q : c = 1
      · rw [q]; exact q8
      · exact q5 c (by omega) q (by omega) (by omega) (by omega)
  · have q7 : ¬ r < 0 := q7
    have q8 : vr V8 (T8 1) n m 0 0 0 d 9999 := q8
    have hv : vr (k_wi X 17) (T8 1) n m 0 0 0 d 9999 := vr_congr (fun c hc => by rw [hX]; exact sp_wi c hc) (fun _ _ => rfl) q8
    refine ⟨r, k_sp X 1 16 (cpV (k_wi X 1) (k_wi X 17)), T8, ?_, e2, R_sp (vr_copy hv) (fun c hc => q5 c (by omega) (by omega) (by omega) (by omega) (by omega)) (by rw [q4, g2]) hRX⟩
    unfold nX6_read
    rw [e1, b3_some, if_neg q7, ← hX, X5_copyOf_spec, b1_some]
