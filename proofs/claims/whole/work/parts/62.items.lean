/-! the items of a text -/
theorem X7_layPerson_17_spec {T : Nat → Nat → Int32} {M : Nat → Nat → Int64} {n : Nat} (hT : T 17 0 = nI n) (hn : n < 7) (p1 p2 p3 p4 p5 p6 : Int32) : nX7_layPerson_17 T M p1 p2 p3 p4 p5 p6 = some (k_w (k_w (k_w (k_w (k_w (k_w (k_w (k_w T 17 (23 + n) p1) 17 (30 + n) p2) 17 (37 + 4 * n) p3) 17 (37 + 4 * n + 1) p4) 17 (37 + 4 * n + 2) p5) 17 (37 + 4 * n + 3) p6) 17 (15 + n) 0) 17 0 (nI (n + 1))) := by
  have e1 : (23 : Int32) + nI n = nI (23 + n) := nI_add 23 n
  have e2 : (30 : Int32) + nI n = nI (30 + n) := nI_add 30 n
  have e3 : (37 : Int32) + nI (4 * n) = nI (37 + 4 * n) := nI_add 37 (4 * n)
  have e4 : (15 : Int32) + nI n = nI (15 + n) := nI_add 15 n
  have n0 : ∀ k, 0 < k → ((0 : Nat) = k) = False := fun k h => eq_false (by omega)
  unfold nX7_layPerson_17
  simp only [hT, h4n, e1, e2, e3, e4, hp1, hp2, hp3, ok_ix (show 23 + n < 140 by omega) (by decide), ok_ix (show 30 + n < 140 by omega) (by decide), ok_ix (show 37 + 4 * n < 140 by omega) (by decide), ok_ix (show 37 + 4 * n + 1 < 140 by omega) (by decide), ok_ix (show 37 + 4 * n + 2 < 140 by omega) (by decide), ok_ix (show 37 + 4 * n + 3 < 140 by omega) (by decide), ok_ix (show 15 + n < 140 by omega) (by decide), if_false]
  simp only [nI_clamp (show 23 + n < 2 ^ 31 by omega), nI_clamp (show 30 + n < 2 ^ 31 by omega), nI_clamp (show 37 + 4 * n < 2 ^ 31 by omega), nI_clamp (show 37 + 4 * n + 1 < 2 ^ 31 by omega), nI_clamp (show 37 + 4 * n + 2 < 2 ^ 31 by omega), nI_clamp (show 37 + 4 * n + 3 < 2 ^ 31 by omega), nI_clamp (show 15 + n < 2 ^ 31 by omega), kw_get, n0 (23 + n) (by omega), n0 (30 + n) (by omega), n0 (37 + 4 * n) (by omega), n0 (37 + 4 * n + 1) (by omega), n0 (37 + 4 * n + 2) (by omega), n0 (37 + 4 * n + 3) (by omega), n0 (15 + n) (by omega), if_false, if_true, hT, hp1]
theorem X7_layThing_17_spec {T : Nat → Nat → Int32} {M : Nat → Nat → Int64} {m : Nat} (hT : T 17 1 = nI m) (hm : m < 5) (p1 p2 p3 : Int32) : nX7_layThing_17 T M p1 p2 p3 = some (k_w (k_w (k_w (k_w (k_w (k_w T 17 (65 + m) p1) 17 (70 + m) p2) 17 (75 + m) p3) 17 (5 + m) p3) 17 (10 + m) 0) 17 1 (nI (m + 1))) := by
  have e1 : (65 : Int32) + nI m = nI (65 + m) := nI_add 65 m
  have e2 : (70 : Int32) + nI m = nI (70 + m) := nI_add 70 m
  have e3 : (75 : Int32) + nI m = nI (75 + m) := nI_add 75 m
  have e4 : (5 : Int32) + nI m = nI (5 + m) := nI_add 5 m
  have e5 : (10 : Int32) + nI m = nI (10 + m) := nI_add 10 m
  have n0 : ∀ k, 1 < k → ((1 : Nat) = k) = False := fun k h => eq_false (by omega)
  unfold nX7_layThing_17
  simp only [hT, e1, e2, e3, e4, e5, ok_ix (show 65 + m < 140 by omega) (by decide), ok_ix (show 70 + m < 140 by omega) (by decide), ok_ix (show 75 + m < 140 by omega) (by decide), ok_ix (show 5 + m < 140 by omega) (by decide), ok_ix (show 10 + m < 140 by omega) (by decide), if_false]
  simp only [nI_clamp (show 65 + m < 2 ^ 31 by omega), nI_clamp (show 70 + m < 2 ^ 31 by omega), nI_clamp (show 75 + m < 2 ^ 31 by omega), nI_clamp (show 5 + m < 2 ^ 31 by omega), nI_clamp (show 10 + m < 2 ^ 31 by omega), kw_get, n0 (65 + m) (by omega), n0 (70 + m) (by omega), n0 (75 + m) (by omega), n0 (5 + m) (by omega), n0 (10 + m) (by omega), if_false, if_true, hT, hp1]
def itP (C : Nat → Int32) (len p d : Nat) (T : Nat → Nat → Int32) (o : Int32 × (Nat → Nat → Int32) × (Nat → Nat → Int32)) (o' : Int32 × (Nat → Nat → Int32)) : Prop := (∀ c, c ≠ 0 → c ≠ 5 → c ≠ 17 → c ≠ 18 → o'.2 c = T c) ∧
  ((o.1 = 0 ∧ (∃ q, q ≤ len ∧ cT o.2.1 C len q ∧ rT o'.2 C len q) ∧ (o'.1 = 0 ∨ (o'.1 = 1 ∧ ¬ o'.2 0 21 = 3))) ∨
   (o.1 = 1 ∧ o'.1 = 1 ∧ ∃ q, p < q ∧ q ≤ len ∧ rT o'.2 C len q ∧ tkF C len q = 3 ∧ cT o.2.1 C len (enF C len q) ∧ ∃ n m d' : Nat, vr o.2.2 (o'.2 17) n m 0 0 0 d' 9999 ∧ d' ≤ d + 99))
theorem itP_f0 {C : Nat → Int32} {len p d q : Nat} {S V T T' : Nat → Nat → Int32} (hf : ∀ c, c ≠ 0 → c ≠ 5 → c ≠ 17 → c ≠ 18 → T' c = T c) (hq : q ≤ len) (hc : cT S C len q) (hr : rT T' C len q) : itP C len p d T (0, S, V) (0, T') := ⟨hf, Or.inl ⟨rfl, ⟨q, hq, hc, hr⟩, Or.inl rfl⟩⟩
theorem itP_f1 {C : Nat → Int32} {len p d q : Nat} {S V T T' : Nat → Nat → Int32} (hf : ∀ c, c ≠ 0 → c ≠ 5 → c ≠ 17 → c ≠ 18 → T' c = T c) (hq : q ≤ len) (hc : cT S C len q) (hr : rT T' C len q) (h3 : ¬ T' 0 21 = 3) : itP C len p d T (0, S, V) (1, T') := ⟨hf, Or.inl ⟨rfl, ⟨q, hq, hc, hr⟩, Or.inr ⟨rfl, h3⟩⟩⟩
theorem itP_ok {C : Nat → Int32} {len p d q n m d' : Nat} {S V T T' : Nat → Nat → Int32} (hf : ∀ c, c ≠ 0 → c ≠ 5 → c ≠ 17 → c ≠ 18 → T' c = T c) (hpq : p < q) (hq : q ≤ len) (hr : rT T' C len q) (h3 : tkF C len q = 3) (hc : cT S C len (enF C len q)) (hv : vr V (T' 17) n m 0 0 0 d' 9999) (hd : d' ≤ d + 99) : itP C len p d T (1, S, V) (1, T') := ⟨hf, Or.inr ⟨rfl, rfl, q, hpq, hq, hr, h3, hc, n, m, d', hv, hd⟩⟩
theorem num_bothL {S T : Nat → Nat → Int32} {M : Nat → Nat → Int64} {C : Nat → Int32} {len p : Nat} (G : Nat → Int32 → Prop) (hl : len ≤ 150) (hp : p ≤ len) (hc : cT S C len p) (hr : rT T C len (enF C len p)) (i : Nat) (hi : i < 6) (ii : Int32) (hii : ii = nI i) (lo hb : Int32) (hG : ∀ x, ¬ x < lo → ¬ hb < x → G i x) (hn : ∀ j, j < i → S 2 j = T 18 j ∧ G j (T 18 j)) : (∃ S', nX2_number S ii lo hb = some (0, S') ∧ nX7_takes T M ii lo hb = some (0, T) ∧ cT S' C len (enF C len p)) ∨ (∃ S' T', nX2_number S ii lo hb = some (1, S') ∧ nX7_takes T M ii lo hb = some (1, T') ∧ cT S' C len (enF C len p) ∧ rT T' C len (enF C len (enF C len p)) ∧ (∀ c, c ≠ 0 → c ≠ 18 → T' c = T c) ∧ ∀ j, j < i + 1 → S' 2 j = T' 18 j ∧ G j (T' 18 j)) := by
  subst hii
  exact num_both G hl hp hc hr i hi lo hb hG hn
theorem pl_step (N : Nat) (S V : Nat → Nat → Int32) (x : Nat) (hx : x < 4) (y : Int32) (hy : (2 : Int32) + nI x = y) : k_it (fun st => nX2_personIsTold_l36 st.1 st.2 V) (N + 1) (nI x, S) = k_b2 (nX2_number S y 0 9) (fun r S1 => if r = 0 then some (0, S1, V) else k_it (fun st => nX2_personIsTold_l36 st.1 st.2 V) N (nI (x + 1), S1)) := by
  have e : nX2_personIsTold_l36 (nI x) S V = k_b2 (nX2_number S y 0 9) (fun r S1 => if r = 0 then k_up (some ((0 : Int32), S1, V)) else some (.inl (nI (x + 1), S1))) := by
    unfold nX2_personIsTold_l36
    rw [show (4 : Int32) = nI 4 from rfl, if_leF hx (by decide), hy, nI_1]
  rw [k_it, e]
  cases h : nX2_number S y 0 9 with
  | none => rfl
  | some o =>
    obtain ⟨r, S1⟩ := o
    rw [b2_some, b2_some]
    by_cases c : r = 0
    · rw [if_pos c, if_pos c]; rfl
    · rw [if_neg c, if_neg c]
theorem pl_end (N : Nat) (S V : Nat → Nat → Int32) : k_it (fun st => nX2_personIsTold_l36 st.1 st.2 V) (N + 1) (nI 4, S) = k_b2 (nX2_itemEnds S) (fun r63 S63 => if r63 = 0 then some ((0 : Int32), S63, V) else k_b1 (nX5_addPerson V (S63 2 0) (S63 2 1) (S63 2 2) (S63 2 3) (S63 2 4) (S63 2 5)) (fun S108 => some ((1 : Int32), S63, S108))) := by
  have e : nX2_personIsTold_l36 (nI 4) S V = k_up (k_b2 (nX2_itemEnds S) (fun r63 S63 => if r63 = 0 then some ((0 : Int32), S63, V) else k_b1 (nX5_addPerson V (S63 2 0) (S63 2 1) (S63 2 2) (S63 2 3) (S63 2 4) (S63 2 5)) (fun S108 => some ((1 : Int32), S63, S108)))) := by
    unfold nX2_personIsTold_l36
    rw [if_pos (by decide)]
  rw [k_it, e]
  cases k_b2 (nX2_itemEnds S) (fun r63 S63 => if r63 = 0 then some ((0 : Int32), S63, V) else k_b1 (nX5_addPerson V (S63 2 0) (S63 2 1) (S63 2 2) (S63 2 3) (S63 2 4) (S63 2 5)) (fun S108 => some ((1 : Int32), S63, S108))) with
  | none => rfl
  | some o => rfl
theorem person_both {S V T : Nat → Nat → Int32} {M : Nat → Nat → Int64} {C : Nat → Int32} {len p n m d : Nat} (hl : len ≤ 150) (hp : p ≤ len) (hc : cT S C len p) (hr : rT T C len p) (hk : tkF C len p ≠ 0) (hv : vr V (T 17) n m 0 0 0 d 9999) : ∃ o o', nX2_personIsTold S V = some o ∧ nX7_takesPerson T M = some o' ∧ itP C len p d T o o' := by
  have hv0 := hv
  obtain ⟨⟨t0, t1, t2, t3, t4, t22⟩, ⟨b1, b2, b3, b4, b5, b6⟩, ⟨v0, v1, v2, v3, v4, v5⟩, hpp, hnd, hth, -⟩ := hv
  have l0 : p ≤ len := hp
  have m1 : p < enF C len p := (enF_le C hp).2.2 hk
  have l1 : enF C len p ≤ len := (enF_le C l0).2.1
  have l2 : enF C len (enF C len p) ≤ len := (enF_le C l1).2.1
  have m2 : (enF C len p) ≤ (enF C len (enF C len p)) := (enF_le C l1).1
  have l3 : enF C len (enF C len (enF C len p)) ≤ len := (enF_le C l2).2.1
  have m3 : (enF C len (enF C len p)) ≤ (enF C len (enF C len (enF C len p))) := (enF_le C l2).1
  have l4 : enF C len (enF C len (enF C len (enF C len p))) ≤ len := (enF_le C l3).2.1
  have m4 : (enF C len (enF C len (enF C len p))) ≤ (enF C len (enF C len (enF C len (enF C len p)))) := (enF_le C l3).1
  have l5 : enF C len (enF C len (enF C len (enF C len (enF C len p)))) ≤ len := (enF_le C l4).2.1
  have m5 : (enF C len (enF C len (enF C len (enF C len p)))) ≤ (enF C len (enF C len (enF C len (enF C len (enF C len p))))) := (enF_le C l4).1
  have l6 : enF C len (enF C len (enF C len (enF C len (enF C len (enF C len p))))) ≤ len := (enF_le C l5).2.1
  have m6 : (enF C len (enF C len (enF C len (enF C len (enF C len p))))) ≤ (enF C len (enF C len (enF C len (enF C len (enF C len (enF C len p)))))) := (enF_le C l5).1
  have l7 : enF C len (enF C len (enF C len (enF C len (enF C len (enF C len (enF C len p)))))) ≤ len := (enF_le C l6).2.1
  have m7 : (enF C len (enF C len (enF C len (enF C len (enF C len (enF C len p)))))) ≤ (enF C len (enF C len (enF C len (enF C len (enF C len (enF C len (enF C len p))))))) := (enF_le C l6).1
  have hc0 := hc
  obtain ⟨G, hGd⟩ : ∃ G : Nat → Int32 → Prop, G = fun j x => pz x (if j = 0 then 6 else if j = 1 then 20 else 10) := ⟨_, rfl⟩
  unfold nX2_personIsTold nX7_takesPerson
  rw [show V 0 12 = nI n from v0, t0, show (7 : Int32) = nI 7 from rfl]
  by_cases c7 : n < 7
  · obtain ⟨R0, g1, g2, hr0⟩ := X7_goBehind_spec (M := M) hl hp hr
    have F0 : ∀ c, c ≠ 0 → c ≠ 18 → R0 c = T c := fun c c0 _ => g2 c c0
    rw [if_ltT c7 (by decide), if_eqF (by omega) (by omega) (by decide), g1, b1_some]
    rcases num_bothL (M := M) G hl l0 hc0 hr0 0 (by decide) 0 rfl 0 5 (fun x h1 h2 => by rw [hGd]; exact rg_pz 6 (by decide) (by decide) h1 h2) (fun j hj => absurd hj (Nat.not_lt_zero j)) with ⟨S1, e1, e2, hx⟩ | ⟨S1, R1, e1, e2, hc1, hr1, f1, hn1⟩
    · rw [e1, b2_some, e2, b2_some, if_pos rfl, if_pos rfl]
      exact ⟨_, _, rfl, rfl, itP_f0 (fun c c0 _ _ c18 => F0 c c0 c18) l1 hx hr0⟩
    · rw [e1, b2_some, e2, b2_some, if_neg (by decide), if_neg (by decide)]
      have F1 : ∀ c, c ≠ 0 → c ≠ 18 → R1 c = T c := fun c c0 c18 => (f1 c c0 c18).trans (F0 c c0 c18)
      rcases num_bothL (M := M) G hl l1 hc1 hr1 1 (by decide) 1 rfl 0 19 (fun x h1 h2 => by rw [hGd]; exact rg_pz 20 (by decide) (by decide) h1 h2) hn1 with ⟨S2, e1, e2, hx⟩ | ⟨S2, R2, e1, e2, hc2, hr2, f2, hn2⟩
      · rw [e1, b2_some, e2, b2_some, if_pos rfl, if_pos rfl]
        exact ⟨_, _, rfl, rfl, itP_f0 (fun c c0 _ _ c18 => F1 c c0 c18) l2 hx hr1⟩
      · rw [e1, b2_some, e2, b2_some, if_neg (by decide), if_neg (by decide)]
        have F2 : ∀ c, c ≠ 0 → c ≠ 18 → R2 c = T c := fun c c0 c18 => (f2 c c0 c18).trans (F1 c c0 c18)
        rcases num_bothL (M := M) G hl l2 hc2 hr2 2 (by decide) 2 rfl 0 9 (fun x h1 h2 => by rw [hGd]; exact rg_pz 10 (by decide) (by decide) h1 h2) hn2 with ⟨S3, e1, e2, hx⟩ | ⟨S3, R3, e1, e2, hc3, hr3, f3, hn3⟩
        · rw [show k_it (fun st => nX2_personIsTold_l36 st.1 st.2 V) 1000 ((0 : Int32), S2) = _ from pl_step 999 S2 V 0 (by decide) 2 (by decide), e1, b2_some, e2, b2_some, if_pos rfl, if_pos rfl]
          exact ⟨_, _, rfl, rfl, itP_f0 (fun c c0 _ _ c18 => F2 c c0 c18) l3 hx hr2⟩
        · rw [show k_it (fun st => nX2_personIsTold_l36 st.1 st.2 V) 1000 ((0 : Int32), S2) = _ from pl_step 999 S2 V 0 (by decide) 2 (by decide), e1, b2_some, e2, b2_some, if_neg (by decide), if_neg (by decide)]
          have F3 : ∀ c, c ≠ 0 → c ≠ 18 → R3 c = T c := fun c c0 c18 => (f3 c c0 c18).trans (F2 c c0 c18)
          rcases num_bothL (M := M) G hl l3 hc3 hr3 3 (by decide) 3 rfl 0 9 (fun x h1 h2 => by rw [hGd]; exact rg_pz 10 (by decide) (by decide) h1 h2) hn3 with ⟨S4, e1, e2, hx⟩ | ⟨S4, R4, e1, e2, hc4, hr4, f4, hn4⟩
          · rw [show k_it (fun st => nX2_personIsTold_l36 st.1 st.2 V) 999 (nI (0 + 1), S3) = _ from pl_step 998 S3 V 1 (by decide) 3 (by decide), e1, b2_some, e2, b2_some, if_pos rfl, if_pos rfl]
            exact ⟨_, _, rfl, rfl, itP_f0 (fun c c0 _ _ c18 => F3 c c0 c18) l4 hx hr3⟩
          · rw [show k_it (fun st => nX2_personIsTold_l36 st.1 st.2 V) 999 (nI (0 + 1), S3) = _ from pl_step 998 S3 V 1 (by decide) 3 (by decide), e1, b2_some, e2, b2_some, if_neg (by decide), if_neg (by decide)]
            have F4 : ∀ c, c ≠ 0 → c ≠ 18 → R4 c = T c := fun c c0 c18 => (f4 c c0 c18).trans (F3 c c0 c18)
            rcases num_bothL (M := M) G hl l4 hc4 hr4 4 (by decide) 4 rfl 0 9 (fun x h1 h2 => by rw [hGd]; exact rg_pz 10 (by decide) (by decide) h1 h2) hn4 with ⟨S5, e1, e2, hx⟩ | ⟨S5, R5, e1, e2, hc5, hr5, f5, hn5⟩
            · rw [show k_it (fun st => nX2_personIsTold_l36 st.1 st.2 V) 998 (nI (1 + 1), S4) = _ from pl_step 997 S4 V 2 (by decide) 4 (by decide), e1, b2_some, e2, b2_some, if_pos rfl, if_pos rfl]
              exact ⟨_, _, rfl, rfl, itP_f0 (fun c c0 _ _ c18 => F4 c c0 c18) l5 hx hr4⟩
            · rw [show k_it (fun st => nX2_personIsTold_l36 st.1 st.2 V) 998 (nI (1 + 1), S4) = _ from pl_step 997 S4 V 2 (by decide) 4 (by decide), e1, b2_some, e2, b2_some, if_neg (by decide), if_neg (by decide)]
              have F5 : ∀ c, c ≠ 0 → c ≠ 18 → R5 c = T c := fun c c0 c18 => (f5 c c0 c18).trans (F4 c c0 c18)
              rcases num_bothL (M := M) G hl l5 hc5 hr5 5 (by decide) 5 rfl 0 9 (fun x h1 h2 => by rw [hGd]; exact rg_pz 10 (by decide) (by decide) h1 h2) hn5 with ⟨S6, e1, e2, hx⟩ | ⟨S6, R6, e1, e2, hc6, hr6, f6, hn6⟩
              · rw [show k_it (fun st => nX2_personIsTold_l36 st.1 st.2 V) 997 (nI (2 + 1), S5) = _ from pl_step 996 S5 V 3 (by decide) 5 (by decide), e1, b2_some, e2, b2_some, if_pos rfl, if_pos rfl]
                exact ⟨_, _, rfl, rfl, itP_f0 (fun c c0 _ _ c18 => F5 c c0 c18) l6 hx hr5⟩
              · rw [show k_it (fun st => nX2_personIsTold_l36 st.1 st.2 V) 997 (nI (2 + 1), S5) = _ from pl_step 996 S5 V 3 (by decide) 5 (by decide), e1, b2_some, e2, b2_some, if_neg (by decide), if_neg (by decide)]
                have F6 : ∀ c, c ≠ 0 → c ≠ 18 → R6 c = T c := fun c c0 c18 => (f6 c c0 c18).trans (F5 c c0 c18)
                have hRn : R6 17 0 = nI n := by rw [F6 17 (by decide) (by decide)]; exact t0
                rw [show k_it (fun st => nX2_personIsTold_l36 st.1 st.2 V) 996 (nI (3 + 1), S6) = _ from pl_end 995 S6 V, X7_layPerson_17_spec hRn c7, b1_some]
                obtain ⟨Z, hZ⟩ : ∃ Z : Nat → Nat → Int32, Z = k_w (k_w (k_w (k_w (k_w (k_w (k_w (k_w R6 17 (23 + n) (R6 18 0)) 17 (30 + n) (R6 18 1)) 17 (37 + 4 * n) (R6 18 2)) 17 (37 + 4 * n + 1) (R6 18 3)) 17 (37 + 4 * n + 2) (R6 18 4)) 17 (37 + 4 * n + 3) (R6 18 5)) 17 (15 + n) 0) 17 0 (nI (n + 1)) := ⟨_, rfl⟩
                rw [← hZ]
                have zo : ∀ c, c ≠ 17 → Z c = R6 c := by
                  intro c hc
                  rw [hZ]
                  funext j
                  simp only [kw_get, if_neg hc]
                have hz : ∀ j, Z 17 j = if j = 0 then nI (n + 1) else if j = 15 + n then 0 else if j = 37 + 4 * n + 3 then R6 18 5 else if j = 37 + 4 * n + 2 then R6 18 4 else if j = 37 + 4 * n + 1 then R6 18 3 else if j = 37 + 4 * n then R6 18 2 else if j = 30 + n then R6 18 1 else if j = 23 + n then R6 18 0 else R6 17 j := fun j => by rw [hZ]; rfl
                have hz4 : ∀ j, Z 17 j = if j = 4 then 0 else if j = 0 then nI (n + 1) else if j = 15 + n then 0 else if j = 37 + 4 * n + 3 then R6 18 5 else if j = 37 + 4 * n + 2 then R6 18 4 else if j = 37 + 4 * n + 1 then R6 18 3 else if j = 37 + 4 * n then R6 18 2 else if j = 30 + n then R6 18 1 else if j = 23 + n then R6 18 0 else T 17 j := fun j => by
                  rw [hz j, F6 17 (by decide) (by decide)]
                  by_cases q : j = 4
                  · rw [if_pos q, if_neg (show ¬ j = 0 by omega), if_neg (show ¬ j = 15 + n by omega), if_neg (show ¬ j = 37 + 4 * n + 3 by omega), if_neg (show ¬ j = 37 + 4 * n + 2 by omega), if_neg (show ¬ j = 37 + 4 * n + 1 by omega), if_neg (show ¬ j = 37 + 4 * n by omega), if_neg (show ¬ j = 30 + n by omega), if_neg (show ¬ j = 23 + n by omega), q]
                    exact t4
                  · rw [if_neg q]
                have hrZ := rT_congr (zo 16 (by decide)) (zo 0 (by decide)) hr6
                have FZ : ∀ c, c ≠ 0 → c ≠ 5 → c ≠ 17 → c ≠ 18 → Z c = T c := fun c c0 _ c17 c18 => (zo c c17).trans (F6 c c0 c18)
                rcases end_both hl l6 hc6 hrZ with ⟨S7, e1, hx, h3⟩ | ⟨S7, e1, hx, s2, -, h3⟩
                · rw [e1, b2_some, if_pos rfl]
                  exact ⟨_, _, rfl, rfl, itP_f1 FZ l7 hx hrZ h3⟩
                · have hg : ∀ j N, j < 6 → (if j = 0 then 6 else if j = 1 then 20 else 10) = N → pz (R6 18 j) N := fun j N hj hN => by
                    have h := (hn6 j hj).2
                    rw [hGd] at h
                    exact hN ▸ h
                  rw [e1, b2_some, if_neg (by decide), s2, (hn6 0 (by decide)).1, (hn6 1 (by decide)).1, (hn6 2 (by decide)).1, (hn6 3 (by decide)).1, (hn6 4 (by decide)).1, (hn6 5 (by decide)).1, X5_addPerson_spec v0 c7, b1_some]
                  exact ⟨_, _, rfl, rfl, itP_ok FZ (by omega) l7 hrZ h3 hx (vr_person hv0 c7 (hg 0 6 (by decide) rfl) (hg 1 20 (by decide) rfl) (hg 2 10 (by decide) rfl) (hg 3 10 (by decide) rfl) (hg 4 10 (by decide) rfl) (hg 5 10 (by decide) rfl) rfl hz4) (by omega)⟩
  · have e7 : n = 7 := by omega
    rw [if_ltF (by omega) (by omega), if_eqT e7]
    exact ⟨_, _, rfl, rfl, itP_f0 (fun _ _ _ _ _ => rfl) hp hc hr⟩
theorem thing_both {S V T : Nat → Nat → Int32} {M : Nat → Nat → Int64} {C : Nat → Int32} {len p n m d : Nat} (hl : len ≤ 150) (hp : p ≤ len) (hc : cT S C len p) (hr : rT T C len p) (hk : tkF C len p ≠ 0) (hv : vr V (T 17) n m 0 0 0 d 9999) : ∃ o o', nX2_thingIsTold S V = some o ∧ nX7_takesThing T M = some o' ∧ itP C len p d T o o' := by
  have hv0 := hv
  obtain ⟨⟨t0, t1, t2, t3, t4, t22⟩, ⟨b1, b2, b3, b4, b5, b6⟩, ⟨v0, v1, v2, v3, v4, v5⟩, hpp, hnd, hth, -⟩ := hv
  have l0 : p ≤ len := hp
  have m1 : p < enF C len p := (enF_le C hp).2.2 hk
  have l1 : enF C len p ≤ len := (enF_le C l0).2.1
  have l2 : enF C len (enF C len p) ≤ len := (enF_le C l1).2.1
  have m2 : (enF C len p) ≤ (enF C len (enF C len p)) := (enF_le C l1).1
  have l3 : enF C len (enF C len (enF C len p)) ≤ len := (enF_le C l2).2.1
  have m3 : (enF C len (enF C len p)) ≤ (enF C len (enF C len (enF C len p))) := (enF_le C l2).1
  have l4 : enF C len (enF C len (enF C len (enF C len p))) ≤ len := (enF_le C l3).2.1
  have m4 : (enF C len (enF C len (enF C len p))) ≤ (enF C len (enF C len (enF C len (enF C len p)))) := (enF_le C l3).1
  have hc0 := hc
  obtain ⟨G, hGd⟩ : ∃ G : Nat → Int32 → Prop, G = fun j x => pz x (if j = 0 then 6 else if j = 1 then 4 else n) := ⟨_, rfl⟩
  unfold nX2_thingIsTold nX7_takesThing
  rw [show V 0 13 = nI m from v1, show V 0 12 = nI n from v0, t1, show (5 : Int32) = nI 5 from rfl]
  by_cases c5 : m < 5
  · obtain ⟨R0, g1, g2, hr0⟩ := X7_goBehind_spec (M := M) hl hp hr
    have F0 : ∀ c, c ≠ 0 → c ≠ 18 → R0 c = T c := fun c c0 _ => g2 c c0
    rw [if_ltT c5 (by decide), if_eqF (by omega) (by omega) (by decide), g1, b1_some]
    rcases num_bothL (M := M) G hl l0 hc0 hr0 0 (by decide) 0 rfl 0 (nI 5) (fun x h1 h2 => by rw [hGd]; exact rg_pz 6 (by decide) (by decide) h1 h2) (fun j hj => absurd hj (Nat.not_lt_zero j)) with ⟨S1, e1, e2, hx⟩ | ⟨S1, R1, e1, e2, hc1, hr1, f1, hn1⟩
    · rw [e1, b2_some, e2, b2_some, if_pos rfl, if_pos rfl]
      exact ⟨_, _, rfl, rfl, itP_f0 (fun c c0 _ _ c18 => F0 c c0 c18) l1 hx hr0⟩
    · rw [e1, b2_some, e2, b2_some, if_neg (by decide), if_neg (by decide)]
      have F1 : ∀ c, c ≠ 0 → c ≠ 18 → R1 c = T c := fun c c0 c18 => (f1 c c0 c18).trans (F0 c c0 c18)
      rcases num_bothL (M := M) G hl l1 hc1 hr1 1 (by decide) 1 rfl 0 3 (fun x h1 h2 => by rw [hGd]; exact rg_pz 4 (by decide) (by decide) h1 h2) hn1 with ⟨S2, e1, e2, hx⟩ | ⟨S2, R2, e1, e2, hc2, hr2, f2, hn2⟩
      · rw [e1, b2_some, e2, b2_some, if_pos rfl, if_pos rfl]
        exact ⟨_, _, rfl, rfl, itP_f0 (fun c c0 _ _ c18 => F1 c c0 c18) l2 hx hr1⟩
      · rw [e1, b2_some, e2, b2_some, if_neg (by decide), if_neg (by decide)]
        have F2 : ∀ c, c ≠ 0 → c ≠ 18 → R2 c = T c := fun c c0 c18 => (f2 c c0 c18).trans (F1 c c0 c18)
        rcases num_bothL (M := M) G hl l2 hc2 hr2 2 (by decide) 2 rfl 0 (nI n - 1) (fun x h1 h2 => by rw [hGd]; exact rg_pz n (by omega) rfl h1 h2) hn2 with ⟨S3, e1, e2, hx⟩ | ⟨S3, R3, e1, e2, hc3, hr3, f3, hn3⟩
        · rw [show R2 17 0 = nI n from by rw [F2 17 (by decide) (by decide)]; exact t0, e1, b2_some, e2, b2_some, if_pos rfl, if_pos rfl]
          exact ⟨_, _, rfl, rfl, itP_f0 (fun c c0 _ _ c18 => F2 c c0 c18) l3 hx hr2⟩
        · rw [show R2 17 0 = nI n from by rw [F2 17 (by decide) (by decide)]; exact t0, e1, b2_some, e2, b2_some, if_neg (by decide), if_neg (by decide)]
          have F3 : ∀ c, c ≠ 0 → c ≠ 18 → R3 c = T c := fun c c0 c18 => (f3 c c0 c18).trans (F2 c c0 c18)
          have hRn : R3 17 1 = nI m := by rw [F3 17 (by decide) (by decide)]; exact t1
          rw [X7_layThing_17_spec hRn c5, b1_some]
          obtain ⟨Z, hZ⟩ : ∃ Z : Nat → Nat → Int32, Z = k_w (k_w (k_w (k_w (k_w (k_w R3 17 (65 + m) (R3 18 0)) 17 (70 + m) (R3 18 1)) 17 (75 + m) (R3 18 2)) 17 (5 + m) (R3 18 2)) 17 (10 + m) 0) 17 1 (nI (m + 1)) := ⟨_, rfl⟩
          rw [← hZ]
          have zo : ∀ c, c ≠ 17 → Z c = R3 c := by
            intro c hc
            rw [hZ]
            funext j
            simp only [kw_get, if_neg hc]
          have hz : ∀ j, Z 17 j = if j = 1 then nI (m + 1) else if j = 10 + m then 0 else if j = 5 + m then R3 18 2 else if j = 75 + m then R3 18 2 else if j = 70 + m then R3 18 1 else if j = 65 + m then R3 18 0 else R3 17 j := fun j => by rw [hZ]; rfl
          have hz4 : ∀ j, Z 17 j = if j = 4 then 0 else if j = 1 then nI (m + 1) else if j = 10 + m then 0 else if j = 5 + m then R3 18 2 else if j = 75 + m then R3 18 2 else if j = 70 + m then R3 18 1 else if j = 65 + m then R3 18 0 else T 17 j := fun j => by
            rw [hz j, F3 17 (by decide) (by decide)]
            by_cases q : j = 4
            · rw [if_pos q, if_neg (show ¬ j = 1 by omega), if_neg (show ¬ j = 10 + m by omega), if_neg (show ¬ j = 5 + m by omega), if_neg (show ¬ j = 75 + m by omega), if_neg (show ¬ j = 70 + m by omega), if_neg (show ¬ j = 65 + m by omega), q]
              exact t4
            · rw [if_neg q]
          have hrZ := rT_congr (zo 16 (by decide)) (zo 0 (by decide)) hr3
          have FZ : ∀ c, c ≠ 0 → c ≠ 5 → c ≠ 17 → c ≠ 18 → Z c = T c := fun c c0 _ c17 c18 => (zo c c17).trans (F3 c c0 c18)
          rcases end_both hl l3 hc3 hrZ with ⟨S4, e1, hx, h3⟩ | ⟨S4, e1, hx, s2, -, h3⟩
          · rw [e1, b2_some, if_pos rfl]
            exact ⟨_, _, rfl, rfl, itP_f1 FZ l4 hx hrZ h3⟩
          · have hg : ∀ j N, j < 3 → (if j = 0 then 6 else if j = 1 then 4 else n) = N → pz (R3 18 j) N := fun j N hj hN => by
              have h := (hn3 j hj).2
              rw [hGd] at h
              exact hN ▸ h
            rw [e1, b2_some, if_neg (by decide), s2, (hn3 0 (by decide)).1, (hn3 1 (by decide)).1, (hn3 2 (by decide)).1, X5_addThing_spec v1 c5, b1_some]
            exact ⟨_, _, rfl, rfl, itP_ok FZ (by omega) l4 hrZ h3 hx (vr_thing hv0 c5 (hg 0 6 (by decide) rfl) (hg 1 4 (by decide) rfl) (hg 2 n (by decide) rfl) rfl hz4) (by omega)⟩
  · have e7 : m = 5 := by omega
    rw [if_ltF (by omega) (by omega), if_eqT e7]
    exact ⟨_, _, rfl, rfl, itP_f0 (fun _ _ _ _ _ => rfl) hp hc hr⟩
theorem coat_both {S V T : Nat → Nat → Int32} {M : Nat → Nat → Int64} {C : Nat → Int32} {len p n m d : Nat} (hl : len ≤ 150) (hp : p ≤ len) (hc : cT S C len p) (hr : rT T C len p) (hk : tkF C len p ≠ 0) (hv : vr V (T 17) n m 0 0 0 d 9999) : ∃ o o', nX2_coatIsTold S V = some o ∧ nX7_takesCoat T M = some o' ∧ itP C len p d T o o' := by
  have hv0 := hv
  obtain ⟨⟨t0, t1, t2, t3, t4, t22⟩, ⟨b1, b2, b3, b4, b5, b6⟩, ⟨v0, v1, v2, v3, v4, v5⟩, hpp, hnd, hth, -⟩ := hv
  have l0 : p ≤ len := hp
  have m1 : p < enF C len p := (enF_le C hp).2.2 hk
  have l1 : enF C len p ≤ len := (enF_le C l0).2.1
  have l2 : enF C len (enF C len p) ≤ len := (enF_le C l1).2.1
  have m2 : (enF C len p) ≤ (enF C len (enF C len p)) := (enF_le C l1).1
  have l3 : enF C len (enF C len (enF C len p)) ≤ len := (enF_le C l2).2.1
  have m3 : (enF C len (enF C len p)) ≤ (enF C len (enF C len (enF C len p))) := (enF_le C l2).1
  have hc0 := hc
  obtain ⟨G, hGd⟩ : ∃ G : Nat → Int32 → Prop, G = fun j x => pz x (if j = 0 then n else 10) := ⟨_, rfl⟩
  unfold nX2_coatIsTold nX7_takesCoat
  obtain ⟨R0, g1, g2, hr0⟩ := X7_goBehind_spec (M := M) hl hp hr
  have F0 : ∀ c, c ≠ 0 → c ≠ 18 → R0 c = T c := fun c c0 _ => g2 c c0
  rw [show V 0 12 = nI n from v0, g1, b1_some, show R0 17 0 = nI n from by rw [F0 17 (by decide) (by decide)]; exact t0]
  rcases num_bothL (M := M) G hl l0 hc0 hr0 0 (by decide) 0 rfl 0 (nI n - 1) (fun x h1 h2 => by rw [hGd]; exact rg_pz n (by omega) rfl h1 h2) (fun j hj => absurd hj (Nat.not_lt_zero j)) with ⟨S1, e1, e2, hx⟩ | ⟨S1, R1, e1, e2, hc1, hr1, f1, hn1⟩
  · rw [e1, b2_some, e2, b2_some, if_pos rfl, if_pos rfl]
    exact ⟨_, _, rfl, rfl, itP_f0 (fun c c0 _ _ c18 => F0 c c0 c18) l1 hx hr0⟩
  · rw [e1, b2_some, e2, b2_some, if_neg (by decide), if_neg (by decide)]
    have F1 : ∀ c, c ≠ 0 → c ≠ 18 → R1 c = T c := fun c c0 c18 => (f1 c c0 c18).trans (F0 c c0 c18)
    rcases num_bothL (M := M) G hl l1 hc1 hr1 1 (by decide) 1 rfl 0 9 (fun x h1 h2 => by rw [hGd]; exact rg_pz 10 (by decide) (by decide) h1 h2) hn1 with ⟨S2, e1, e2, hx⟩ | ⟨S2, R2, e1, e2, hc2, hr2, f2, hn2⟩
    · rw [e1, b2_some, e2, b2_some, if_pos rfl, if_pos rfl]
      exact ⟨_, _, rfl, rfl, itP_f0 (fun c c0 _ _ c18 => F1 c c0 c18) l2 hx hr1⟩
    · rw [e1, b2_some, e2, b2_some, if_neg (by decide), if_neg (by decide)]
      have F2 : ∀ c, c ≠ 0 → c ≠ 18 → R2 c = T c := fun c c0 c18 => (f2 c c0 c18).trans (F1 c c0 c18)
      obtain ⟨a, ha, ea⟩ : pz (R2 18 0) n := by
        have h := (hn2 0 (by decide)).2
        rw [hGd] at h
        exact h
      have hx10 : pz (R2 18 1) 10 := by
        have h := (hn2 1 (by decide)).2
        rw [hGd] at h
        exact h
      rw [ea, show (15 : Int32) + nI a = nI (15 + a) from nI_add 15 a, if_ok (show 15 + a < 140 by omega) (by decide), nI_clamp (show 15 + a < 2 ^ 31 by omega)]
      obtain ⟨Z, hZ⟩ : ∃ Z, Z = k_w R2 17 (15 + a) (R2 18 1) := ⟨_, rfl⟩
      rw [← hZ]
      have zo : ∀ c, c ≠ 17 → Z c = R2 c := fun c hc => by rw [hZ, w_ne _ _ hc]
      have hrZ := rT_congr (zo 16 (by decide)) (zo 0 (by decide)) hr2
      have FZ : ∀ c, c ≠ 0 → c ≠ 5 → c ≠ 17 → c ≠ 18 → Z c = T c := fun c c0 _ c17 c18 => (zo c c17).trans (F2 c c0 c18)
      rcases end_both hl l2 hc2 hrZ with ⟨S3, e1, hx, h3⟩ | ⟨S3, e1, hx, s2, -, h3⟩
      · rw [e1, b2_some, if_pos rfl]
        exact ⟨_, _, rfl, rfl, itP_f1 FZ l3 hx hrZ h3⟩
      · rw [e1, b2_some, if_neg (by decide), s2, (hn2 0 (by decide)).1, (hn2 1 (by decide)).1, ea, if_ok (show a < 7 by omega) (by decide), nI_clamp (show a < 2 ^ 31 by omega)]
        refine ⟨_, _, rfl, rfl, itP_ok (d' := d) FZ (by omega) l3 hrZ h3 hx (n := n) (m := m) ?_ (by omega)⟩
        rw [hZ, w_eq, F2 17 (by decide) (by decide)]
        exact vr_coat hv0 ha hx10
theorem loss_both {S V T : Nat → Nat → Int32} {M : Nat → Nat → Int64} {C : Nat → Int32} {len p n m d : Nat} (hl : len ≤ 150) (hp : p ≤ len) (hc : cT S C len p) (hr : rT T C len p) (hk : tkF C len p ≠ 0) (hv : vr V (T 17) n m 0 0 0 d 9999) : ∃ o o', nX2_lossIsTold S V = some o ∧ nX7_takesLose T M = some o' ∧ itP C len p d T o o' := by
  have hv0 := hv
  obtain ⟨⟨t0, t1, t2, t3, t4, t22⟩, ⟨b1, b2, b3, b4, b5, b6⟩, ⟨v0, v1, v2, v3, v4, v5⟩, hpp, hnd, hth, -⟩ := hv
  have l0 : p ≤ len := hp
  have m1 : p < enF C len p := (enF_le C hp).2.2 hk
  have l1 : enF C len p ≤ len := (enF_le C l0).2.1
  have l2 : enF C len (enF C len p) ≤ len := (enF_le C l1).2.1
  have m2 : (enF C len p) ≤ (enF C len (enF C len p)) := (enF_le C l1).1
  unfold nX2_lossIsTold nX7_takesLose
  obtain ⟨R0, g1, g2, hr0⟩ := X7_goBehind_spec (M := M) hl hp hr
  have F0 : ∀ c, c ≠ 0 → c ≠ 18 → R0 c = T c := fun c c0 _ => g2 c c0
  have hr0' := hr0
  obtain ⟨-, -, -, -, r21, r22⟩ := hr0'
  have h4 : tkF C len (enF C len p) ≤ 4 := tk_le C len (atF C len (enF C len p))
  have r17 : R0 17 = T 17 := F0 17 (by decide) (by decide)
  rw [show V 0 13 = nI m from v1, g1, b1_some, r21, r17, t1]
  rcases X2_number_spec hl hp hc (show 0 < 6 by decide) 0 (nI m - 1) with ⟨k, S1, e1, hc1, e3⟩ | ⟨k, S1, e1, hc1⟩
  · have k' := k
    obtain ⟨k1, k2, k3⟩ := k
    obtain ⟨a, ha, ea⟩ := rg_pz m (by omega) rfl k2 k3
    obtain ⟨-, -, -, -, g9, -⟩ := hth a ha
    have s20 : S1 2 0 = nI a := by rw [e3 0, if_pos rfl, ea]
    have v22 : R0 0 22 = nI a := (r22 k1).trans ea
    rw [ea] at k2 k3
    rw [show nX2_number S 0 0 (nI m - 1) = _ from e1, b2_some, if_neg (by decide), s20, if_ok (show a < 5 by omega) (by decide), nI_clamp (show a < 2 ^ 31 by omega), if_pos (show nI (tkF C len (enF C len p)) = 2 by rw [k1]; rfl), v22, show (0 : Int64) = (0 : Int32).toInt64 from by decide, in_gen, if_neg k2, if_neg k3, b1_some, if_neg (show ¬ (1 : Int32) = 0 by decide), show (10 : Int32) + nI a = nI (10 + a) from nI_add 10 a, if_ok (show 10 + a < 140 by omega) (by decide), nI_clamp (show 10 + a < 2 ^ 31 by omega), show V 9 a = T 17 (10 + a) from g9]
    by_cases c0 : T 17 (10 + a) = 0
    · rw [if_pos c0, if_pos c0]
      have ok4 : okN C len (enF C len p) 0 4 := ⟨k1, by rw [ea]; exact k2, by
        rw [ea, show (4 : Int32) = nI 4 from rfl, nI_ltI (by decide) (by omega)]; omega⟩
      obtain ⟨R1, f1, hr1, f2, f3⟩ := (X7_takes_spec (M := M) hl l1 hr0 (show 0 < 6 by decide) 0 4).1 ok4
      have f18 : R1 18 0 = nI a := by rw [f3 0, if_pos rfl, ea]
      rw [show nX7_takes R0 M 0 0 4 = _ from f1, b2_some, if_neg (by decide), f18, show (10 : Int32) + nI a = nI (10 + a) from nI_add 10 a, if_ok (show 10 + a < 140 by omega) (by decide), nI_clamp (show 10 + a < 2 ^ 31 by omega)]
      obtain ⟨Z, hZ⟩ : ∃ Z, Z = k_w R1 17 (10 + a) 1 := ⟨_, rfl⟩
      rw [← hZ]
      have zo : ∀ c, c ≠ 17 → Z c = R1 c := fun c hc => by rw [hZ, w_ne _ _ hc]
      have hrZ := rT_congr (zo 16 (by decide)) (zo 0 (by decide)) hr1
      have F1 : ∀ c, c ≠ 0 → c ≠ 18 → R1 c = T c := fun c c0 c18 => (f2 c c0 c18).trans (F0 c c0 c18)
      have FZ : ∀ c, c ≠ 0 → c ≠ 5 → c ≠ 17 → c ≠ 18 → Z c = T c := fun c c0 _ c17 c18 => (zo c c17).trans (F1 c c0 c18)
      rcases end_both hl l1 hc1 hrZ with ⟨S3, e1, hx, h3⟩ | ⟨S3, e1, hx, s2, -, h3⟩
      · rw [e1, b2_some, if_pos rfl]
        exact ⟨_, _, rfl, rfl, itP_f1 FZ l2 hx hrZ h3⟩
      · rw [e1, b2_some, if_neg (show ¬ (1 : Int32) = 0 by decide), if_okc (show a < 5 by omega) (by decide)]
        refine ⟨_, _, rfl, rfl, itP_ok (d' := d) FZ (by omega) l2 hrZ h3 hx (n := n) (m := m) ?_ (by omega)⟩
        rw [hZ, w_eq, F1 17 (by decide) (by decide)]
        exact vr_place hv0 ha ⟨1, by decide, rfl⟩
    · rw [if_neg c0, if_neg c0]
      exact ⟨_, _, rfl, rfl, itP_f0 (fun c c0 _ _ c18 => F0 c c0 c18) l1 hc1 hr0⟩
  · rw [show nX2_number S 0 0 (nI m - 1) = _ from e1, b2_some, if_pos rfl]
    have hno : (if nI (tkF C len (enF C len p)) = 2 then k_b1 (nX7_in (R0 0 22).toInt64 (0 : Int64) ((nI m - (1 : Int32)).toInt64)) (fun r27 => if r27 = 0 then some ((0 : Int32), R0) else if ((10 : Int32) + (R0 0 22)) < 0 ∨ 140 ≤ ((10 : Int32) + (R0 0 22)).toNatClampNeg then none else if (T 17 ((10 : Int32) + (R0 0 22)).toNatClampNeg) = 0 then k_b2 (nX7_takes R0 M (0 : Int32) (0 : Int32) (4 : Int32)) (fun r52 S52 => if r52 = 0 then some ((0 : Int32), S52) else if ((10 : Int32) + (S52 18 0)) < 0 ∨ 140 ≤ ((10 : Int32) + (S52 18 0)).toNatClampNeg then none else some ((1 : Int32), (k_w S52 17 (((10 : Int32) + (S52 18 0)).toNatClampNeg) (1 : Int32)))) else some ((0 : Int32), R0)) else some ((0 : Int32), R0)) = some (0, R0) := by
      by_cases c : tkF C len (enF C len p) = 2
      · rw [if_pos (show nI (tkF C len (enF C len p)) = 2 by rw [c]; rfl), show (0 : Int64) = (0 : Int32).toInt64 from by decide, in_gen, r22 c]
        by_cases c1 : vaF C len (enF C len p) < 0
        · rw [if_pos c1, b1_some, if_pos rfl]
        · rw [if_neg c1]
          by_cases c2 : nI m - 1 < vaF C len (enF C len p)
          · rw [if_pos c2, b1_some, if_pos rfl]
          · exact absurd ⟨c, c1, c2⟩ k
      · rw [if_neg (show ¬ nI (tkF C len (enF C len p)) = 2 from fun k => c ((nI_eq (show tkF C len (enF C len p) < 2 ^ 31 by omega) (show 2 < 2 ^ 31 by decide)).mp k))]
    rw [hno]
    exact ⟨_, _, rfl, rfl, itP_f0 (fun c c0 _ _ c18 => F0 c c0 c18) l1 hc1 hr0⟩
theorem vr_day17 {V : Nat → Nat → Int32} {T : Nat → Nat → Int32} {n m un uc up d : Nat} (h : vr V (T 17) n m un uc up d 9999) (hd : d < 9999) : vr (k_w (dgS V (T 17) n (T 17 22) m) 0 14 (T 17 22 + 1)) (k_w (gdS (lcF T 17 n) 17 n (T 17 22) m) 17 22 (T 17 22 + 1) 17) n m un uc up (d + 1) 9999 := by
  have hq0 := vq_of h
  have h' := h
  obtain ⟨⟨t0, t1, t2, t3, t4, t22⟩, ⟨b1, b2, b3, b4, b5, b6⟩, ⟨v0, v1, v2, v3, v4, v5⟩, hp, hnd, hth, hno, hca, hcq, hpa⟩ := h'
  have el : lcF T 17 n 17 = T 17 := lcF_ne (by decide)
  have hz : ∀ j, j ≠ 22 → k_w (gdS (lcF T 17 n) 17 n (T 17 22) m) 17 22 (T 17 22 + 1) 17 j = if 5 ≤ j ∧ j < 5 + m then dayH n (T 17) (T 17 22) (j - 5) else if 10 ≤ j ∧ j < 10 + m then dayP n (T 17) (T 17 22) (j - 10) else T 17 j := by
    intro j hj
    rw [w_off _ hj, gdS_at, el]
  have hq1 := vq_day hq0 (T 17 22) (T 17 22 + 1) (t' := k_w (gdS (lcF T 17 n) 17 n (T 17 22) m) 17 22 (T 17 22 + 1) 17) (fun j _ hj => hz j hj)
  obtain ⟨-, hp', -, hth'⟩ := hq1
  refine vr_set h (fun c h0 h3 h8 h9 h14 => by rw [w_ne _ _ h0, dgS_o h8 h9]) ⟨rfl, rfl⟩ (fun j hj => ?_) ⟨?_, ?_, by omega⟩ ⟨?_, ?_, Nat.le_refl up⟩ (fun p hpn => ⟨(hp' p hpn).2.2.1, (hp' p hpn).2.2.2.2.2⟩) (fun k hk => ⟨(hth' k hk).2.2.2.1, (hth' k hk).2.2.2.2.1, (hth' k hk).2.2.2.2.2.2.2.2.1, (hth' k hk).2.2.2.2.2.2.2.2.2⟩)
  · rw [hz j (by omega), if_neg (by omega), if_neg (by omega)]
  · rw [w_at, t22, nI_1]
  · rw [w_at, t22, nI_1]
  · rw [w_ne _ _ (by decide), dgS_o (by decide) (by decide)]; exact v4
  · rw [hz 4 (by decide), if_neg (by omega), if_neg (by omega)]; exact t4
def dzS (n m : Nat) (V T : Nat → Nat → Int32) : Nat → (Nat → Nat → Int32) × (Nat → Nat → Int32)
  | 0 => (V, T)
  | i + 1 => (k_w (dgS (dzS n m V T i).1 ((dzS n m V T i).2 17) n ((dzS n m V T i).2 17 22) m) 0 14 ((dzS n m V T i).2 17 22 + 1),
      k_w (gdS (lcF (dzS n m V T i).2 17 n) 17 n ((dzS n m V T i).2 17 22) m) 17 22 ((dzS n m V T i).2 17 22 + 1))
theorem dz_inv {V T : Nat → Nat → Int32} {n m d : Nat} (h : vr V (T 17) n m 0 0 0 d 9999) : ∀ i, d + i ≤ 9999 → vr (dzS n m V T i).1 ((dzS n m V T i).2 17) n m 0 0 0 (d + i) 9999 ∧ ∀ c, c ≠ 5 → c ≠ 17 → (dzS n m V T i).2 c = T c
  | 0, _ => ⟨h, fun _ _ _ => rfl⟩
  | i + 1, hi => by
    obtain ⟨h1, h2⟩ := dz_inv h i (by omega)
    refine ⟨vr_day17 (d := d + i) h1 (by omega), fun c h5 h17 => ?_⟩
    show k_w (gdS (lcF (dzS n m V T i).2 17 n) 17 n _ m) 17 22 _ c = T c
    rw [w_ne _ _ h17, gdS_o h17, lcF_ne h5, h2 c h5 h17]
theorem days_both {S V T : Nat → Nat → Int32} {M : Nat → Nat → Int64} {C : Nat → Int32} {len p n m d : Nat} (hl : len ≤ 150) (hp : p ≤ len) (hc : cT S C len p) (hr : rT T C len p) (hk : tkF C len p ≠ 0) (hv : vr V (T 17) n m 0 0 0 d 9999) (hd : d + 99 ≤ 9999) : ∃ o o', nX2_daysAreTold S V = some o ∧ nX7_takesDays T M = some o' ∧ itP C len p d T o o' := by
  have hv0 := hv
  obtain ⟨⟨t0, t1, t2, t3, t4, t22⟩, ⟨b1, b2, b3, b4, b5, b6⟩, ⟨v0, v1, v2, v3, v4, v5⟩, hpp, hnd, hth, -⟩ := hv
  have l0 : p ≤ len := hp
  have m1 : p < enF C len p := (enF_le C hp).2.2 hk
  have l1 : enF C len p ≤ len := (enF_le C l0).2.1
  have l2 : enF C len (enF C len p) ≤ len := (enF_le C l1).2.1
  have m2 : (enF C len p) ≤ (enF C len (enF C len p)) := (enF_le C l1).1
  have hc0 := hc
  obtain ⟨G, hGd⟩ : ∃ G : Nat → Int32 → Prop, G = fun _ x => ∃ j, 1 ≤ j ∧ j < 100 ∧ x = nI j := ⟨_, rfl⟩
  unfold nX2_daysAreTold nX7_takesDays
  obtain ⟨R0, g1, g2, hr0⟩ := X7_goBehind_spec (M := M) hl hp hr
  have F0 : ∀ c, c ≠ 0 → c ≠ 18 → R0 c = T c := fun c c0 _ => g2 c c0
  rw [g1, b1_some]
  rcases num_bothL (M := M) G hl l0 hc0 hr0 0 (by decide) 0 rfl 1 99 (fun x h1 h2 => by
    rcases in1_spec (x := x) with ⟨-, q⟩ | ⟨q, -⟩
    · rw [hGd]; exact q
    · have e := in_gen x 1 99
      rw [if_neg h1, if_neg h2] at e
      rw [show (1 : Int64) = (1 : Int32).toInt64 from by decide, show (99 : Int64) = (99 : Int32).toInt64 from by decide, e] at q
      exact absurd q (by decide)) (fun j hj => absurd hj (Nat.not_lt_zero j)) with ⟨S1, e1, e2, hx⟩ | ⟨S1, R1, e1, e2, hc1, hr1, f1, hn1⟩
  · rw [e1, b2_some, e2, b2_some, if_pos rfl, if_pos rfl]
    exact ⟨_, _, rfl, rfl, itP_f0 (fun c c0 _ _ c18 => F0 c c0 c18) l1 hx hr0⟩
  · rw [e1, b2_some, e2, b2_some, if_neg (by decide), if_neg (by decide)]
    have F1 : ∀ c, c ≠ 0 → c ≠ 18 → R1 c = T c := fun c c0 c18 => (f1 c c0 c18).trans (F0 c c0 c18)
    obtain ⟨x, x1, x99, ex⟩ : ∃ j, 1 ≤ j ∧ j < 100 ∧ R1 18 0 = nI j := by
      have h := (hn1 0 (by decide)).2
      rw [hGd] at h
      exact h
    have r17 : R1 17 = T 17 := F1 17 (by decide) (by decide)
    have hv1 : vr V (R1 17) n m 0 0 0 d 9999 := by rw [r17]; exact hv0
    have inv := fun i (hi : i ≤ x) => dz_inv hv1 i (by omega)
    have hloop : k_it (fun st => nX7_takesDays_l19 st.1 st.2 M) 1000 ((0 : Int32), R1) = some (1, (dzS n m V R1 x).2) := by
      refine it_for (fun i => (nI i, (dzS n m V R1 i).2)) x (by omega) (fun i hi => ?_) ?_
      · obtain ⟨q1, q2⟩ := inv i (by omega)
        show nX7_takesDays_l19 (nI i) (dzS n m V R1 i).2 M = _
        unfold nX7_takesDays_l19
        rw [q2 18 (by decide) (by decide), ex, if_leF hi (by omega), X7_goDay_17_spec _ (vq_of q1), b1_some, gdS_at, if_neg (by omega), if_neg (by omega), lcF_ne (by decide), nI_1]
        rfl
      · obtain ⟨q1, q2⟩ := inv x (Nat.le_refl x)
        show nX7_takesDays_l19 (nI x) (dzS n m V R1 x).2 M = _
        unfold nX7_takesDays_l19
        rw [q2 18 (by decide) (by decide), ex, if_leT (Nat.le_refl x) (by omega)]
        rfl
    rw [hloop]
    obtain ⟨q1, q2⟩ := inv x (Nat.le_refl x)
    obtain ⟨Z, hZ⟩ : ∃ Z, Z = (dzS n m V R1 x).2 := ⟨_, rfl⟩
    rw [← hZ]
    rw [← hZ] at q2
    have hrZ := rT_congr (q2 16 (by decide) (by decide)) (q2 0 (by decide) (by decide)) hr1
    have FZ : ∀ c, c ≠ 0 → c ≠ 5 → c ≠ 17 → c ≠ 18 → Z c = T c := fun c c0 c5 c17 c18 => (q2 c c5 c17).trans (F1 c c0 c18)
    rcases end_both hl l1 hc1 hrZ with ⟨S3, e1, hx, h3⟩ | ⟨S3, e1, hx, s2, -, h3⟩
    · rw [e1, b2_some, if_pos rfl]
      exact ⟨_, _, rfl, rfl, itP_f1 FZ l2 hx hrZ h3⟩
    · have s20 : S3 2 0 = nI x := by rw [s2, (hn1 0 (by decide)).1, ex]
      have hcl : k_it (fun st => nX2_daysAreTold_l22 st.1 S3 st.2) 1000 ((0 : Int32), V) = some (1, S3, (dzS n m V R1 x).1) := by
        refine it_for (fun i => (nI i, (dzS n m V R1 i).1)) x (by omega) (fun i hi => ?_) ?_
        · obtain ⟨u1, u2⟩ := inv i (by omega)
          show nX2_daysAreTold_l22 (nI i) S3 (dzS n m V R1 i).1 = _
          unfold nX2_daysAreTold_l22
          have hd14 : (dzS n m V R1 i).1 0 14 = (dzS n m V R1 i).2 17 22 := u1.2.2.1.2.2.2.2.2.trans u1.1.2.2.2.2.2.symm
          rw [s20, if_leF hi (by omega), X5_dayGoesBy_spec (vq_of u1) hd14, b1_some, nI_1]
          rfl
        · show nX2_daysAreTold_l22 (nI x) S3 (dzS n m V R1 x).1 = _
          unfold nX2_daysAreTold_l22
          rw [s20, if_leT (Nat.le_refl x) (by omega)]
          rfl
      rw [e1, b2_some, if_neg (by decide), hcl]
      rw [← hZ] at q1
      exact ⟨_, _, rfl, rfl, itP_ok FZ (by omega) l2 hrZ h3 hx q1 (by omega)⟩
