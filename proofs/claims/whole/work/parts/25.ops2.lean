/-! to whom a thing comes next, on both sides; walks along it -/
theorem it_ind {σ ρ : Type} {f : σ → Option (σ ⊕ ρ)} (st : Nat → σ) (N : Nat) {x : ρ} (hs : ∀ i, i < N → f (st i) = some (.inl (st (i + 1))) ∨ f (st i) = some (.inr x)) (hx : f (st N) = some (.inr x)) (hN : N < 1000) : k_it f 1000 (st 0) = some x := by
  have key : ∀ (j i : Nat), i + j = N → ∀ fuel, j < fuel → k_it f fuel (st i) = some x := by
    intro j
    induction j with
    | zero =>
      intro i hi fuel hf
      obtain ⟨g, rfl⟩ : ∃ g, fuel = g + 1 := ⟨fuel - 1, by omega⟩
      have e : i = N := by omega
      subst e
      rw [k_it, hx]
    | succ j ih =>
      intro i hi fuel hf
      obtain ⟨g, rfl⟩ : ∃ g, fuel = g + 1 := ⟨fuel - 1, by omega⟩
      rcases hs i (by omega) with h | h
      · rw [k_it, h]
        exact ih (i + 1) (by omega) g (by omega)
      · rw [k_it, h]
  exact key N 0 (by omega) 1000 hN
def nxF (n : Nat) (t ct : Nat → Int32) (k q : Nat) : Int32 := cmF n (fun p => t (23 + p)) (fun p => t (30 + p)) (fun j => t (37 + j)) ct (t (65 + k)) (t (70 + k)).toNatClampNeg q (t 22)
theorem nxF_who (n : Nat) (t ct : Nat → Int32) (k q : Nat) : nxF n t ct k q = -1 ∨ ∃ j, j < n ∧ j ≠ q ∧ nxF n t ct k q = nI j := cmF_who _ _ _ _ _ _ _ _ _
theorem nxF_congr {n : Nat} {t ct ct' : Nat → Int32} {k q : Nat} (hs : pz (t (70 + k)) 4) (hq : q < n) (h : ∀ p, p < n → ct p = ct' p) : nxF n t ct k q = nxF n t ct' k q := by
  obtain ⟨s, h1, h2⟩ := hs
  unfold nxF
  rw [h2, nI_clamp (by omega)]
  exact cmF_congr (fun _ _ => rfl) (fun _ _ => rfl) (fun _ _ => rfl) h _ h1 hq _
theorem X5_nextOf_spec {V : Nat → Nat → Int32} {t ct : Nat → Int32} {n k q : Nat} (hn : n ≤ 7) (hk : k < 5) (hq : q < n) (hV : V 0 12 = nI n) (h1 : ∀ p, p < n → V 1 p = t (23 + p)) (h2 : ∀ p, p < n → V 2 p = t (30 + p)) (h3 : ∀ p, p < n → V 3 p = ct p) (h4 : ∀ j, j < 4 * n → V 4 j = t (37 + j)) (h5 : V 5 k = t (65 + k)) (h6 : V 6 k = t (70 + k)) (hd : V 0 14 = t 22) (hh : ∀ p, p < n → pz (t (30 + p)) 20) (hs : pz (t (70 + k)) 4) : nX5_nextOf V (nI k) (nI q) = some (nxF n t ct k q) := by
  obtain ⟨s, hs4, e⟩ := hs
  unfold nX5_nextOf nxF
  rw [if_ok hk (by decide), if_ok hk (by decide), nI_clamp (by omega), h5, h6, hd, e, nI_clamp (by omega), X5_goesTo_spec hn hV hq hs4 (fun j hj => by rw [h2 j hj]; exact hh j hj), b1_some]
  rw [cmF_congr (n := n) (kd' := fun p => t (23 + p)) (hs' := fun p => t (30 + p)) (nd' := fun j => t (37 + j)) (ct' := ct) h1 h2 h4 h3 _ hs4 hq _]
theorem X7_comesNow_spec {T : Nat → Nat → Int32} {M : Nat → Nat → Int64} {n k q : Nat} (hn : n ≤ 7) (hk : k < 5) (hq : q < n) (hT : T 1 0 = nI n) (hh : ∀ p, p < n → pz (T 1 (30 + p)) 20) (hnd : ∀ j, j < 4 * n → pz (T 1 (37 + j)) 10) (hct : ∀ p, p < n → pz (T 5 p) 10) (hs : pz (T 1 (70 + k)) 4) : nX7_comesNow T M (nI k) (nI q) = some (nxF n (T 1) (T 5) k q) := by
  obtain ⟨s, hs4, e⟩ := hs
  unfold nX7_comesNow nxF
  rw [show (65 : Int32) + nI k = nI (65 + k) from nI_add 65 k, show (70 : Int32) + nI k = nI (70 + k) from nI_add 70 k, if_ok (show 65 + k < 284 by omega) (by decide), if_ok (show 70 + k < 284 by omega) (by decide), nI_clamp (by omega), nI_clamp (by omega), e, nI_clamp (by omega), X7_comesTo_1_spec hn hT hq hs4 hh hnd hct, b1_some]
/-- under the relation: both sides answer the same, with the coats as they are -/
theorem next6 {S : Nat → Nat → Int32} {t : Nat → Int32} {n m un uc up d dm k q : Nat} (h : vr (k_wi S 1) t n m un uc up d dm) (hk : k < m) (hq : q < n) : nX5_nextOf (k_wi S 1) (nI k) (nI q) = some (nxF n t (fun p => t (15 + p)) k q) := by
  obtain ⟨⟨t0, t1, t2, t3, t4, t22⟩, ⟨b1, b2, b3, b4, b5, b6⟩, ⟨v0, v1, v2, v3, v4, v5⟩, hp, hnd, hth, -⟩ := h
  obtain ⟨g5, g6, -, -, -, -, g7, -⟩ := hth k hk
  exact X5_nextOf_spec b1 (by omega) hq v0 (fun p h => (hp p h).1) (fun p h => (hp p h).2.1) (fun p h => (hp p h).2.2.1) (fun j h => (hnd j h).1) g5 g6 (by rw [v5, t22]) (fun p h => (hp p h).2.2.2.2.1) g7
theorem next7 {V T : Nat → Nat → Int32} {M : Nat → Nat → Int64} {n m un uc up d dm k q : Nat} (h : vr V (T 1) n m un uc up d dm) (hk : k < m) (hq : q < n) : nX7_comesNow (lcF T 1 n) M (nI k) (nI q) = some (nxF n (T 1) (fun p => T 1 (15 + p)) k q) := by
  obtain ⟨⟨t0, t1, t2, t3, t4, t22⟩, ⟨b1, b2, b3, b4, b5, b6⟩, -, hp, hnd, hth, -⟩ := h
  obtain ⟨-, -, -, -, -, -, g7, -⟩ := hth k hk
  have e1 : lcF T 1 n 1 = T 1 := lcF_ne (by decide)
  rw [X7_comesNow_spec b1 (by omega) hq (by rw [e1]; exact t0) (fun p h => by rw [e1]; exact (hp p h).2.2.2.2.1) (fun j h => by rw [e1]; exact (hnd j h).2) (fun p h => by rw [lcF_5]; simp only [if_pos h]; exact (hp p h).2.2.2.2.2) (by rw [e1]; exact g7), e1, lcF_5]
  rw [nxF_congr (ct' := fun p => T 1 (15 + p)) g7 hq (fun p h => by simp only [if_pos h])]
theorem op_comes : k_op_comes k_R := by
  intro S L T M p1 hR
  have hR0 := hR
  obtain ⟨⟨n, m, un, uc, up, d, hv⟩, -⟩ := hR
  have hv0 := hv
  obtain ⟨⟨t0, t1, t2, t3, t4, t22⟩, ⟨b1, b2, b3, b4, b5, b6⟩, ⟨v0, v1, v2, v3, v4, v5⟩, hp, hnd, hth, -⟩ := hv
  have v1 : S 1 13 = nI m := v1
  by_cases h1 : pz p1 m
  · obtain ⟨k, hk, rfl⟩ := h1
    obtain ⟨g5, g6, g7, g8, g9, -, -, -, ⟨q, hq, eq⟩, -⟩ := hth k hk
    have g8 : S 9 k = T 1 (5 + k) := g8
    refine ⟨nxF n (T 1) (fun p => T 1 (15 + p)) k q, S, lcF T 1 n, ?_, ?_, R_lc 1 n hR0⟩
    · unfold nX6_comes
      rw [isThing_in v1 b2 (z_nI hk), b1_some, if_neg (by decide), if_ok (show k < 5 by omega) (by decide), nI_clamp (by omega), g8, eq, next6 hv0 hk hq, b1_some]
    · unfold nX7_comes
      rw [isThing7_in t1 b2 (z_nI hk), b1_some, if_neg (by decide), X7_layCoats_1_spec b1 t0, b1_some, show (5 : Int32) + nI k = nI (5 + k) from nI_add 5 k, if_ok (show 5 + k < 284 by omega) (by decide), nI_clamp (by omega), lcF_ne (by decide), eq, next7 hv0 hk hq, b1_some]
  · refine ⟨-2, _, _, ?_, ?_, R_bad 0 (by decide) hR0⟩
    · unfold nX6_comes nX6_refusedAsBad
      rw [isThing_out v1 b2 h1, b1_some, if_pos rfl]; rfl
    · unfold nX7_comes nX7_bad
      rw [isThing7_out t1 b2 h1, b1_some, if_pos rfl]; rfl
