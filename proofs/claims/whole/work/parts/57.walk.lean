/-! loops by what holds of their states -/
theorem it_inv {σ ρ : Type} {f : σ → Option (σ ⊕ ρ)} {Post : ρ → Prop} (Inv : Nat → σ → Prop) (N : Nat) (hN : N < 1000) (hs : ∀ i st, i < N → Inv i st → (∃ st', f st = some (.inl st') ∧ Inv (i + 1) st') ∨ ∃ x, f st = some (.inr x) ∧ Post x) (hx : ∀ st, Inv N st → ∃ x, f st = some (.inr x) ∧ Post x) {st0 : σ} (h0 : Inv 0 st0) : ∃ x, k_it f 1000 st0 = some x ∧ Post x := by
  have key : ∀ (j i fuel : Nat) (st : σ), i + j = N → j < fuel → Inv i st → ∃ x, k_it f fuel st = some x ∧ Post x := by
    intro j
    induction j with
    | zero =>
      intro i fuel st h1 h2 h3
      obtain ⟨fu, rfl⟩ : ∃ fu, fuel = fu + 1 := ⟨fuel - 1, by omega⟩
      have e : i = N := by omega
      subst e
      obtain ⟨x, hx1, hx2⟩ := hx st h3
      exact ⟨x, by rw [k_it, hx1], hx2⟩
    | succ j ih =>
      intro i fuel st h1 h2 h3
      obtain ⟨fu, rfl⟩ : ∃ fu, fuel = fu + 1 := ⟨fuel - 1, by omega⟩
      rcases hs i st (by omega) h3 with ⟨st', e1, e2⟩ | ⟨x, e1, e2⟩
      · obtain ⟨x, hx1, hx2⟩ := ih (i + 1) fu st' (by omega) (by omega) e2
        exact ⟨x, by rw [k_it, e1]; exact hx1, hx2⟩
      · exact ⟨x, by rw [k_it, e1], e2⟩
  exact key N 0 1000 st0 (by omega) hN h0
/-! longs that are small -/
theorem nL_lt {a b : Nat} (ha : a < 2 ^ 63) (hb : b < 2 ^ 63) : (nL a < nL b) = (a < b) := propext (Int64.ofNat_lt_iff_lt ha hb)
theorem nL_le {a b : Nat} (ha : a < 2 ^ 63) (hb : b < 2 ^ 63) : (nL a ≤ nL b) = (a ≤ b) := propext (Int64.ofNat_le_iff_le ha hb)
theorem nL_add (a b : Nat) : nL a + nL b = nL (a + b) := (Int64.ofNat_add a b).symm
theorem nL_mul (a b : Nat) : nL a * nL b = nL (a * b) := (Int64.ofNat_mul a b).symm
theorem nL_wide {a : Nat} (ha : a < 2 ^ 31) : (nI a).toInt64 = nL a := Int32.toInt64_ofNat' (by rw [show Int32.maxValue.toInt = 2147483647 from by decide]; omega)
theorem cmp_ge (x y : Int64) : (0 ≤ lg_cmp x y) = (y ≤ x) := by
  have h := cmp_lt x y
  refine propext ⟨fun q => ?_, fun q => ?_⟩
  · rcases Int64.le_total y x with r | r
    · exact r
    · by_cases e : x = y
      · rw [e]; exact Int64.le_refl y
      · exact absurd (h ▸ Int64.lt_of_le_of_ne r e) (Int32.not_lt.mpr q)
  · refine Int32.not_lt.mp (fun r => ?_)
    have r' : x < y := h ▸ r
    exact absurd r' (Int64.not_lt.mpr q)
theorem cmp_eq (x y : Int64) : (lg_cmp x y = 0) = (x = y) := by
  unfold lg_cmp
  by_cases h1 : x > y
  · rw [if_pos h1]
    exact propext ⟨fun h => absurd h (by decide), fun h => by rw [h] at h1; exact absurd h1 Int64.lt_irrefl⟩
  · rw [if_neg h1]
    by_cases h2 : x = y
    · rw [if_pos h2]
      exact propext ⟨fun _ => h2, fun _ => rfl⟩
    · rw [if_neg h2]
      exact propext ⟨fun h => absurd h (by decide), fun h => absurd h h2⟩
theorem wl_at (S : Nat → Nat → Int64) (c k : Nat) (x : Int64) : k_wl S c k x c k = x := by rw [wl_eq]; exact if_pos rfl
theorem wl_off {S : Nat → Nat → Int64} {c k j : Nat} (x : Int64) (h : j ≠ k) : k_wl S c k x c j = S c j := by rw [wl_eq]; exact if_neg h
/-! to whom it comes, on a day -/
def dsF (n : Nat) (t : Nat → Int32) (k q : Nat) (e : Int32) : Int32 := cmF n (fun p => t (23 + p)) (fun p => t (30 + p)) (fun j => t (37 + j)) (fun p => t (15 + p)) (t (65 + k)) (t (70 + k)).toNatClampNeg q e
def tgF (n : Nat) (t : Nat → Int32) (k q : Nat) (e : Int32) : Nat := if dsF n t k q e = -1 then 7 + q else (dsF n t k q e).toNatClampNeg
theorem tg_cases {n q : Nat} (hn : n ≤ 7) (t : Nat → Int32) (k : Nat) (e : Int32) : (dsF n t k q e = -1 ∧ tgF n t k q e = 7 + q) ∨ ∃ g, g < n ∧ g ≠ q ∧ dsF n t k q e = nI g ∧ tgF n t k q e = g := by
  rcases cmF_who n (fun p => t (23 + p)) (fun p => t (30 + p)) (fun j => t (37 + j)) (fun p => t (15 + p)) (t (65 + k)) (t (70 + k)).toNatClampNeg q e with h | ⟨g, h1, h2, h3⟩
  · have h : dsF n t k q e = -1 := h
    exact Or.inl ⟨h, by unfold tgF; rw [if_pos h]⟩
  · have h3 : dsF n t k q e = nI g := h3
    refine Or.inr ⟨g, h1, h2, h3, ?_⟩
    unfold tgF
    rw [h3, if_n1 (by omega), nI_clamp (by omega)]
theorem dest6 {V : Nat → Nat → Int32} {t : Nat → Int32} {n m un uc up d dm k q : Nat} (h : vr V t n m un uc up d dm) (hk : k < m) (hq : q < n) (e : Int32) : nX5_goesTo V (V 5 k) (V 6 k) (nI q) e = some (dsF n t k q e) := by
  obtain ⟨-, ⟨b1, b2, b3, b4, b5, b6⟩, ⟨v0, v1, v2, v3, v4, v5⟩, hp, hnd, hth, -⟩ := h
  obtain ⟨g5, g6, -, -, -, -, ⟨s, hs4, es⟩, -⟩ := hth k hk
  unfold dsF
  rw [g5, g6, es, nI_clamp (by omega), X5_goesTo_spec b1 v0 hq hs4 (fun j hj => by rw [(hp j hj).2.1]; exact (hp j hj).2.2.2.2.1)]
  rw [cmF_congr (n := n) (kd' := fun p => t (23 + p)) (hs' := fun p => t (30 + p)) (nd' := fun j => t (37 + j)) (ct' := fun p => t (15 + p)) (fun p h => (hp p h).1) (fun p h => (hp p h).2.1) (fun j h => (hnd j h).1) (fun p h => (hp p h).2.2.1) _ hs4 hq _]
theorem dest7 {V T Z : Nat → Nat → Int32} {M : Nat → Nat → Int64} {n m un uc up d dm k q : Nat} (h : vr V (T 1) n m un uc up d dm) (z1 : Z 1 = T 1) (z5 : Z 5 = lcF T 1 n 5) (hk : k < m) (hq : q < n) (e : Int32) : nX7_comesTo_1 Z M (Z 1 (65 + k)) (Z 1 (70 + k)) e (nI q) = some (dsF n (T 1) k q e) := by
  obtain ⟨⟨t0, t1, t2, t3, t4, t22⟩, ⟨b1, b2, b3, b4, b5, b6⟩, -, hp, hnd, hth, -⟩ := h
  obtain ⟨-, -, -, -, -, -, ⟨s, hs4, es⟩, -⟩ := hth k hk
  unfold dsF
  have e70 : Z 1 (70 + k) = nI s := by rw [z1]; exact es
  rw [e70, es, nI_clamp (by omega), X7_comesTo_1_spec (T := Z) b1 (by rw [z1]; exact t0) hq hs4 (fun j hj => by rw [z1]; exact (hp j hj).2.2.2.2.1) (fun j hj => by rw [z1]; exact (hnd j hj).2) (fun j hj => by rw [z5, lcF_5]; simp only [if_pos hj]; exact (hp j hj).2.2.2.2.2), z1, z5, lcF_5]
  rw [cmF_congr (n := n) (kd' := fun p => T 1 (23 + p)) (hs' := fun p => T 1 (30 + p)) (nd' := fun j => T 1 (37 + j)) (ct' := fun p => T 1 (15 + p)) (fun p h => rfl) (fun p h => rfl) (fun j h => rfl) (fun p h => by simp only [if_pos h]) _ hs4 hq _]
/-! where it stands first -/
def stF (t : Nat → Int32) (k : Nat) : Nat := if t (10 + k) = 0 then (t (5 + k)).toNatClampNeg else 7 + (t (5 + k)).toNatClampNeg
def s0F (t : Nat → Int32) (k a b : Nat) (j : Nat) : Nat := if j = stF t k then b else a
theorem X0_fill_spec (L : Nat → Nat → Int64) (x : Int64) : ∃ L', nX0_fill 7 L x = some L' ∧ ∀ j, j < 7 → L' 0 j = x := by
  unfold nX0_fill
  refine it_inv (fun i st => st.1 = nI i ∧ ∀ j, j < i → st.2 0 j = x) 7 (by decide) (fun i st hi hv => ?_) (fun st hv => ?_) ⟨rfl, fun j hj => absurd hj (Nat.not_lt_zero j)⟩
  · obtain ⟨y, L1⟩ := st
    obtain ⟨h1, h2⟩ := hv
    have h1 : y = nI i := h1
    have h2 : ∀ j, j < i → L1 0 j = x := h2
    refine Or.inl ⟨(nI (i + 1), k_wl L1 0 i x), ?_, rfl, fun j hj => ?_⟩
    · show nX0_fill_l2 7 x y L1 = _
      unfold nX0_fill_l2
      rw [h1, show Int32.ofNat 7 = nI 7 from rfl, if_leF hi (by decide), if_ok hi (by decide), nI_clamp (by omega), nI_1]
    · show k_wl L1 0 i x 0 j = x
      by_cases q : j = i
      · rw [q, wl_at]
      · rw [wl_off x q]; exact h2 j (by omega)
  · obtain ⟨y, L1⟩ := st
    obtain ⟨h1, h2⟩ := hv
    have h1 : y = nI 7 := h1
    refine ⟨L1, ?_, h2⟩
    show nX0_fill_l2 7 x y L1 = _
    unfold nX0_fill_l2
    rw [h1, if_pos (by decide)]
    rfl
theorem X0_setOut_spec {V S : Nat → Nat → Int32} {L : Nat → Nat → Int64} {t : Nat → Int32} {n m un uc up d dm k : Nat} (h : vr V t n m un uc up d dm) (hk : k < m) (a b : Nat) : ∃ L', nX0_setOut S L V (nI k) (nL a) (nL b) = some L' ∧ ∀ j, j < 7 → L' 1 j = nL (s0F t k a b j) ∧ L' 2 j = nL (s0F t k a b (7 + j)) := by
  obtain ⟨-, ⟨b1, b2, b3, b4, b5, b6⟩, -, hp, hnd, hth, -⟩ := h
  obtain ⟨-, -, -, g8, g9, -, -, -, ⟨p, hp7, ep⟩, -⟩ := hth k hk
  obtain ⟨La, e1, f1⟩ := X0_fill_spec (k_wi L 1) (nL a)
  obtain ⟨Lb, e2, f2⟩ := X0_fill_spec (k_wi (k_sp L 1 1 La) 2) (nL a)
  have r1 : k_sp (k_sp L 1 1 La) 2 1 Lb 1 = La 0 := by
    rw [sp_out (by decide), sp_in (by decide) (by decide)]
  have r2 : k_sp (k_sp L 1 1 La) 2 1 Lb 2 = Lb 0 := by
    rw [sp_in (by decide) (by decide)]
  obtain ⟨X, hX⟩ : ∃ X, X = k_sp (k_sp L 1 1 La) 2 1 Lb := ⟨_, rfl⟩
  unfold nX0_setOut
  rw [e1, b1_some, e2, b1_some, ← hX]
  rw [← hX] at r1 r2
  rw [if_ok (show k < 5 by omega) (by decide), if_ok (show k < 5 by omega) (by decide), if_ok (show k < 5 by omega) (by decide), nI_clamp (show k < 2 ^ 31 by omega), g8, g9, ep, if_ok (show p < 7 by omega) (by decide), if_ok (show p < 7 by omega) (by decide), nI_clamp (show p < 2 ^ 31 by omega)]
  unfold s0F stF
  rw [ep, nI_clamp (show p < 2 ^ 31 by omega)]
  by_cases c : t (10 + k) = 0
  · rw [if_pos c, if_pos c]
    refine ⟨_, rfl, fun j hj => ⟨?_, ?_⟩⟩
    · rw [wl_eq]
      show (if j = p then nL b else X 1 j) = _
      by_cases q : j = p
      · rw [if_pos q, if_pos q]
      · rw [if_neg q, if_neg q, r1, f1 j hj]
    · rw [wl_ne _ _ (by decide), r2, f2 j hj, if_neg (by omega)]
  · rw [if_neg c, if_neg c]
    refine ⟨_, rfl, fun j hj => ⟨?_, ?_⟩⟩
    · rw [wl_ne _ _ (by decide), r1, f1 j hj, if_neg (by omega)]
    · rw [wl_eq]
      show (if j = p then nL b else X 2 j) = _
      by_cases q : j = p
      · rw [if_pos q, if_pos (by omega)]
      · rw [if_neg q, if_neg (by omega), r2, f2 j hj]
theorem X0_takeNext_spec (S : Nat → Nat → Int32) (L : Nat → Nat → Int64) : ∃ L', nX0_takeNext S L = some L' ∧ ∀ j, j < 7 → L' 1 j = L 3 j ∧ L' 2 j = L 4 j := by
  unfold nX0_takeNext
  rw [if_neg (by decide), if_neg (by decide)]
  refine ⟨_, rfl, fun j hj => ⟨?_, ?_⟩⟩
  · rw [r_ne _ (by decide), r_eq]
    exact if_pos (show 0 ≤ j ∧ j < 0 + 7 by omega) |>.trans (by rw [show Int32.toNatClampNeg 0 = 0 from by decide, Nat.sub_zero, Nat.zero_add])
  · rw [r_eq, r_ne _ (by decide)]
    exact if_pos (show 0 ≤ j ∧ j < 0 + 7 by omega) |>.trans (by rw [show Int32.toNatClampNeg 0 = 0 from by decide, Nat.sub_zero, Nat.zero_add])
