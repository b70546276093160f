/-! nothing yet; loops whose steps are known -/
def k_z : Nat → Nat → Int32 := fun _ _ => 0
def k_zl : Nat → Nat → Int64 := fun _ _ => 0
theorem k_it_const {σ ρ : Type} {f : σ → Option (σ ⊕ ρ)} (st : Nat → σ) : ∀ (N m : Nat), (∀ i, i < N → f (st i) = some (.inl (st (i + 1)))) → k_it f (N + m) (st 0) = k_it f m (st N)
  | 0, m, _ => by rw [Nat.zero_add]
  | N + 1, m, h => by
    have h1 : N + 1 + m = N + (m + 1) := by omega
    rw [h1, k_it_const st N (m + 1) (fun i hi => h i (by omega)), k_it, h N (by omega)]
theorem it_for {σ ρ : Type} {f : σ → Option (σ ⊕ ρ)} (st : Nat → σ) (N : Nat) {x : ρ} (hN : N < 1000) (hs : ∀ i, i < N → f (st i) = some (.inl (st (i + 1)))) (hx : f (st N) = some (.inr x)) : k_it f 1000 (st 0) = some x := by
  have h1 := k_it_const st N (1000 - N) hs
  rw [show N + (1000 - N) = 1000 by omega] at h1
  rw [h1, show 1000 - N = (999 - N) + 1 by omega, k_it, hx]
theorem k_wz (c k : Nat) : k_w k_z c k 0 = k_z := by
  funext i j
  unfold k_w k_z upd
  by_cases h : i = c
  · rw [if_pos h]
    show (if j = k then (0 : Int32) else 0) = 0
    by_cases q : j = k
    · rw [if_pos q]
    · rw [if_neg q]
  · rw [if_neg h]
theorem k_begin {L : Nat → Nat → Int64} : nX7_begin_1 k_z L = some k_z := by
  unfold nX7_begin_1
  refine it_for (fun i => (nI i, k_z)) 140 (by decide) (fun i hi => ?_) ?_
  · show nX7_begin_1_l2 (nI i) k_z L = _
    unfold nX7_begin_1_l2
    rw [if_neg (by rw [show (140 : Int32) = nI 140 from rfl, nI_leI (by decide) (by omega)]; omega), if_neg (nI_in (by omega) (by decide)), k_wz, nI_1]
  · show nX7_begin_1_l2 (nI 140) k_z L = _
    unfold nX7_begin_1_l2
    rw [if_pos (by decide)]
    rfl
