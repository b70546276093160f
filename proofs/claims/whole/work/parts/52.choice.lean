/-! choices of places -/
theorem insL_split (x : Nat) : ∀ (s : List Nat) (k : Nat), k ≤ s.length + 1 → (k ≤ s.length ∧ ((insL x s).take k).sum = (s.take k).sum) ∨ ∃ k', k = k' + 1 ∧ k' ≤ s.length ∧ ((insL x s).take k).sum = (s.take k').sum + x
  | s, 0, _ => Or.inl ⟨Nat.zero_le _, by rw [List.take_zero, List.take_zero]⟩
  | [], k + 1, h => by
    have : k = 0 := by have h : k + 1 ≤ 0 + 1 := h; omega
    subst this
    exact Or.inr ⟨0, rfl, Nat.le_refl 0, by show ([x].take 1).sum = _; simp⟩
  | y :: s, k + 1, h => by
    have h' : k ≤ s.length + 1 := by rw [List.length_cons] at h; omega
    show (k + 1 ≤ (y :: s).length ∧ ((if y ≤ x then y :: insL x s else x :: y :: s).take (k + 1)).sum = _) ∨ ∃ k', k + 1 = k' + 1 ∧ k' ≤ (y :: s).length ∧ ((if y ≤ x then y :: insL x s else x :: y :: s).take (k + 1)).sum = _
    by_cases c : y ≤ x
    · rw [if_pos c, List.take_succ_cons, List.sum_cons, List.take_succ_cons, List.sum_cons]
      rcases insL_split x s k h' with ⟨q1, q2⟩ | ⟨k', q1, q2, q3⟩
      · left
        exact ⟨by rw [List.length_cons]; omega, by rw [q2]⟩
      · right
        refine ⟨k, rfl, by rw [List.length_cons]; omega, ?_⟩
        rw [q3, q1, List.take_succ_cons, List.sum_cons]
        omega
    · right
      refine ⟨k, rfl, by rw [List.length_cons]; omega, ?_⟩
      rw [if_neg c, List.take_succ_cons, List.sum_cons]
      omega
def stL (f : Nat → Nat) : Nat → List Nat
  | 0 => []
  | i + 1 => insL (f i) (stL f i)
theorem stL_len (f : Nat → Nat) : ∀ i, (stL f i).length = i
  | 0 => rfl
  | i + 1 => by
    show (insL (f i) (stL f i)).length = i + 1
    rw [insL_len, stL_len f i]
theorem stL_up (f : Nat → Nat) : ∀ i, upL (stL f i)
  | 0 => trivial
  | i + 1 => insL_up _ _ (stL_up f i)
def chS (f : Nat → Nat) (B : Nat → Bool) : Nat → Nat
  | 0 => 0
  | j + 1 => chS f B j + (if B j = true then f j else 0)
theorem chS_s (f : Nat → Nat) (B : Nat → Bool) (j : Nat) : chS f B (j + 1) = chS f B j + (if B j = true then f j else 0) := rfl
theorem chS_congr {f : Nat → Nat} {B C : Nat → Bool} : ∀ N, (∀ j, j < N → B j = C j) → chS f B N = chS f C N ∧ cnF B N = cnF C N
  | 0, _ => ⟨rfl, rfl⟩
  | N + 1, h => by
    obtain ⟨h1, h2⟩ := chS_congr (f := f) N (fun j hj => h j (by omega))
    rw [chS_s, chS_s, cnF_s, cnF_s, h1, h2, h N (by omega)]
    exact ⟨rfl, rfl⟩
/-- no choice is cheaper than as many of the cheapest -/
theorem ch_ge (f : Nat → Nat) (B : Nat → Bool) : ∀ i, ((stL f i).take (cnF B i)).sum ≤ chS f B i
  | 0 => Nat.le_refl 0
  | i + 1 => by
    have ih := ch_ge f B i
    have hl := stL_len f i
    have hc := cnF_le B i
    have e : stL f (i + 1) = insL (f i) (stL f i) := rfl
    rw [chS_s, cnF_s, e]
    by_cases c : B i = true
    · rw [if_pos c, if_pos c]
      have := insL_take1 (f i) (stL f i) (cnF B i) (stL_up f i) (by omega)
      omega
    · rw [if_neg c, if_neg c]
      have := insL_take (f i) (stL f i) (cnF B i) (stL_up f i) (by omega)
      omega
/-- and some choice is the cheapest ones -/
theorem ch_ex (f : Nat → Nat) : ∀ i k, k ≤ i → ∃ B : Nat → Bool, cnF B i = k ∧ chS f B i = ((stL f i).take k).sum
  | 0, k, h => ⟨fun _ => false, by have : k = 0 := by omega
                                   rw [this]; rfl, by have : k = 0 := by omega
                                                      rw [this]; rfl⟩
  | i + 1, k, h => by
    have hl := stL_len f i
    have e : stL f (i + 1) = insL (f i) (stL f i) := rfl
    have ext : ∀ (B : Nat → Bool) (b : Bool), chS f (fun j => if j = i then b else B j) i = chS f B i ∧ cnF (fun j => if j = i then b else B j) i = cnF B i := fun B b => chS_congr i (fun j hj => by show (if j = i then b else B j) = B j; rw [if_neg (by omega)])
    rw [e]
    rcases insL_split (f i) (stL f i) k (by omega) with ⟨q1, q2⟩ | ⟨k', q1, q2, q3⟩
    · obtain ⟨B, b1, b2⟩ := ch_ex f i k (by omega)
      refine ⟨fun j => if j = i then false else B j, ?_, ?_⟩
      · rw [cnF_s, (ext B false).2, b1]
        show (if (if i = i then false else B i) = true then k + 1 else k) = k
        rw [if_pos rfl, if_neg (by decide)]
      · rw [chS_s, (ext B false).1, b2, q2]
        show _ + (if (if i = i then false else B i) = true then f i else 0) = _
        rw [if_pos rfl, if_neg (by decide), Nat.add_zero]
    · obtain ⟨B, b1, b2⟩ := ch_ex f i k' (by omega)
      refine ⟨fun j => if j = i then true else B j, ?_, ?_⟩
      · rw [cnF_s, (ext B true).2, b1, q1]
        show (if (if i = i then true else B i) = true then k' + 1 else k') = k' + 1
        rw [if_pos rfl, if_pos rfl]
      · rw [chS_s, (ext B true).1, b2, q3]
        show _ + (if (if i = i then true else B i) = true then f i else 0) = _
        rw [if_pos rfl, if_pos rfl]
