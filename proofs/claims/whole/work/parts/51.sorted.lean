/-! the cheapest ones first -/
def insL (x : Nat) : List Nat → List Nat
  | [] => [x]
  | y :: s => if y ≤ x then y :: insL x s else x :: y :: s
theorem insL_len (x : Nat) : ∀ s : List Nat, (insL x s).length = s.length + 1
  | [] => rfl
  | y :: s => by
    show (if y ≤ x then y :: insL x s else x :: y :: s).length = (y :: s).length + 1
    by_cases c : y ≤ x
    · rw [if_pos c, List.length_cons, insL_len x s, List.length_cons]
    · rw [if_neg c]; rfl
def upL : List Nat → Prop
  | [] => True
  | y :: s => (∀ z, z ∈ s → y ≤ z) ∧ upL s
theorem insL_mem (x z : Nat) : ∀ s : List Nat, z ∈ insL x s → z = x ∨ z ∈ s
  | [], h => Or.inl (List.mem_singleton.mp h)
  | y :: s, h => by
    have h : z ∈ (if y ≤ x then y :: insL x s else x :: y :: s) := h
    by_cases c : y ≤ x
    · rw [if_pos c] at h
      rcases List.mem_cons.mp h with q | q
      · exact Or.inr (List.mem_cons.mpr (Or.inl q))
      · rcases insL_mem x z s q with r | r
        · exact Or.inl r
        · exact Or.inr (List.mem_cons_of_mem _ r)
    · rw [if_neg c] at h
      rcases List.mem_cons.mp h with q | q
      · exact Or.inl q
      · exact Or.inr q
theorem insL_up (x : Nat) : ∀ s : List Nat, upL s → upL (insL x s)
  | [], _ => ⟨fun z h => absurd h (by simp), trivial⟩
  | y :: s, h => by
    show upL (if y ≤ x then y :: insL x s else x :: y :: s)
    by_cases c : y ≤ x
    · rw [if_pos c]
      refine ⟨fun z hz => ?_, insL_up x s h.2⟩
      rcases insL_mem x z s hz with r | r
      · rw [r]; exact c
      · exact h.1 z r
    · rw [if_neg c]
      refine ⟨fun z hz => ?_, h⟩
      rcases List.mem_cons.mp hz with r | r
      · rw [r]; omega
      · have := h.1 z r; omega
theorem take_more (y : Nat) : ∀ (s : List Nat) (k : Nat), (∀ z, z ∈ s → y ≤ z) → k < s.length → (s.take k).sum + y ≤ (s.take (k + 1)).sum
  | [], k, _, h => absurd h (Nat.not_lt_zero k)
  | a :: s, 0, h, _ => by
    rw [List.take_zero, List.take_succ_cons, List.sum_cons, List.take_zero]
    have := h a (List.mem_cons_self ..)
    show 0 + y ≤ a + 0
    omega
  | a :: s, k + 1, h, hk => by
    rw [List.take_succ_cons, List.take_succ_cons, List.sum_cons, List.sum_cons]
    have := take_more y s k (fun z hz => h z (List.mem_cons_of_mem _ hz)) (by rw [List.length_cons] at hk; omega)
    omega
/-- with one more, the cheapest k aren't dearer -/
theorem insL_take (x : Nat) : ∀ (s : List Nat) (k : Nat), upL s → k ≤ s.length → ((insL x s).take k).sum ≤ (s.take k).sum
  | _, 0, _, _ => by rw [List.take_zero, List.take_zero]; exact Nat.le_refl _
  | [], k + 1, _, h => absurd h (by simp)
  | y :: s, k + 1, hu, h => by
    show ((if y ≤ x then y :: insL x s else x :: y :: s).take (k + 1)).sum ≤ _
    have h' : k ≤ s.length := by rw [List.length_cons] at h; omega
    by_cases c : y ≤ x
    · rw [if_pos c, List.take_succ_cons, List.take_succ_cons, List.sum_cons, List.sum_cons]
      exact Nat.add_le_add_left (insL_take x s k hu.2 h') y
    · rw [if_neg c, List.take_succ_cons, List.sum_cons]
      have := take_more y (y :: s) k (fun z hz => by
        rcases List.mem_cons.mp hz with r | r
        · rw [r]; exact Nat.le_refl y
        · exact hu.1 z r) (by omega)
      omega
/-- with one more among k + 1: the cheapest k and it aren't cheaper than the cheapest k + 1 -/
theorem insL_take1 (x : Nat) : ∀ (s : List Nat) (k : Nat), upL s → k ≤ s.length → ((insL x s).take (k + 1)).sum ≤ (s.take k).sum + x
  | [], k, _, h => by
    have : k = 0 := by simpa using h
    subst this
    show ([x].take 1).sum ≤ _
    simp
  | y :: s, 0, h, _ => by
    show ((if y ≤ x then y :: insL x s else x :: y :: s).take 1).sum ≤ _
    by_cases c : y ≤ x
    · rw [if_pos c]; simp; exact c
    · rw [if_neg c]; simp
  | y :: s, k + 1, h, hk => by
    show ((if y ≤ x then y :: insL x s else x :: y :: s).take (k + 2)).sum ≤ _
    have hk' : k ≤ s.length := by rw [List.length_cons] at hk; omega
    by_cases c : y ≤ x
    · rw [if_pos c, List.take_succ_cons, List.take_succ_cons, List.sum_cons, List.sum_cons]
      have := insL_take1 x s k h.2 hk'
      omega
    · rw [if_neg c, List.take_succ_cons, List.sum_cons]
      omega
