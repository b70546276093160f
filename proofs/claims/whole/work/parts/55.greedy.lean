/-! taking the cheapest is best -/
theorem take_mono (s : List Nat) {i j : Nat} (h : i ≤ j) : (s.take i).sum ≤ (s.take j).sum := by
  have e2 : ∀ (s : List Nat) (k : Nat), (s.take k).sum ≤ (s.take (k + 1)).sum := by
    intro s
    induction s with
    | nil => intro k; simp
    | cons a s ih =>
      intro k
      cases k with
      | zero => simp
      | succ k => rw [List.take_succ_cons, List.take_succ_cons, List.sum_cons, List.sum_cons]; exact Nat.add_le_add_left (ih k) a
  induction j with
  | zero => have : i = 0 := by omega
            subst this; exact Nat.le_refl _
  | succ j ih =>
    rcases Nat.eq_or_lt_of_le h with q | q
    · subst q; exact Nat.le_refl _
    · exact Nat.le_trans (ih (by omega)) (e2 s j)
def grN (s : List Nat) (P len : Nat) : Nat := fsF (fun k => decide (P < (s.take (k + 1)).sum)) len 0
theorem fwB_ge (l : List Nat) (P : Nat) : ∀ N x, x < N → chS (fwF l) (btF (nI x)) l.length ≤ P → cnF (btF (nI x)) 5 ≤ fwB l P N
  | 0, x, h, _ => absurd h (Nat.not_lt_zero x)
  | N + 1, x, h, hc => by
    rw [fwB_s]
    rcases Nat.eq_or_lt_of_le (Nat.le_of_lt_succ h) with q | q
    · subst q
      rw [if_pos hc]
      by_cases c2 : cnF (btF (nI x)) 5 ≤ fwB l P x
      · rw [if_pos c2]; exact c2
      · rw [if_neg c2]; exact Nat.le_refl _
    · have ih := fwB_ge l P N x q hc
      by_cases c : chS (fwF l) (btF (nI N)) l.length ≤ P
      · rw [if_pos c]
        by_cases c2 : cnF (btF (nI N)) 5 ≤ fwB l P N
        · rw [if_pos c2]; exact ih
        · rw [if_neg c2]; omega
      · rw [if_neg c]; exact ih
theorem fwB_ub (l : List Nat) (P G : Nat) : ∀ N, (∀ x, x < N → chS (fwF l) (btF (nI x)) l.length ≤ P → cnF (btF (nI x)) 5 ≤ G) → fwB l P N ≤ G
  | 0, _ => Nat.zero_le G
  | N + 1, h => by
    have ih := fwB_ub l P G N (fun x hx => h x (by omega))
    rw [fwB_s]
    by_cases c : chS (fwF l) (btF (nI N)) l.length ≤ P
    · rw [if_pos c]
      by_cases c2 : cnF (btF (nI N)) 5 ≤ fwB l P N
      · rw [if_pos c2]; exact ih
      · rw [if_neg c2]; exact h N (by omega) c
    · rw [if_neg c]; exact ih
theorem few_best (l : List Nat) (P : Nat) (hl : l.length ≤ 5) : fwB l P (2 ^ l.length) = grN (stL (fwF l) l.length) P l.length := by
  have hlen := stL_len (fwF l) l.length
  obtain ⟨-, a2, a3, a4⟩ := fsF_spec (fun k => decide (P < ((stL (fwF l) l.length).take (k + 1)).sum)) l.length 0
  obtain ⟨G, hG⟩ : ∃ G, G = grN (stL (fwF l) l.length) P l.length := ⟨_, rfl⟩
  have hG' : G = fsF (fun k => decide (P < ((stL (fwF l) l.length).take (k + 1)).sum)) l.length 0 := hG
  rw [← hG'] at a2 a3 a4
  rw [← hG]
  refine Nat.le_antisymm (fwB_ub l P G _ (fun x hx hc => ?_)) ?_
  · rw [bits_low hl hx]
    have h1 := ch_ge (fwF l) (btF (nI x)) l.length
    have h2 := cnF_le (btF (nI x)) l.length
    rcases Nat.lt_or_ge G (cnF (btF (nI x)) l.length) with q | q
    · have h3 : P < ((stL (fwF l) l.length).take (G + 1)).sum := of_decide_eq_true (a4 (by omega))
      have h4 := take_mono (stL (fwF l) l.length) (show G + 1 ≤ cnF (btF (nI x)) l.length by omega)
      omega
    · exact q
  · obtain ⟨B, e1, e2⟩ := ch_ex (fwF l) l.length G (by omega)
    obtain ⟨x, hx, hb⟩ := bits_ex hl B
    obtain ⟨c1, c2⟩ := chS_congr (f := fwF l) l.length (fun j hj => hb j hj)
    have hP : ((stL (fwF l) l.length).take G).sum ≤ P := by
      rcases Nat.eq_zero_or_pos G with q | q
      · rw [q, List.take_zero]; exact Nat.zero_le P
      · have h5 : ¬ P < ((stL (fwF l) l.length).take (G - 1 + 1)).sum := of_decide_eq_false (a3 (G - 1) (Nat.zero_le _) (by omega))
        rw [show G - 1 + 1 = G by omega] at h5
        omega
    have h6 := fwB_ge l P (2 ^ l.length) x hx (by rw [c1, e2]; exact hP)
    rw [bits_low hl hx, c2, e1] at h6
    exact h6
