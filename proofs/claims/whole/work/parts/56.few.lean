/-! the class sorts the prices -/
theorem if_le0F {α : Type} {a : Nat} {x y : α} (h : 0 < a) (ha : a < 2 ^ 31) : (if nI a ≤ 0 then x else y) = y := if_leF (b := 0) h ha
theorem if_okc {α : Type} {i N : Nat} {x y : α} (h : i < N) (hN : N < 2 ^ 31) : (if nI i < 0 ∨ N ≤ i then x else y) = y := if_neg (fun q => by
  rcases q with q | q
  · exact nI_pos (show i < 2 ^ 31 by omega) q
  · omega)
theorem if_le0T {α : Type} {a : Nat} {x y : α} (h : a = 0) : (if nI a ≤ 0 then x else y) = x := by
  subst h
  exact if_pos (by decide)
theorem insL_pos (x : Nat) : ∀ s : List Nat, upL s → ∃ q, q ≤ s.length ∧ (∀ j, j < q → s.getD j 0 ≤ x) ∧ (∀ j, q ≤ j → j < s.length → x < s.getD j 0) ∧ (∀ j, (insL x s).getD j 0 = if j < q then s.getD j 0 else if j = q then x else s.getD (j - 1) 0)
  | [], _ => ⟨0, Nat.le_refl 0, fun j h => absurd h (Nat.not_lt_zero j), fun j _ h => absurd h (Nat.not_lt_zero j), fun j => by
      cases j with
      | zero => rfl
      | succ j => rw [if_neg (Nat.not_lt_zero _), if_neg (Nat.succ_ne_zero j)]; rfl⟩
  | y :: s, hu => by
    by_cases c : y ≤ x
    · obtain ⟨q, h1, h2, h3, h4⟩ := insL_pos x s hu.2
      refine ⟨q + 1, by rw [List.length_cons]; omega, fun j hj => ?_, fun j hj hl => ?_, fun j => ?_⟩
      · cases j with
        | zero => exact c
        | succ j => exact h2 j (by omega)
      · cases j with
        | zero => omega
        | succ j => exact h3 j (by omega) (by rw [List.length_cons] at hl; omega)
      · have e : insL x (y :: s) = y :: insL x s := if_pos c
        rw [e]
        cases j with
        | zero => rw [if_pos (by omega)]; rfl
        | succ j =>
          show (insL x s).getD j 0 = _
          rw [h4 j]
          by_cases q1 : j < q
          · rw [if_pos q1, if_pos (by omega)]; rfl
          · rw [if_neg q1, if_neg (show ¬ j + 1 < q + 1 by omega)]
            by_cases q2 : j = q
            · rw [if_pos q2, if_pos (by omega)]
            · rw [if_neg q2, if_neg (show ¬ j + 1 = q + 1 by omega)]
              obtain ⟨k, rfl⟩ : ∃ k, j = k + 1 := ⟨j - 1, by omega⟩
              rfl
    · refine ⟨0, Nat.zero_le _, fun j h => absurd h (Nat.not_lt_zero j), fun j _ hl => ?_, fun j => ?_⟩
      · cases j with
        | zero => show x < y; omega
        | succ j =>
          show x < s.getD j 0
          have hm : s.getD j 0 ∈ s := by
            rw [List.length_cons] at hl
            rw [List.getD_eq_getElem?_getD, List.getElem?_eq_getElem (show j < s.length by omega)]
            exact List.getElem_mem _
          have := hu.1 _ hm
          omega
      · have e : insL x (y :: s) = x :: y :: s := if_neg c
        rw [e, if_neg (Nat.not_lt_zero j)]
        cases j with
        | zero => rfl
        | succ j => rw [if_neg (Nat.succ_ne_zero j)]; rfl
theorem stL_congr {f g : Nat → Nat} : ∀ i, (∀ j, j < i → f j = g j) → stL f i = stL g i
  | 0, _ => rfl
  | i + 1, h => by
    show insL (f i) (stL f i) = insL (g i) (stL g i)
    rw [h i (Nat.lt_succ_self i), stL_congr i (fun j hj => h j (by omega))]
def soL (l : List Nat) : List Nat := stL (fwF l) l.length
theorem soL_len (l : List Nat) : (soL l).length = l.length := stL_len _ _
theorem soL_up (l : List Nat) : upL (soL l) := stL_up _ _
theorem soL_snoc (l : List Nat) (a : Nat) : soL (l ++ [a]) = insL a (soL l) := by
  unfold soL
  rw [List.length_append, List.length_singleton]
  show insL (fwF (l ++ [a]) l.length) (stL (fwF (l ++ [a])) l.length) = _
  rw [stL_congr (g := fwF l) l.length (fun j hj => by
    unfold fwF
    rw [List.getD_eq_getElem?_getD, List.getD_eq_getElem?_getD, List.getElem?_append_left hj])]
  congr 1
  unfold fwF
  rw [List.getD_eq_getElem?_getD, List.getElem?_append_right (Nat.le_refl _), Nat.sub_self]
  rfl
theorem stL_small {f : Nat → Nat} {N : Nat} (h : ∀ j, f j ≤ N) : ∀ i, ∀ z, z ∈ stL f i → z ≤ N
  | 0, z, hz => absurd hz (by show ¬ z ∈ ([] : List Nat); simp)
  | i + 1, z, hz => by
    rcases insL_mem (f i) z (stL f i) hz with q | q
    · rw [q]; exact h i
    · exact stL_small h i z q
theorem getD_small {s : List Nat} {N : Nat} (h : ∀ z, z ∈ s → z ≤ N) (j : Nat) : s.getD j 0 ≤ N := by
  rw [List.getD_eq_getElem?_getD]
  cases hj : s[j]? with
  | none => exact Nat.zero_le _
  | some z => exact h z (List.mem_of_getElem? hj)
theorem take_sum1 : ∀ (s : List Nat) (k : Nat), (s.take (k + 1)).sum = (s.take k).sum + s.getD k 0
  | [], k => by rw [List.take_nil, List.take_nil]; rfl
  | y :: s, 0 => by rw [List.take_succ_cons, List.take_zero, List.take_zero]; show y + 0 = 0 + y; omega
  | y :: s, k + 1 => by
    rw [List.take_succ_cons, List.take_succ_cons, List.sum_cons, List.sum_cons, take_sum1 s k]
    show _ = _ + s.getD k 0
    omega
def soS (S : Nat → Nat → Int32) (t : Nat → Int32) (i : Nat) : Nat → Nat → Int32 := k_r S 77 (fun j => if j < (prL t i).length then nI ((soL (prL t i)).getD j 0) else S 77 j)
theorem soS_o {S : Nat → Nat → Int32} {t : Nat → Int32} {i c : Nat} (h : c ≠ 77) : soS S t i c = S c := r_ne _ h
theorem soS_0 (S : Nat → Nat → Int32) (t : Nat → Int32) : soS S t 0 = S := by
  funext c
  by_cases h : c = 77
  · subst h
    unfold soS
    rw [r_eq]
    funext j
    exact if_neg (Nat.not_lt_zero j)
  · exact soS_o h
theorem soS_skip {S : Nat → Nat → Int32} {t : Nat → Int32} {i : Nat} (c : awF t i = 0) : soS S t i = soS S t (i + 1) := by
  unfold soS
  rw [prL_s, if_pos c]
/-- the row while the prices behind move up -/
def upS (S : Nat → Nat → Int32) (s : List Nat) (k : Nat) : Nat → Nat → Int32 := k_r S 77 (fun j => if s.length - k < j ∧ j ≤ s.length then nI (s.getD (j - 1) 0) else if j < s.length then nI (s.getD j 0) else S 77 j)
theorem upS_at (S : Nat → Nat → Int32) (s : List Nat) (k j : Nat) : upS S s k 77 j = if s.length - k < j ∧ j ≤ s.length then nI (s.getD (j - 1) 0) else if j < s.length then nI (s.getD j 0) else S 77 j := by unfold upS; rw [r_eq]
theorem upS_s {S : Nat → Nat → Int32} {s : List Nat} {k : Nat} (h : k < s.length) : k_w (upS S s k) 77 (s.length - k) (nI (s.getD (s.length - k - 1) 0)) = upS S s (k + 1) := by
  funext c
  by_cases hc : c = 77
  · subst hc
    rw [w_eq]
    funext j
    show (if j = s.length - k then _ else upS S s k 77 j) = _
    rw [upS_at, upS_at]
    by_cases q : j = s.length - k
    · rw [if_pos q, if_pos (by omega), q]
    · rw [if_neg q]
      by_cases q1 : s.length - k < j ∧ j ≤ s.length
      · rw [if_pos q1, if_pos (by omega)]
      · rw [if_neg q1, if_neg (show ¬ (s.length - (k + 1) < j ∧ j ≤ s.length) by omega)]
  · rw [w_ne _ _ hc]
    unfold upS
    rw [r_ne _ hc, r_ne _ hc]
theorem upS_end {S : Nat → Nat → Int32} {t : Nat → Int32} {i q : Nat} (c : ¬ awF t i = 0) (hq : q ≤ (soL (prL t i)).length) (h4 : ∀ j, (insL (akN t i) (soL (prL t i))).getD j 0 = if j < q then (soL (prL t i)).getD j 0 else if j = q then akN t i else (soL (prL t i)).getD (j - 1) 0) : k_w (upS S (soL (prL t i)) ((soL (prL t i)).length - q)) 77 q (nI (akN t i)) = soS S t (i + 1) := by
  funext z
  by_cases hc : z = 77
  · subst hc
    rw [w_eq]
    funext j
    show (if j = q then _ else upS S (soL (prL t i)) ((soL (prL t i)).length - q) 77 j) = _
    unfold soS
    rw [upS_at, r_eq, prL_s, if_neg c, List.length_append, List.length_singleton, soL_snoc, h4 j, Nat.sub_sub_self hq, soL_len]
    rw [soL_len] at hq
    by_cases q1 : j = q
    · rw [if_pos q1, if_pos (by omega), if_neg (by omega), if_pos q1]
    · rw [if_neg q1]
      by_cases q2 : q < j ∧ j ≤ (prL t i).length
      · rw [if_pos q2, if_pos (by omega), if_neg (by omega), if_neg q1]
      · rw [if_neg q2]
        by_cases q3 : j < (prL t i).length
        · rw [if_pos q3, if_pos (by omega), if_pos (by omega)]
        · rw [if_neg q3, if_neg (by omega)]
  · rw [w_ne _ _ hc, soS_o hc]
    unfold upS
    rw [r_ne _ hc]
theorem upS_0 {S : Nat → Nat → Int32} {t : Nat → Int32} {i : Nat} : soS S t i = upS S (soL (prL t i)) 0 := by
  funext z
  by_cases hc : z = 77
  · subst hc
    funext j
    rw [upS_at, soL_len, if_neg (by omega)]
    unfold soS
    rw [r_eq]
  · rw [soS_o hc]
    unfold upS
    rw [r_ne _ hc]
theorem X6_sortAsked_spec {S : Nat → Nat → Int32} {L : Nat → Nat → Int64} {t : Nat → Int32} {n m un uc up d dm : Nat} (h : vr (k_wi S 1) t n m un uc up d dm) : nX6_sortAsked S L = some (nI (prL t m).length, soS S t m) := by
  have v1 : S 1 13 = nI m := h.2.2.1.2.1
  have b2 : m ≤ 5 := h.2.1.2.1
  have hv : ∀ i, vr (k_wi (soS S t i) 1) t n m un uc up d dm := fun i => vr_congr (fun c hc => by rw [wi_at, wi_at, soS_o (by omega)]) (fun _ _ => rfl) h
  unfold nX6_sortAsked
  rw [show ((0 : Int32), (0 : Int32), S) = (nI (prL t 0).length, nI 0, soS S t 0) from by rw [soS_0]; rfl]
  refine it_for (fun i => (nI (prL t i).length, nI i, soS S t i)) m (by omega) (fun i hi => ?_) ?_
  · show nX6_sortAsked_l4 (nI (prL t i).length) (nI i) (soS S t i) L = _
    unfold nX6_sortAsked_l4
    have hl := prL_len t i
    rw [soS_o (show (1 : Nat) ≠ 77 by decide), v1, if_leF hi (by omega), X5_isAway_spec (hv i) hi, b1_some, X5_askedFor_spec (hv i) hi, b1_some, (akN_eq h hi).1, nI_1]
    by_cases c : awF t i = 0
    · rw [if_pos c, ← soS_skip c, prL_s, if_pos c]
    · rw [if_neg c]
      have ha := (akN_eq h hi).2
      have hsm : ∀ j, (soL (prL t i)).getD j 0 ≤ 22 := getD_small (stL_small (fwF_small (prL_small h i (by omega))) _)
      obtain ⟨q, h1, h2, h3, h4⟩ := insL_pos (akN t i) (soL (prL t i)) (soL_up _)
      have hlen := soL_len (prL t i)
      have hend := upS_end (S := S) c h1 h4
      obtain ⟨s, hs⟩ : ∃ s, s = soL (prL t i) := ⟨_, rfl⟩
      rw [upS_0]
      rw [← hs] at h1 h2 h3 hsm hlen hend
      rw [← hs, ← hlen]
      have hfin : nX6_sortAsked_i4_j81 (nI s.length) (nI i) (nI (akN t i)) (nI q) (upS S s (s.length - q)) L = some (.inl (nI (prL t (i + 1)).length, nI (i + 1), soS S t (i + 1))) := by
        unfold nX6_sortAsked_i4_j81
        rw [if_ok (show q < 8 by omega) (by decide), nI_clamp (by omega), hend, nI_1, nI_1 i, prL_s, if_neg c, List.length_append, List.length_singleton, hlen]
      refine it_for (fun k => (nI (s.length - k), upS S s k)) (s.length - q) (by omega) (fun k hk => ?_) ?_
      · show nX6_sortAsked_i4_l41 (nI s.length) (nI i) (nI (akN t i)) (nI (s.length - k)) (upS S s k) L = _
        unfold nX6_sortAsked_i4_l41
        have e1 : nI (s.length - k) - 1 = nI (s.length - k - 1) := by
          rw [show (1 : Int32) = nI 1 from rfl, pk_sub (by omega)]
        have e2 : nI (s.length - k) + -1 = nI (s.length - (k + 1)) := by
          rw [show nI (s.length - k) + -1 = nI (s.length - k) - 1 from (Int32.sub_eq_add_neg ..).symm, e1]
          exact congrArg nI (by omega)
        rw [if_le0F (show 0 < s.length - k by omega) (by omega), e1, if_neg (nI_in (show s.length - k - 1 < 8 by omega) (by decide)), if_neg (nI_in (show s.length - k - 1 < 8 by omega) (by decide)), if_neg (nI_in (show s.length - k < 8 by omega) (by decide)), nI_clamp (show s.length - k - 1 < 2 ^ 31 by omega), nI_clamp (show s.length - k < 2 ^ 31 by omega), e2]
        have hv77 : upS S s k 77 (s.length - k - 1) = nI (s.getD (s.length - k - 1) 0) := by
          rw [upS_at, if_neg (by omega), if_pos (by omega)]
        rw [hv77, upS_s (by omega)]
        have := h3 (s.length - k - 1) (by omega) (by omega)
        have hs2 := hsm (s.length - k - 1)
        rw [if_leF this (by omega)]
      · show nX6_sortAsked_i4_l41 (nI s.length) (nI i) (nI (akN t i)) (nI (s.length - (s.length - q))) (upS S s (s.length - q)) L = _
        rw [Nat.sub_sub_self h1]
        unfold nX6_sortAsked_i4_l41
        rw [hfin]
        by_cases q0 : q = 0
        · rw [if_le0T q0]; rfl
        · have e1 : nI q - 1 = nI (q - 1) := by
            rw [show (1 : Int32) = nI 1 from rfl, pk_sub (by omega)]
          have hv77 : upS S s (s.length - q) 77 (q - 1) = nI (s.getD (q - 1) 0) := by
            rw [upS_at, if_neg (by omega), if_pos (by omega)]
          have := h2 (q - 1) (by omega)
          rw [if_le0F (show 0 < q by omega) (by omega), e1, if_neg (nI_in (show q - 1 < 8 by omega) (by decide)), nI_clamp (show q - 1 < 2 ^ 31 by omega), hv77, if_leT this (by omega)]; rfl
  · show nX6_sortAsked_l4 (nI (prL t m).length) (nI m) (soS S t m) L = _
    unfold nX6_sortAsked_l4
    rw [soS_o (show (1 : Nat) ≠ 77 by decide), v1, if_leT (Nat.le_refl m) (by omega)]
    rfl
theorem X6_few_spec {S : Nat → Nat → Int32} {L : Nat → Nat → Int64} {t : Nat → Int32} {n m un uc up d dm P : Nat} (h : vr (k_wi S 1) t n m un uc up d dm) (hP : P < 201) : nX6_few S L (nI P) = some (nI (grN (soL (prL t m)) P (prL t m).length), soS S t m) := by
  have b2 : m ≤ 5 := h.2.1.2.1
  have hl := prL_len t m
  have hsm : ∀ j, (soL (prL t m)).getD j 0 ≤ 22 := getD_small (stL_small (fwF_small (prL_small h m (Nat.le_refl m))) _)
  have h77 : ∀ j, j < (prL t m).length → soS S t m 77 j = nI ((soL (prL t m)).getD j 0) := fun j hj => by
    unfold soS
    rw [r_eq, if_pos hj]
  unfold nX6_few
  rw [upTo_inK 201 (by decide) 201 rfl (z_nI hP), b1_some, if_neg (by decide), X6_sortAsked_spec h, b2_some]
  obtain ⟨s, hs⟩ : ∃ s, s = soL (prL t m) := ⟨_, rfl⟩
  obtain ⟨len, hlen⟩ : ∃ len, len = (prL t m).length := ⟨_, rfl⟩
  rw [← hs] at h77 hsm
  rw [← hlen] at h77 hl
  rw [← hs, ← hlen]
  obtain ⟨-, a2, a3, a4⟩ := fsF_spec (fun k => decide (P < (s.take (k + 1)).sum)) len 0
  obtain ⟨G, hG⟩ : ∃ G, G = grN s P len := ⟨_, rfl⟩
  have hG' : G = fsF (fun k => decide (P < (s.take (k + 1)).sum)) len 0 := hG
  rw [← hG'] at a2 a3 a4
  rw [← hG]
  have hle : ∀ k, k ≤ G → (s.take k).sum ≤ P := fun k hk => by
    cases k with
    | zero => rw [List.take_zero]; exact Nat.zero_le P
    | succ k => have : ¬ P < (s.take (k + 1)).sum := of_decide_eq_false (a3 k (Nat.zero_le _) (by omega))
                omega
  rw [show (nI P, (0 : Int32)) = (nI (P - (s.take 0).sum), nI 0) from by rw [List.take_zero]; rfl]
  refine it_for (fun k => (nI (P - (s.take k).sum), nI k)) G (by omega) (fun k hk => ?_) ?_
  · show nX6_few_l25 (nI len) (nI (P - (s.take k).sum)) (nI k) (soS S t m) L = _
    unfold nX6_few_l25
    have h5 := hle (k + 1) hk
    rw [take_sum1] at h5
    rw [if_leF (show k < len by omega) (by omega), if_ok (show k < 8 by omega) (by decide), nI_clamp (show k < 2 ^ 31 by omega), h77 k (by omega), if_ltF (show s.getD k 0 ≤ P - (s.take k).sum by omega) (by omega), if_okc (show k < 8 by omega) (by decide), pk_sub (by omega), nI_1, take_sum1, Nat.sub_sub]
  · show nX6_few_l25 (nI len) (nI (P - (s.take G).sum)) (nI G) (soS S t m) L = _
    unfold nX6_few_l25
    rcases Nat.lt_or_ge G len with q | q
    · have h5 : P < (s.take (G + 1)).sum := of_decide_eq_true (a4 (by omega))
      have h6 := hle G (Nat.le_refl G)
      have h7 := hsm G
      rw [take_sum1] at h5
      rw [if_leF q (by omega), if_ok (show G < 8 by omega) (by decide), nI_clamp (show G < 2 ^ 31 by omega), h77 G q, if_ltT (show P - (s.take G).sum < s.getD G 0 by omega) (by omega)]
      rfl
    · rw [if_leT q (by omega)]
      rfl
theorem op_few : k_op_few k_R := by
  intro S L T M p1 hR
  have hR0 := hR
  obtain ⟨⟨n, m, un, uc, up, d, hv⟩, -⟩ := hR
  have b2 : m ≤ 5 := hv.2.1.2.1
  by_cases h1 : pz p1 201
  · obtain ⟨P, hP, rfl⟩ := h1
    have hl := prL_len (T 1) m
    refine ⟨_, _, _, X6_few_spec hv hP, ?_, R_congr (S := S) (fun c hc => soS_o (by omega)) (by rw [soS_o (by decide)]) (fun _ _ => rfl) rfl ⟨rfl, rfl⟩ ⟨rfl, rfl⟩ (R_pr n m hR0)⟩
    rw [X7_few_spec hv hP, few_best (prL (T 1) m) P (by omega)]
    rfl
  · refine ⟨-2, _, _, ?_, ?_, R_bad 0 (by decide) hR0⟩
    · unfold nX6_few
      rw [upTo_outK 201 (by decide) 201 rfl h1, b1_some, if_pos rfl, bad6]; rfl
    · unfold nX7_few
      rw [in_outK 201 (by decide) 200 (by decide) h1, b1_some, if_pos rfl, bad7]; rfl
