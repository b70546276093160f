/-! what it costs to have all back -/
def akN (t : Nat → Int32) (k : Nat) : Nat := (akF t (fun p => t (15 + p)) k).toNatClampNeg
def prL (t : Nat → Int32) : Nat → List Nat
  | 0 => []
  | i + 1 => if awF t i = 0 then prL t i else prL t i ++ [akN t i]
theorem prL_s (t : Nat → Int32) (i : Nat) : prL t (i + 1) = if awF t i = 0 then prL t i else prL t i ++ [akN t i] := rfl
theorem prL_len (t : Nat → Int32) : ∀ i, (prL t i).length ≤ i
  | 0 => Nat.le_refl 0
  | i + 1 => by
    have := prL_len t i
    rw [prL_s]
    by_cases h : awF t i = 0
    · rw [if_pos h]; omega
    · rw [if_neg h, List.length_append, List.length_singleton]; omega
theorem akN_eq {V : Nat → Nat → Int32} {t : Nat → Int32} {n m un uc up d dm k : Nat} (h : vr V t n m un uc up d dm) (hk : k < m) : akF t (fun p => t (15 + p)) k = nI (akN t k) ∧ akN t k < 22 := by
  obtain ⟨j, hj, e⟩ := akF_small h hk
  unfold akN
  rw [e, nI_clamp (by omega)]
  exact ⟨rfl, hj⟩
theorem X6_costs_spec {S : Nat → Nat → Int32} {L : Nat → Nat → Int64} {t : Nat → Int32} {n m un uc up d dm : Nat} (h : vr (k_wi S 1) t n m un uc up d dm) : nX6_costs S L = some (nI (prL t m).sum) := by
  have v1 : S 1 13 = nI m := h.2.2.1.2.1
  have b2 : m ≤ 5 := h.2.1.2.1
  unfold nX6_costs
  refine it_for (fun i => (nI (prL t i).sum, nI i)) m (by omega) (fun i hi => ?_) ?_
  · show nX6_costs_l4 (nI (prL t i).sum) (nI i) S L = _
    unfold nX6_costs_l4
    rw [v1, if_leF hi (by omega), X5_isAway_spec h hi, b1_some, X5_askedFor_spec h hi, b1_some, (akN_eq h hi).1, prL_s, nI_1]
    by_cases c : awF t i = 0
    · rw [if_pos c, if_pos c]
    · rw [if_neg c, if_neg c, nI_add, List.sum_append, List.sum_singleton]
  · show nX6_costs_l4 (nI (prL t m).sum) (nI m) S L = _
    unfold nX6_costs_l4
    rw [v1, if_leT (Nat.le_refl m) (by omega)]
    rfl
def prS (T : Nat → Nat → Int32) (t : Nat → Int32) (i : Nat) : Nat → Nat → Int32 := k_r T 9 (fun j => if j < (prL t i).length then nI ((prL t i).getD j 0) else T 9 j)
theorem prS_9 (T : Nat → Nat → Int32) (t : Nat → Int32) (i j : Nat) : prS T t i 9 j = if j < (prL t i).length then nI ((prL t i).getD j 0) else T 9 j := by unfold prS; rw [r_eq]
theorem prS_o {T : Nat → Nat → Int32} {t : Nat → Int32} {i c : Nat} (h : c ≠ 9) : prS T t i c = T c := r_ne _ h
theorem prS_0 (T : Nat → Nat → Int32) (t : Nat → Int32) : prS T t 0 = T := by
  funext c
  by_cases h : c = 9
  · subst h; funext j; rw [prS_9, if_neg (show ¬ j < (prL t 0).length from Nat.not_lt_zero j)]
  · rw [prS_o h]
theorem prS_put {T : Nat → Nat → Int32} {t : Nat → Int32} {i : Nat} (c : ¬ awF t i = 0) : k_w (prS T t i) 9 (prL t i).length (nI (akN t i)) = prS T t (i + 1) := by
  funext z
  by_cases h : z = 9
  · subst h
    rw [w_eq]
    funext j
    show (if j = (prL t i).length then nI (akN t i) else prS T t i 9 j) = prS T t (i + 1) 9 j
    rw [prS_9, prS_9, prL_s, if_neg c, List.length_append, List.length_singleton]
    by_cases q : j = (prL t i).length
    · rw [if_pos q, if_pos (by omega), q]
      congr 1
      rw [List.getD_eq_getElem?_getD, List.getElem?_append_right (Nat.le_refl _), Nat.sub_self]
      rfl
    · rw [if_neg q]
      by_cases q2 : j < (prL t i).length
      · rw [if_pos q2, if_pos (by omega)]
        congr 1
        rw [List.getD_eq_getElem?_getD, List.getD_eq_getElem?_getD, List.getElem?_append_left q2]
      · rw [if_neg q2, if_neg (by omega)]
  · rw [w_ne _ _ h, prS_o h, prS_o h]
theorem prS_skip {T : Nat → Nat → Int32} {t : Nat → Int32} {i : Nat} (c : awF t i = 0) : prS T t i = prS T t (i + 1) := by
  unfold prS
  rw [prL_s, if_pos c]
theorem X7_layPrices_spec {V T : Nat → Nat → Int32} {M : Nat → Nat → Int64} {n m un uc up d dm : Nat} (h : vr V (T 1) n m un uc up d dm) : nX7_layPrices T M = some (nI (prL (T 1) m).length, prS (lcF T 1 n) (T 1) m) := by
  have h0 := h
  obtain ⟨⟨t0, t1, t2, t3, t4, t22⟩, ⟨b1, b2, b3, b4, b5, b6⟩, -⟩ := h
  have el : lcF T 1 n 1 = T 1 := lcF_ne (by decide)
  have e1 : ∀ i, prS (lcF T 1 n) (T 1) i 1 = T 1 := fun i => by rw [prS_o (by decide), el]
  have hask : ∀ i k, k < m → nX7_asked (prS (lcF T 1 n) (T 1) i) M (nI k) = some (akF (T 1) (fun p => T 1 (15 + p)) k) := by
    intro i k hk
    rw [← X7_asked_spec (M := M) h0 hk]
    unfold nX7_asked nX7_showsOn_1
    rw [e1, el, prS_o (c := 5) (by decide)]
  unfold nX7_layPrices
  rw [X7_layCoats_1_spec b1 t0, b1_some, show ((0 : Int32), (0 : Int32), lcF T 1 n) = (nI (prL (T 1) 0).length, nI 0, prS (lcF T 1 n) (T 1) 0) from by rw [prS_0]; rfl]
  refine it_for (fun i => (nI (prL (T 1) i).length, nI i, prS (lcF T 1 n) (T 1) i)) m (by omega) (fun i hi => ?_) ?_
  · show nX7_layPrices_l12 (nI (prL (T 1) i).length) (nI i) (prS (lcF T 1 n) (T 1) i) M = _
    unfold nX7_layPrices_l12 nX7_manyThings
    have hl := prL_len (T 1) i
    rw [b1_some, e1, t1, if_leF hi (by omega), show (10 : Int32) + nI i = nI (10 + i) from nI_add 10 i, show (5 : Int32) + nI i = nI (5 + i) from nI_add 5 i, show (75 : Int32) + nI i = nI (75 + i) from nI_add 75 i, if_ok (show 10 + i < 284 by omega) (by decide), nI_clamp (show 10 + i < 2 ^ 31 by omega), if_ok (show 5 + i < 284 by omega) (by decide), if_ok (show 75 + i < 284 by omega) (by decide), nI_clamp (show 5 + i < 2 ^ 31 by omega), nI_clamp (show 75 + i < 2 ^ 31 by omega), hask i i hi, b1_some, (akN_eq h0 hi).1, if_ok (show (prL (T 1) i).length < 5 by omega) (by decide), nI_clamp (show (prL (T 1) i).length < 2 ^ 31 by omega), nI_1 i]
    by_cases c1 : T 1 (10 + i) = 0
    · rw [if_pos c1]
      by_cases c2 : T 1 (5 + i) = T 1 (75 + i)
      · have ca : awF (T 1) i = 0 := by unfold awF; rw [if_pos c1, if_pos c2]
        rw [if_pos c2, ← prS_skip ca, prL_s, if_pos ca]
      · have ca : ¬ awF (T 1) i = 0 := by unfold awF; rw [if_pos c1, if_neg c2]; decide
        rw [if_neg c2, prS_put ca, prL_s, if_neg ca, List.length_append, List.length_singleton, nI_1]
    · have ca : awF (T 1) i = 0 := by unfold awF; rw [if_neg c1]
      rw [if_neg c1, ← prS_skip ca, prL_s, if_pos ca]
  · show nX7_layPrices_l12 (nI (prL (T 1) m).length) (nI m) (prS (lcF T 1 n) (T 1) m) M = _
    unfold nX7_layPrices_l12 nX7_manyThings
    rw [b1_some, e1, t1, if_leT (Nat.le_refl m) (by omega)]
    rfl
theorem sum_drop (l : List Nat) (i : Nat) (h : i < l.length) : (l.drop i).sum = l.getD i 0 + (l.drop (i + 1)).sum := by
  rw [List.drop_eq_getElem_cons h, List.sum_cons, List.getD_eq_getElem?_getD, List.getElem?_eq_getElem h]
  rfl
theorem R_pr {S T : Nat → Nat → Int32} {L M : Nat → Nat → Int64} (n m : Nat) (h : k_R S L T M) : k_R S L (prS (lcF T 1 n) (T 1) m) M :=
  R_congr (fun _ _ => rfl) rfl (fun c hc => by rw [prS_o (by omega), lcF_ne (by omega)]) (by rw [prS_o (by decide), lcF_ne (by decide)]) ⟨rfl, rfl⟩ ⟨rfl, rfl⟩ h
theorem op_costs : k_op_costs k_R := by
  intro S L T M hR
  have hR0 := hR
  obtain ⟨⟨n, m, un, uc, up, d, hv⟩, -⟩ := hR
  have b2 : m ≤ 5 := hv.2.1.2.1
  have hl := prL_len (T 1) m
  refine ⟨nI (prL (T 1) m).sum, prS (lcF T 1 n) (T 1) m, X6_costs_spec hv, ?_, R_pr n m hR0⟩
  obtain ⟨l, hle⟩ : ∃ l, l = prL (T 1) m := ⟨_, rfl⟩
  unfold nX7_costs
  rw [X7_layPrices_spec hv, b2_some, ← hle]
  rw [← hle] at hl
  rw [show ((0 : Int32), nI l.length - 1) = (nI (l.drop (l.length - 0)).sum, nI (l.length - 0) - 1) from by rw [Nat.sub_zero, List.drop_length]; rfl]
  refine it_for (fun i => (nI (l.drop (l.length - i)).sum, nI (l.length - i) - 1)) l.length (by omega) (fun i hi => ?_) ?_
  · show nX7_costs_l9 (nI (l.drop (l.length - i)).sum) (nI (l.length - i) - 1) (prS (lcF T 1 n) (T 1) m) M = _
    unfold nX7_costs_l9
    have e : nI (l.length - i) - 1 = nI (l.length - (i + 1)) := by
      rw [show (1 : Int32) = nI 1 from rfl, pk_sub (by omega)]
      exact congrArg nI (by omega)
    have e2 : nI (l.length - (i + 1)) + -1 = nI (l.length - (i + 1)) - 1 := by
      rw [Int32.sub_eq_add_neg]
    rw [e, if_neg (nI_pos (by omega)), if_ok (show l.length - (i + 1) < 5 by omega) (by decide), nI_clamp (by omega), prS_9, ← hle, if_pos (by omega), nI_add, e2, sum_drop l (l.length - (i + 1)) (by omega), show l.length - (i + 1) + 1 = l.length - i by omega, Nat.add_comm]
  · show nX7_costs_l9 (nI (l.drop (l.length - l.length)).sum) (nI (l.length - l.length) - 1) (prS (lcF T 1 n) (T 1) m) M = _
    unfold nX7_costs_l9
    rw [Nat.sub_self, if_pos (by decide), List.drop_zero]
    rfl
/-! the digest -/
def fdF (f : Nat → Int64) (x : Int64) : Nat → Int64
  | 0 => x
  | i + 1 => ((31 : Int64) * fdF f x i) + f i
theorem fdF_s (f : Nat → Int64) (x : Int64) (i : Nat) : fdF f x (i + 1) = ((31 : Int64) * fdF f x i) + f i := rfl
def dpF (t : Nat → Int32) (x : Int64) : Nat → Int64
  | 0 => x
  | p + 1 => fdF (fun s => (t (37 + (4 * p + s))).toInt64) (((31 : Int64) * ((31 : Int64) * ((31 : Int64) * dpF t x p + (t (23 + p)).toInt64) + (t (30 + p)).toInt64)) + (t (15 + p)).toInt64) 4
def dtF (t : Nat → Int32) (x : Int64) : Nat → Int64
  | 0 => x
  | k + 1 => ((31 : Int64) * (((31 : Int64) * (((31 : Int64) * (((31 : Int64) * (((31 : Int64) * dtF t x k) + (t (65 + k)).toInt64)) + (t (70 + k)).toInt64)) + (t (75 + k)).toInt64)) + (t (5 + k)).toInt64)) + (t (10 + k)).toInt64
