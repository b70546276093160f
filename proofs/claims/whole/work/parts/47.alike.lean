/-! how many are most alike -/
def btF (k : Int32) (j : Nat) : Bool := decide (((k >>> (nI j &&& 31)) &&& 1) = 1)
theorem btF_t {k : Int32} {j : Nat} (h : btF k j = true) : ((k >>> (nI j &&& 31)) &&& 1) = 1 := of_decide_eq_true h
theorem btF_f {k : Int32} {j : Nat} (h : btF k j = false) : ¬ ((k >>> (nI j &&& 31)) &&& 1) = 1 := of_decide_eq_false h
theorem X7_has_spec (k : Int32) (j : Nat) : nX7_has k (nI j) = some (if btF k j = true then 1 else 0) := by
  unfold nX7_has
  by_cases h : btF k j = true
  · rw [if_pos (btF_t h), if_pos h]
  · rw [if_neg (btF_f (Bool.eq_false_iff.mpr h)), if_neg h]
def alN (B : Nat → Bool) (f : Nat → Int32) (k : Nat) : Nat → Nat := cnF (fun j => B j && decide (f j = f k))
def mxN (B : Nat → Bool) (f : Nat → Int32) : Nat → Nat
  | 0 => 0
  | k + 1 => if B k = true then (if alN B f k 6 ≤ mxN B f k then mxN B f k else alN B f k 6) else mxN B f k
theorem mxN_s (B : Nat → Bool) (f : Nat → Int32) (k : Nat) : mxN B f (k + 1) = if B k = true then (if alN B f k 6 ≤ mxN B f k then mxN B f k else alN B f k 6) else mxN B f k := rfl
theorem alN_le (B : Nat → Bool) (f : Nat → Int32) (k i : Nat) : alN B f k i ≤ i := cnF_le _ i
theorem mxN_le (B : Nat → Bool) (f : Nat → Int32) : ∀ k, mxN B f k ≤ 6
  | 0 => Nat.zero_le 6
  | k + 1 => by
    have h1 := mxN_le B f k
    have h2 := alN_le B f k 6
    rw [mxN_s]
    by_cases c : B k = true
    · rw [if_pos c]
      by_cases c2 : alN B f k 6 ≤ mxN B f k
      · rw [if_pos c2]; exact h1
      · rw [if_neg c2]; exact h2
    · rw [if_neg c]; exact h1
theorem mxN_congr {B : Nat → Bool} {f g : Nat → Int32} (h : ∀ j, j < 6 → f j = g j) : ∀ k, k ≤ 6 → mxN B f k = mxN B g k
  | 0, _ => rfl
  | k + 1, hk => by
    have e : ∀ i, i ≤ 6 → alN B f k i = alN B g k i := by
      intro i
      induction i with
      | zero => intro _; rfl
      | succ i ih =>
        intro hi
        show (if (B i && decide (f i = f k)) = true then alN B f k i + 1 else alN B f k i) = (if (B i && decide (g i = g k)) = true then alN B g k i + 1 else alN B g k i)
        rw [ih (by omega), h i (by omega), h k (by omega)]
    rw [mxN_s, mxN_s, mxN_congr h k (by omega), e 6 (Nat.le_refl 6)]
theorem X6_mostAlike_spec (V : Nat → Nat → Int32) (mk : Int32) : nX6_mostAlike 6 V mk = some (nI (mxN (btF mk) (V 0) 6)) := by
  unfold nX6_mostAlike
  refine it_for (fun k => (nI (mxN (btF mk) (V 0) k), nI k)) 6 (by decide) (fun k hk => ?_) ?_
  · show nX6_mostAlike_l4 6 mk (nI (mxN (btF mk) (V 0) k)) (nI k) V = _
    unfold nX6_mostAlike_l4
    have hmx := mxN_le (btF mk) (V 0) k
    rw [show (Int32.ofNat 6) = nI 6 from rfl, if_leF hk (by decide)]
    refine it_for (fun i => (nI (alN (btF mk) (V 0) k i), nI i)) 6 (by decide) (fun i hi => ?_) ?_
    · show nX6_mostAlike_i4_l16 6 mk (nI (mxN (btF mk) (V 0) k)) (nI k) (nI (alN (btF mk) (V 0) k i)) (nI i) V = _
      unfold nX6_mostAlike_i4_l16
      have es : alN (btF mk) (V 0) k (i + 1) = if (btF mk i && decide (V 0 i = V 0 k)) = true then alN (btF mk) (V 0) k i + 1 else alN (btF mk) (V 0) k i := rfl
      rw [show (Int32.ofNat 6) = nI 6 from rfl, if_leF hi (by decide), es, nI_1 i]
      by_cases c : btF mk i = true
      · rw [if_pos (btF_t c), if_ok hi (by decide), if_ok hk (by decide), nI_clamp (by omega), nI_clamp (by omega), c, Bool.true_and]
        by_cases c2 : V 0 i = V 0 k
        · rw [if_pos c2, if_pos (decide_eq_true c2), nI_1]
        · rw [if_neg c2, if_neg (by rw [decide_eq_true_eq]; exact c2)]
      · rw [if_neg (btF_f (Bool.eq_false_iff.mpr c)), Bool.eq_false_iff.mpr c, Bool.false_and]
        rfl
    · show nX6_mostAlike_i4_l16 6 mk (nI (mxN (btF mk) (V 0) k)) (nI k) (nI (alN (btF mk) (V 0) k 6)) (nI 6) V = _
      unfold nX6_mostAlike_i4_l16
      have ha := alN_le (btF mk) (V 0) k 6
      rw [if_pos (by decide), mxN_s, nI_1]
      by_cases c : btF mk k = true
      · rw [if_pos (btF_t c), if_pos c]
        by_cases c2 : alN (btF mk) (V 0) k 6 ≤ mxN (btF mk) (V 0) k
        · rw [if_leT c2 (by omega), if_pos c2]; rfl
        · rw [if_leF (by omega) (by omega), if_neg c2]; rfl
      · rw [if_neg (btF_f (Bool.eq_false_iff.mpr c)), if_neg c]; rfl
  · show nX6_mostAlike_l4 6 mk (nI (mxN (btF mk) (V 0) 6)) (nI 6) V = _
    unfold nX6_mostAlike_l4
    rw [if_pos (by decide)]
    rfl
/-- the look that tells most: the first with the least that are alike -/
def bsF (g : Nat → Nat) : Nat → Int32 × Nat
  | 0 => (-1, 7)
  | i + 1 => if (bsF g i).2 ≤ g i then bsF g i else (nI i, g i)
theorem bsF_s (g : Nat → Nat) (i : Nat) : bsF g (i + 1) = if (bsF g i).2 ≤ g i then bsF g i else (nI i, g i) := rfl
theorem bsF_le (g : Nat → Nat) (h : ∀ i, g i ≤ 6) : ∀ i, (bsF g i).2 ≤ 7 ∧ (0 < i → (bsF g i).2 ≤ 6)
  | 0 => ⟨Nat.le_refl 7, fun h => absurd h (Nat.lt_irrefl 0)⟩
  | i + 1 => by
    obtain ⟨h1, h2⟩ := bsF_le g h i
    have h3 := h i
    rw [bsF_s]
    by_cases c : (bsF g i).2 ≤ g i
    · rw [if_pos c]; exact ⟨h1, fun _ => by omega⟩
    · rw [if_neg c]; exact ⟨by show g i ≤ 7; omega, fun _ => h3⟩
theorem mkF_pos (P : Nat → Bool) : ¬ mkF P 6 < 0 := by
  have h : ∀ b0 b1 b2 b3 b4 b5 : Bool, ¬ mkF (fun k => if k = 0 then b0 else if k = 1 then b1 else if k = 2 then b2 else if k = 3 then b3 else if k = 4 then b4 else b5) 6 < 0 := by decide +kernel
  have e : mkF P 6 = mkF (fun k => if k = 0 then P 0 else if k = 1 then P 1 else if k = 2 then P 2 else if k = 3 then P 3 else if k = 4 then P 4 else P 5) 6 := mkF_congr 6 (fun k hk => by
    rcases (show k = 0 ∨ k = 1 ∨ k = 2 ∨ k = 3 ∨ k = 4 ∨ k = 5 by omega) with rfl | rfl | rfl | rfl | rfl | rfl <;> rfl)
  rw [e]
  exact h _ _ _ _ _ _
theorem mkF_le0 (P : Nat → Bool) : (mkF P 6 ≤ 0) = (mkF P 6 = 0) := propext ⟨fun h => Int32.le_antisymm h (Int32.not_lt.mp (mkF_pos P)), fun h => by rw [h]; exact Int32.le_refl 0⟩
