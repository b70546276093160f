/-! what people show, how things count them, to whom they come: one function for both sides -/
def shF (k n c s d : Int32) : Int32 := if k = 1 then (n + c) / 2 else if k = 2 then n else if k = 3 then (if d - d / 2 * 2 = 1 then (n + c) + 2 else n + c) else if k = 4 then (if s = 2 then 0 else (n + c) / 2) else if k = 5 then (if s = 3 then n else 0) else n + c
def ctF (k x y f : Int32) : Int32 := if k = 1 then x + y else if k = 2 then (if f ≤ 6 then x else -1) else if k = 3 then 40 - x else if k = 4 then x + y else if k = 5 then (if f ≤ 6 then x + f else -1) else x
theorem shown_spec (k n c s d : Int32) : nX1_shown k n c s d = some (shF k n c s d) := by
  unfold nX1_shown shF
  simp only [apply_ite some]
theorem showsAs_spec (k s d n c : Int32) : nX7_showsAs k s d n c = some (shF k n c s d) := by
  unfold nX7_showsAs shF
  simp only [apply_ite some]
theorem counted4_spec (k x y f : Int32) : nX4_counted k x y f = some (ctF k x y f) := by
  unfold nX4_counted nX4_counted_j11 ctF
  by_cases h : f ≤ 6
  · simp only [if_pos h, apply_ite some, if_true]
  · simp only [if_neg h, apply_ite some, show ((1 : Int32) = 0) = False from eq_false (by decide), if_false]
theorem countsAs_spec (k f x y : Int32) : nX7_countsAs k f x y = some (ctF k x y f) := by
  unfold nX7_countsAs ctF
  simp only [apply_ite some]
/-- how far: two houses -/
def farF (a b : Int32) : Int32 := if b ≤ a then a - b else b - a
theorem distance_spec (a b : Int32) : nX7_distance a b = some (farF a b) := by
  unfold nX7_distance farF
  simp only [apply_ite some]
theorem abs_far {a b : Int32} (ha : pz a 20) (hb : pz b 20) : (if 0 ≤ b - a then b - a else 0 - (b - a)) = farF a b := by
  obtain ⟨i, hi, rfl⟩ := ha
  obtain ⟨j, hj, rfl⟩ := hb
  have h : ∀ i : Fin 20, ∀ j : Fin 20, (if 0 ≤ nI j.val - nI i.val then nI j.val - nI i.val else 0 - (nI j.val - nI i.val)) = farF (nI i.val) (nI j.val) := by decide +kernel
  exact h ⟨i, hi⟩ ⟨j, hj⟩
/-- the next sort -/
theorem next_sort {s : Nat} (hs : s < 4) : ((nI s + 1) - (nI s + 1) / 4 * 4) = nI ((s + 1) % 4) := by
  have h : ∀ s : Fin 4, ((nI s.val + 1) - (nI s.val + 1) / 4 * 4) = nI ((s.val + 1) % 4) := by decide +kernel
  exact h ⟨s, hs⟩
/-- how one counts another, who lost it or not: people by kinds, houses, needs, coats -/
def pcF (kd hs nd ct : Nat → Int32) (k : Int32) (s q p : Nat) (d : Int32) : Int32 :=
  if p = q then -1 else ctF k (shF (kd p) (nd (4 * p + s)) (ct p) (nI s) d) (shF (kd p) (nd (4 * p + (s + 1) % 4)) (ct p) (nI ((s + 1) % 4)) d) (farF (hs q) (hs p))
/-- the best so far, what he counts, whether another counts the same -/
def cmS (kd hs nd ct : Nat → Int32) (k : Int32) (s q : Nat) (d : Int32) : Nat → Int32 × Int32 × Int32
  | 0 => (-1, 0, 0)
  | p + 1 => if pcF kd hs nd ct k s q p d = -1 then cmS kd hs nd ct k s q d p
    else if (cmS kd hs nd ct k s q d p).1 = -1 then (nI p, pcF kd hs nd ct k s q p d, 0)
    else if (cmS kd hs nd ct k s q d p).2.1 ≤ pcF kd hs nd ct k s q p d then
      (if pcF kd hs nd ct k s q p d = (cmS kd hs nd ct k s q d p).2.1 then ((cmS kd hs nd ct k s q d p).1, (cmS kd hs nd ct k s q d p).2.1, 1) else cmS kd hs nd ct k s q d p)
    else (nI p, pcF kd hs nd ct k s q p d, 0)
def cmF (n : Nat) (kd hs nd ct : Nat → Int32) (k : Int32) (s q : Nat) (d : Int32) : Int32 :=
  if (cmS kd hs nd ct k s q d n).2.2 = 0 then (cmS kd hs nd ct k s q d n).1 else if k = 4 then (cmS kd hs nd ct k s q d n).1 else -1
theorem pcF_congr {n : Nat} {kd hs nd ct kd' hs' nd' ct' : Nat → Int32} (h1 : ∀ p, p < n → kd p = kd' p) (h2 : ∀ p, p < n → hs p = hs' p) (h3 : ∀ j, j < 4 * n → nd j = nd' j) (h4 : ∀ p, p < n → ct p = ct' p) (k : Int32) {s q p : Nat} (hs4 : s < 4) (hq : q < n) (hp : p < n) (d : Int32) : pcF kd hs nd ct k s q p d = pcF kd' hs' nd' ct' k s q p d := by
  unfold pcF
  rw [h1 p hp, h2 p hp, h2 q hq, h3 _ (by omega), h3 (4 * p + (s + 1) % 4) (by omega), h4 p hp]
theorem cmS_congr {n : Nat} {kd hs nd ct kd' hs' nd' ct' : Nat → Int32} (h1 : ∀ p, p < n → kd p = kd' p) (h2 : ∀ p, p < n → hs p = hs' p) (h3 : ∀ j, j < 4 * n → nd j = nd' j) (h4 : ∀ p, p < n → ct p = ct' p) (k : Int32) {s q : Nat} (hs4 : s < 4) (hq : q < n) (d : Int32) : ∀ p, p ≤ n → cmS kd hs nd ct k s q d p = cmS kd' hs' nd' ct' k s q d p
  | 0, _ => rfl
  | p + 1, hp => by
    unfold cmS
    rw [pcF_congr h1 h2 h3 h4 k hs4 hq (by omega) d, cmS_congr h1 h2 h3 h4 k hs4 hq d p (by omega)]
theorem cmF_congr {n : Nat} {kd hs nd ct kd' hs' nd' ct' : Nat → Int32} (h1 : ∀ p, p < n → kd p = kd' p) (h2 : ∀ p, p < n → hs p = hs' p) (h3 : ∀ j, j < 4 * n → nd j = nd' j) (h4 : ∀ p, p < n → ct p = ct' p) (k : Int32) {s q : Nat} (hs4 : s < 4) (hq : q < n) (d : Int32) : cmF n kd hs nd ct k s q d = cmF n kd' hs' nd' ct' k s q d := by
  unfold cmF
  rw [cmS_congr h1 h2 h3 h4 k hs4 hq d n (Nat.le_refl n)]
/-- the best so far is nobody, or one of those looked at -/
theorem cmS_best (kd hs nd ct : Nat → Int32) (k : Int32) (s q : Nat) (d : Int32) : ∀ p, (cmS kd hs nd ct k s q d p).1 = -1 ∨ ∃ j, j < p ∧ j ≠ q ∧ (cmS kd hs nd ct k s q d p).1 = nI j
  | 0 => Or.inl rfl
  | p + 1 => by
    have ih := cmS_best kd hs nd ct k s q d p
    have up : ((cmS kd hs nd ct k s q d p).1 = -1 ∨ ∃ j, j < p + 1 ∧ j ≠ q ∧ (cmS kd hs nd ct k s q d p).1 = nI j) := by
      rcases ih with h | ⟨j, h1, h2, h3⟩
      · exact Or.inl h
      · exact Or.inr ⟨j, by omega, h2, h3⟩
    unfold cmS
    by_cases c1 : pcF kd hs nd ct k s q p d = -1
    · rw [if_pos c1]; exact up
    · rw [if_neg c1]
      have hpq : p ≠ q := fun h => c1 (by unfold pcF; rw [if_pos h])
      by_cases c2 : (cmS kd hs nd ct k s q d p).1 = -1
      · rw [if_pos c2]; exact Or.inr ⟨p, by omega, hpq, rfl⟩
      · rw [if_neg c2]
        by_cases c3 : (cmS kd hs nd ct k s q d p).2.1 ≤ pcF kd hs nd ct k s q p d
        · rw [if_pos c3]
          by_cases c4 : pcF kd hs nd ct k s q p d = (cmS kd hs nd ct k s q d p).2.1
          · rw [if_pos c4]; exact up
          · rw [if_neg c4]; exact up
        · rw [if_neg c3]; exact Or.inr ⟨p, by omega, hpq, rfl⟩
theorem cmF_who (n : Nat) (kd hs nd ct : Nat → Int32) (k : Int32) (s q : Nat) (d : Int32) : cmF n kd hs nd ct k s q d = -1 ∨ ∃ j, j < n ∧ j ≠ q ∧ cmF n kd hs nd ct k s q d = nI j := by
  have h := cmS_best kd hs nd ct k s q d n
  unfold cmF
  by_cases c1 : (cmS kd hs nd ct k s q d n).2.2 = 0
  · rw [if_pos c1]; exact h
  · rw [if_neg c1]
    by_cases c2 : k = 4
    · rw [if_pos c2]; exact h
    · rw [if_neg c2]; exact Or.inl rfl
/-! the developers' side -/
theorem ix4 (p s : Nat) : (4 : Int32) * nI p + nI s = nI (4 * p + s) := by
  rw [show (4 : Int32) = nI 4 from rfl, pk_mul, nI_add]
theorem X5_counted_spec {V : Nat → Nat → Int32} {n p q s : Nat} (hn : n ≤ 7) (hp : p < n) (hq : q < n) (hs : s < 4) (hh : ∀ j, j < n → pz (V 2 j) 20) (k d : Int32) : nX5_counted V k (nI s) (nI q) (nI p) d = some (pcF (V 1) (V 2) (V 4) (V 3) k s q p d) := by
  unfold nX5_counted pcF
  by_cases h : p = q
  · rw [if_eqT h, if_pos h]
  · rw [if_eqF h (by omega) (by omega), if_neg h, next_sort hs, ix4, ix4]
    simp only [ok_ix (show p < 7 by omega) (by decide), ok_ix (show q < 7 by omega) (by decide), ok_ix (show 4 * p + s < 28 by omega) (by decide), ok_ix (show 4 * p + (s + 1) % 4 < 28 by omega) (by decide), if_false, shown_spec, b1_some, counted4_spec]
    simp only [nI_clamp (show p < 2 ^ 31 by omega), nI_clamp (show q < 2 ^ 31 by omega), nI_clamp (show 4 * p + s < 2 ^ 31 by omega), nI_clamp (show 4 * p + (s + 1) % 4 < 2 ^ 31 by omega)]
    rw [abs_far (hh q hq) (hh p hp)]
theorem likeOnes_spec (k : Int32) : nX4_likeOnesLeaveIt k = some (if k = 4 then 0 else 1) := by
  unfold nX4_likeOnesLeaveIt
  simp only [apply_ite some]
theorem X5_goesTo_spec {V : Nat → Nat → Int32} {n q s : Nat} (hn : n ≤ 7) (hV : V 0 12 = nI n) (hq : q < n) (hs : s < 4) (hh : ∀ j, j < n → pz (V 2 j) 20) (k d : Int32) : nX5_goesTo V k (nI s) (nI q) d = some (cmF n (V 1) (V 2) (V 4) (V 3) k s q d) := by
  unfold nX5_goesTo
  refine it_for (fun i => ((cmS (V 1) (V 2) (V 4) (V 3) k s q d i).1, (cmS (V 1) (V 2) (V 4) (V 3) k s q d i).2.1, (cmS (V 1) (V 2) (V 4) (V 3) k s q d i).2.2, nI i)) n (by omega) (fun i hi => ?_) ?_
  · show nX5_goesTo_l12 k (nI s) (nI q) d _ _ _ (nI i) V = _
    unfold nX5_goesTo_l12
    rw [hV, if_leF (by omega) (by omega), X5_counted_spec hn hi hq hs hh, b1_some]
    unfold nX5_goesTo_i12_j56
    rw [show cmS (V 1) (V 2) (V 4) (V 3) k s q d (i + 1) = _ from by unfold cmS; rfl, nI_1]
    by_cases c1 : pcF (V 1) (V 2) (V 4) (V 3) k s q i d = -1
    · rw [if_pos c1, if_pos c1]
    · rw [if_neg c1, if_neg c1]
      by_cases c2 : (cmS (V 1) (V 2) (V 4) (V 3) k s q d i).1 = -1
      · rw [if_pos c2, if_pos c2]
      · rw [if_neg c2, if_neg c2]
        by_cases c3 : (cmS (V 1) (V 2) (V 4) (V 3) k s q d i).2.1 ≤ pcF (V 1) (V 2) (V 4) (V 3) k s q i d
        · rw [if_pos c3, if_pos c3]
          by_cases c4 : pcF (V 1) (V 2) (V 4) (V 3) k s q i d = (cmS (V 1) (V 2) (V 4) (V 3) k s q d i).2.1
          · rw [if_pos c4, if_pos c4]
          · rw [if_neg c4, if_neg c4]
        · rw [if_neg c3, if_neg c3]
  · show nX5_goesTo_l12 k (nI s) (nI q) d _ _ _ (nI n) V = _
    unfold nX5_goesTo_l12 cmF
    rw [hV, if_pos (by rw [e_le (by omega) (by omega)]; exact Nat.le_refl n), likeOnes_spec, b1_some]
    by_cases c1 : (cmS (V 1) (V 2) (V 4) (V 3) k s q d n).2.2 = 0
    · rw [if_pos c1, if_pos c1]; rfl
    · rw [if_neg c1, if_neg c1]
      by_cases c2 : k = 4
      · rw [if_pos c2, if_pos c2, if_pos rfl]; rfl
      · rw [if_neg c2, if_neg c2, if_neg (by decide)]; rfl
