/-! the reference's side of it -/
theorem shF_small {n c : Int32} (hn : pz n 10) (hc : pz c 10) (k s d : Int32) : pz (shF k n c s d) 21 := by
  obtain ⟨i, hi, rfl⟩ := hn
  obtain ⟨j, hj, rfl⟩ := hc
  have h1 : nI i + nI j = nI (i + j) := nI_add i j
  have h2 : (nI i + nI j) / 2 = nI ((i + j) / 2) := by
    rw [h1, show (2 : Int32) = nI 2 from rfl, pk_div (by omega) (by decide) (by decide)]
  have h3 : (nI i + nI j) + 2 = nI (i + j + 2) := by
    rw [h1, show (2 : Int32) = nI 2 from rfl, nI_add]
  unfold shF
  rw [h2, h3, h1]
  have g1 : pz (nI ((i + j) / 2)) 21 := z_nI (by omega)
  have g2 : pz (nI i) 21 := z_nI (by omega)
  have g3 : pz (nI (i + j + 2)) 21 := z_nI (by omega)
  have g4 : pz (nI (i + j)) 21 := z_nI (by omega)
  have g5 : pz (0 : Int32) 21 := ⟨0, by decide, rfl⟩
  repeat' split
  all_goals assumption
theorem farF_small {a b : Int32} (ha : pz a 20) (hb : pz b 20) : pz (farF a b) 20 := by
  obtain ⟨i, hi, rfl⟩ := ha
  obtain ⟨j, hj, rfl⟩ := hb
  unfold farF
  by_cases h : nI j ≤ nI i
  · rw [if_pos h]
    rw [nI_leI (by omega) (by omega)] at h
    rw [pk_sub h]
    exact z_nI (by omega)
  · rw [if_neg h]
    rw [nI_leI (by omega) (by omega)] at h
    rw [pk_sub (by omega)]
    exact z_nI (by omega)
theorem ctF_small {x y f : Int32} (hx : pz x 21) (hy : pz y 21) (hf : pz f 20) (k : Int32) : ctF k x y f = -1 ∨ pz (ctF k x y f) 100 := by
  obtain ⟨i, hi, rfl⟩ := hx
  obtain ⟨j, hj, rfl⟩ := hy
  obtain ⟨g, hg, rfl⟩ := hf
  have h1 : nI i + nI j = nI (i + j) := nI_add i j
  have h2 : (40 : Int32) - nI i = nI (40 - i) := by
    rw [show (40 : Int32) = nI 40 from rfl, pk_sub (by omega)]
  have h3 : nI i + nI g = nI (i + g) := nI_add i g
  unfold ctF
  rw [h1, h2, h3]
  have g1 : pz (nI (i + j)) 100 := z_nI (by omega)
  have g2 : pz (nI i) 100 := z_nI (by omega)
  have g3 : pz (nI (40 - i)) 100 := z_nI (by omega)
  have g4 : pz (nI (i + g)) 100 := z_nI (by omega)
  repeat' split
  all_goals first | exact Or.inr (by assumption) | exact Or.inl rfl
theorem pcF_small {n : Nat} {kd hs nd ct : Nat → Int32} (hh : ∀ j, j < n → pz (hs j) 20) (hnd : ∀ j, j < 4 * n → pz (nd j) 10) (hct : ∀ j, j < n → pz (ct j) 10) (k : Int32) {s q p : Nat} (hs4 : s < 4) (hq : q < n) (hp : p < n) (d : Int32) : pcF kd hs nd ct k s q p d = -1 ∨ pz (pcF kd hs nd ct k s q p d) 100 := by
  unfold pcF
  by_cases h : p = q
  · rw [if_pos h]; exact Or.inl rfl
  · rw [if_neg h]
    exact ctF_small (shF_small (hnd _ (by omega)) (hct p hp) _ _ _) (shF_small (hnd _ (by omega)) (hct p hp) _ _ _) (farF_small (hh q hq) (hh p hp)) k
/-- the reference's numbers on its way: far off, as long as there is nobody -/
def mdS (kd hs nd ct : Nat → Int32) (k : Int32) (s q : Nat) (d : Int32) (i : Nat) : Int32 × Int32 × Int32 × Int32 :=
  ((cmS kd hs nd ct k s q d i).1, (if (cmS kd hs nd ct k s q d i).1 = -1 then 1000000 else (cmS kd hs nd ct k s q d i).2.1), (cmS kd hs nd ct k s q d i).2.2, nI i)
def mdN (y : Int32 × Int32 × Int32 × Int32) (x : Int32) (i : Nat) : Int32 × Int32 × Int32 × Int32 :=
  if x = -1 then (y.1, y.2.1, y.2.2.1, nI (i + 1)) else if y.2.1 < x then (y.1, y.2.1, y.2.2.1, nI (i + 1)) else if x = y.2.1 then (if y.2.1 ≤ x then (y.1, x, 1, nI (i + 1)) else (nI i, x, 1, nI (i + 1))) else (if y.2.1 ≤ x then (y.1, x, 0, nI (i + 1)) else (nI i, x, 0, nI (i + 1)))
theorem mdS_step {kd hs nd : Nat → Int32} (ct : Nat → Int32) (k : Int32) (s q : Nat) (d : Int32) (i : Nat) (hi : i < 2 ^ 31) (hb : pcF kd hs nd ct k s q i d = -1 ∨ pz (pcF kd hs nd ct k s q i d) 100) :
    mdS kd hs nd ct k s q d (i + 1) = mdN (mdS kd hs nd ct k s q d i) (pcF kd hs nd ct k s q i d) i := by
  have h4 : ¬ nI i = -1 := fun h => by rw [e_ne1 hi] at h; exact h
  unfold mdS mdN
  rw [show cmS kd hs nd ct k s q d (i + 1) = _ from by unfold cmS; rfl]
  generalize pcF kd hs nd ct k s q i d = x at hb
  generalize cmS kd hs nd ct k s q d i = y
  by_cases c1 : x = -1
  · simp only [if_pos c1]
  · by_cases c2 : y.1 = -1
    · obtain ⟨j, hj, rfl⟩ : pz x 100 := hb.resolve_left c1
      have h1 : ¬ (1000000 : Int32) < nI j := by rw [show (1000000 : Int32) = nI 1000000 from rfl, nI_ltI (by decide) (by omega)]; omega
      have h2 : ¬ nI j = (1000000 : Int32) := by rw [show (1000000 : Int32) = nI 1000000 from rfl, nI_eq (by omega) (by decide)]; omega
      have h3 : ¬ (1000000 : Int32) ≤ nI j := by rw [show (1000000 : Int32) = nI 1000000 from rfl, nI_leI (by decide) (by omega)]; omega
      simp only [if_neg c1, if_pos c2, if_neg h1, if_neg h2, if_neg h3, if_neg h4]
    · by_cases c3 : y.2.1 ≤ x
      · by_cases c4 : x = y.2.1
        · subst c4
          simp only [if_neg c1, if_neg c2, if_pos (Int32.le_refl y.2.1), if_neg (Int32.lt_irrefl (a := y.2.1)), if_true]
        · have h5 : y.2.1 < x := Int32.lt_of_le_of_ne c3 (fun h => c4 h.symm)
          simp only [if_neg c1, if_neg c2, if_pos c3, if_neg c4, if_pos h5]
      · have h5 : ¬ y.2.1 < x := fun h => c3 (Int32.le_of_lt h)
        have h6 : ¬ x = y.2.1 := fun h => c3 (by rw [h]; exact Int32.le_refl _)
        simp only [if_neg c1, if_neg c2, if_neg c3, if_neg h4, if_neg h5, if_neg h6]

theorem X7_showsOn_1_spec {T : Nat → Nat → Int32} {M : Nat → Nat → Int64} {n p s : Nat} (hn : n ≤ 7) (hp : p < n) (hs : s < 4) (d : Int32) : nX7_showsOn_1 T M (nI p) (nI s) d = some (shF (T 1 (23 + p)) (T 1 (37 + (4 * p + s))) (T 5 p) (nI s) d) := by
  unfold nX7_showsOn_1
  rw [show (23 : Int32) + nI p = nI (23 + p) from nI_add 23 p, show ((37 : Int32) + ((4 : Int32) * nI p)) + nI s = nI (37 + (4 * p + s)) from by
    rw [show (4 : Int32) = nI 4 from rfl, show (37 : Int32) = nI 37 from rfl, pk_mul, nI_add, nI_add, Nat.add_assoc]]
  simp only [ok_ix (show 23 + p < 284 by omega) (by decide), ok_ix (show 37 + (4 * p + s) < 284 by omega) (by decide), ok_ix (show p < 7 by omega) (by decide), if_false, showsAs_spec, b1_some]
  simp only [nI_clamp (show p < 2 ^ 31 by omega), nI_clamp (show 23 + p < 2 ^ 31 by omega), nI_clamp (show 37 + (4 * p + s) < 2 ^ 31 by omega)]
theorem X7_countsOn_1_spec {T : Nat → Nat → Int32} {M : Nat → Nat → Int64} {n p q s : Nat} (hn : n ≤ 7) (hp : p < n) (hq : q < n) (hpq : p ≠ q) (hs : s < 4) (k d : Int32) : nX7_countsOn_1 T M k (nI s) d (nI q) (nI p) = some (pcF (fun p => T 1 (23 + p)) (fun p => T 1 (30 + p)) (fun j => T 1 (37 + j)) (T 5) k s q p d) := by
  unfold nX7_countsOn_1 pcF
  rw [if_neg hpq, show (30 : Int32) + nI p = nI (30 + p) from nI_add 30 p, show (30 : Int32) + nI q = nI (30 + q) from nI_add 30 q, next_sort hs]
  simp only [ok_ix (show 30 + p < 284 by omega) (by decide), ok_ix (show 30 + q < 284 by omega) (by decide), if_false, distance_spec, b1_some, X7_showsOn_1_spec hn hp hs, X7_showsOn_1_spec hn hp (show (s + 1) % 4 < 4 by omega), countsAs_spec]
  simp only [nI_clamp (show 30 + p < 2 ^ 31 by omega), nI_clamp (show 30 + q < 2 ^ 31 by omega)]
theorem X7_comesTo_1_spec {T : Nat → Nat → Int32} {M : Nat → Nat → Int64} {n q s : Nat} (hn : n ≤ 7) (hT : T 1 0 = nI n) (hq : q < n) (hs : s < 4) (hh : ∀ j, j < n → pz (T 1 (30 + j)) 20) (hnd : ∀ j, j < 4 * n → pz (T 1 (37 + j)) 10) (hct : ∀ j, j < n → pz (T 5 j) 10) (k d : Int32) : nX7_comesTo_1 T M k (nI s) d (nI q) = some (cmF n (fun p => T 1 (23 + p)) (fun p => T 1 (30 + p)) (fun j => T 1 (37 + j)) (T 5) k s q d) := by
  unfold nX7_comesTo_1
  refine it_for (fun i => mdS (fun p => T 1 (23 + p)) (fun p => T 1 (30 + p)) (fun j => T 1 (37 + j)) (T 5) k s q d i) n (by omega) (fun i hi => ?_) ?_
  · show nX7_comesTo_1_l13 k (nI s) d (nI q) _ _ _ (nI i) T M = _
    unfold nX7_comesTo_1_l13
    rw [hT, if_leF (by omega) (by omega)]
    have hw : (if nI i = nI q then nX7_comesTo_1_i13_j45 k (nI s) d (nI q) (mdS (fun p => T 1 (23 + p)) (fun p => T 1 (30 + p)) (fun j => T 1 (37 + j)) (T 5) k s q d i).1 (mdS (fun p => T 1 (23 + p)) (fun p => T 1 (30 + p)) (fun j => T 1 (37 + j)) (T 5) k s q d i).2.1 (mdS (fun p => T 1 (23 + p)) (fun p => T 1 (30 + p)) (fun j => T 1 (37 + j)) (T 5) k s q d i).2.2.1 (nI i) (-1 : Int32) T M else k_b1 (nX7_countsOn_1 T M k (nI s) d (nI q) (nI i)) (fun r42 => nX7_comesTo_1_i13_j45 k (nI s) d (nI q) (mdS (fun p => T 1 (23 + p)) (fun p => T 1 (30 + p)) (fun j => T 1 (37 + j)) (T 5) k s q d i).1 (mdS (fun p => T 1 (23 + p)) (fun p => T 1 (30 + p)) (fun j => T 1 (37 + j)) (T 5) k s q d i).2.1 (mdS (fun p => T 1 (23 + p)) (fun p => T 1 (30 + p)) (fun j => T 1 (37 + j)) (T 5) k s q d i).2.2.1 (nI i) r42 T M))
        = nX7_comesTo_1_i13_j45 k (nI s) d (nI q) (mdS (fun p => T 1 (23 + p)) (fun p => T 1 (30 + p)) (fun j => T 1 (37 + j)) (T 5) k s q d i).1 (mdS (fun p => T 1 (23 + p)) (fun p => T 1 (30 + p)) (fun j => T 1 (37 + j)) (T 5) k s q d i).2.1 (mdS (fun p => T 1 (23 + p)) (fun p => T 1 (30 + p)) (fun j => T 1 (37 + j)) (T 5) k s q d i).2.2.1 (nI i) (pcF (fun p => T 1 (23 + p)) (fun p => T 1 (30 + p)) (fun j => T 1 (37 + j)) (T 5) k s q i d) T M := by
      by_cases h : i = q
      · rw [if_eqT h]; unfold pcF; rw [if_pos h]
      · rw [if_eqF h (by omega) (by omega), X7_countsOn_1_spec hn hi hq h hs, b1_some]
    refine hw.trans ?_
    have hb : pcF (fun p => T 1 (23 + p)) (fun p => T 1 (30 + p)) (fun j => T 1 (37 + j)) (T 5) k s q i d = -1 ∨ pz (pcF (fun p => T 1 (23 + p)) (fun p => T 1 (30 + p)) (fun j => T 1 (37 + j)) (T 5) k s q i d) 100 := pcF_small (fun j hj => hh j hj) (fun j hj => hnd j hj) hct k hs hq hi d
    rw [mdS_step (T 5) k s q d i (by omega) hb]
    unfold nX7_comesTo_1_i13_j45 nX7_comesTo_1_i13_j72 nX7_comesTo_1_i13_j88
    rw [nI_1]
    generalize pcF (fun p => T 1 (23 + p)) (fun p => T 1 (30 + p)) (fun j => T 1 (37 + j)) (T 5) k s q i d = x
    generalize mdS (fun p => T 1 (23 + p)) (fun p => T 1 (30 + p)) (fun j => T 1 (37 + j)) (T 5) k s q d i = y
    unfold mdN
    by_cases c1 : x = -1
    · rw [if_pos c1, if_pos c1]
    · rw [if_neg c1, if_neg c1]
      by_cases c2 : y.2.1 < x
      · rw [if_pos c2, if_pos c2]
      · rw [if_neg c2, if_neg c2]
        by_cases c3 : x = y.2.1
        · rw [if_pos c3, if_pos c3]
          by_cases c4 : y.2.1 ≤ x
          · rw [if_pos c4, if_pos c4]
          · rw [if_neg c4, if_neg c4]
        · rw [if_neg c3, if_neg c3]
          by_cases c4 : y.2.1 ≤ x
          · rw [if_pos c4, if_pos c4]
          · rw [if_neg c4, if_neg c4]
  · show nX7_comesTo_1_l13 k (nI s) d (nI q) _ _ _ (nI n) T M = _
    unfold nX7_comesTo_1_l13 cmF
    rw [hT, if_pos (by rw [e_le (by omega) (by omega)]; exact Nat.le_refl n)]
    have e1 : (mdS (fun p => T 1 (23 + p)) (fun p => T 1 (30 + p)) (fun j => T 1 (37 + j)) (T 5) k s q d n).2.2.1 = (cmS (fun p => T 1 (23 + p)) (fun p => T 1 (30 + p)) (fun j => T 1 (37 + j)) (T 5) k s q d n).2.2 := rfl
    have e2 : (mdS (fun p => T 1 (23 + p)) (fun p => T 1 (30 + p)) (fun j => T 1 (37 + j)) (T 5) k s q d n).1 = (cmS (fun p => T 1 (23 + p)) (fun p => T 1 (30 + p)) (fun j => T 1 (37 + j)) (T 5) k s q d n).1 := rfl
    rw [e1, e2]
    by_cases c1 : (cmS (fun p => T 1 (23 + p)) (fun p => T 1 (30 + p)) (fun j => T 1 (37 + j)) (T 5) k s q d n).2.2 = 0
    · rw [if_pos c1, if_pos c1]; rfl
    · rw [if_neg c1, if_neg c1]
      by_cases c2 : k = 4
      · rw [if_pos c2, if_pos c2]; rfl
      · rw [if_neg c2, if_neg c2]; rfl

theorem X7_showsOn_15_spec {T : Nat → Nat → Int32} {M : Nat → Nat → Int64} {n p s : Nat} (hn : n ≤ 7) (hp : p < n) (hs : s < 4) (d : Int32) : nX7_showsOn_15 T M (nI p) (nI s) d = some (shF (T 15 (23 + p)) (T 15 (37 + (4 * p + s))) (T 5 p) (nI s) d) := by
  unfold nX7_showsOn_15
  rw [show (23 : Int32) + nI p = nI (23 + p) from nI_add 23 p, show ((37 : Int32) + ((4 : Int32) * nI p)) + nI s = nI (37 + (4 * p + s)) from by
    rw [show (4 : Int32) = nI 4 from rfl, show (37 : Int32) = nI 37 from rfl, pk_mul, nI_add, nI_add, Nat.add_assoc]]
  simp only [ok_ix (show 23 + p < 80 by omega) (by decide), ok_ix (show 37 + (4 * p + s) < 80 by omega) (by decide), ok_ix (show p < 7 by omega) (by decide), if_false, showsAs_spec, b1_some]
  simp only [nI_clamp (show p < 2 ^ 31 by omega), nI_clamp (show 23 + p < 2 ^ 31 by omega), nI_clamp (show 37 + (4 * p + s) < 2 ^ 31 by omega)]
theorem X7_countsOn_15_spec {T : Nat → Nat → Int32} {M : Nat → Nat → Int64} {n p q s : Nat} (hn : n ≤ 7) (hp : p < n) (hq : q < n) (hpq : p ≠ q) (hs : s < 4) (k d : Int32) : nX7_countsOn_15 T M k (nI s) d (nI q) (nI p) = some (pcF (fun p => T 15 (23 + p)) (fun p => T 15 (30 + p)) (fun j => T 15 (37 + j)) (T 5) k s q p d) := by
  unfold nX7_countsOn_15 pcF
  rw [if_neg hpq, show (30 : Int32) + nI p = nI (30 + p) from nI_add 30 p, show (30 : Int32) + nI q = nI (30 + q) from nI_add 30 q, next_sort hs]
  simp only [ok_ix (show 30 + p < 80 by omega) (by decide), ok_ix (show 30 + q < 80 by omega) (by decide), if_false, distance_spec, b1_some, X7_showsOn_15_spec hn hp hs, X7_showsOn_15_spec hn hp (show (s + 1) % 4 < 4 by omega), countsAs_spec]
  simp only [nI_clamp (show 30 + p < 2 ^ 31 by omega), nI_clamp (show 30 + q < 2 ^ 31 by omega)]
theorem X7_comesTo_15_spec {T : Nat → Nat → Int32} {M : Nat → Nat → Int64} {n q s : Nat} (hn : n ≤ 7) (hT : T 15 0 = nI n) (hq : q < n) (hs : s < 4) (hh : ∀ j, j < n → pz (T 15 (30 + j)) 20) (hnd : ∀ j, j < 4 * n → pz (T 15 (37 + j)) 10) (hct : ∀ j, j < n → pz (T 5 j) 10) (k d : Int32) : nX7_comesTo_15 T M k (nI s) d (nI q) = some (cmF n (fun p => T 15 (23 + p)) (fun p => T 15 (30 + p)) (fun j => T 15 (37 + j)) (T 5) k s q d) := by
  unfold nX7_comesTo_15
  refine it_for (fun i => mdS (fun p => T 15 (23 + p)) (fun p => T 15 (30 + p)) (fun j => T 15 (37 + j)) (T 5) k s q d i) n (by omega) (fun i hi => ?_) ?_
  · show nX7_comesTo_15_l13 k (nI s) d (nI q) _ _ _ (nI i) T M = _
    unfold nX7_comesTo_15_l13
    rw [hT, if_leF (by omega) (by omega)]
    have hw : (if nI i = nI q then nX7_comesTo_15_i13_j45 k (nI s) d (nI q) (mdS (fun p => T 15 (23 + p)) (fun p => T 15 (30 + p)) (fun j => T 15 (37 + j)) (T 5) k s q d i).1 (mdS (fun p => T 15 (23 + p)) (fun p => T 15 (30 + p)) (fun j => T 15 (37 + j)) (T 5) k s q d i).2.1 (mdS (fun p => T 15 (23 + p)) (fun p => T 15 (30 + p)) (fun j => T 15 (37 + j)) (T 5) k s q d i).2.2.1 (nI i) (-1 : Int32) T M else k_b1 (nX7_countsOn_15 T M k (nI s) d (nI q) (nI i)) (fun r42 => nX7_comesTo_15_i13_j45 k (nI s) d (nI q) (mdS (fun p => T 15 (23 + p)) (fun p => T 15 (30 + p)) (fun j => T 15 (37 + j)) (T 5) k s q d i).1 (mdS (fun p => T 15 (23 + p)) (fun p => T 15 (30 + p)) (fun j => T 15 (37 + j)) (T 5) k s q d i).2.1 (mdS (fun p => T 15 (23 + p)) (fun p => T 15 (30 + p)) (fun j => T 15 (37 + j)) (T 5) k s q d i).2.2.1 (nI i) r42 T M))
        = nX7_comesTo_15_i13_j45 k (nI s) d (nI q) (mdS (fun p => T 15 (23 + p)) (fun p => T 15 (30 + p)) (fun j => T 15 (37 + j)) (T 5) k s q d i).1 (mdS (fun p => T 15 (23 + p)) (fun p => T 15 (30 + p)) (fun j => T 15 (37 + j)) (T 5) k s q d i).2.1 (mdS (fun p => T 15 (23 + p)) (fun p => T 15 (30 + p)) (fun j => T 15 (37 + j)) (T 5) k s q d i).2.2.1 (nI i) (pcF (fun p => T 15 (23 + p)) (fun p => T 15 (30 + p)) (fun j => T 15 (37 + j)) (T 5) k s q i d) T M := by
      by_cases h : i = q
      · rw [if_eqT h]; unfold pcF; rw [if_pos h]
      · rw [if_eqF h (by omega) (by omega), X7_countsOn_15_spec hn hi hq h hs, b1_some]
    refine hw.trans ?_
    have hb : pcF (fun p => T 15 (23 + p)) (fun p => T 15 (30 + p)) (fun j => T 15 (37 + j)) (T 5) k s q i d = -1 ∨ pz (pcF (fun p => T 15 (23 + p)) (fun p => T 15 (30 + p)) (fun j => T 15 (37 + j)) (T 5) k s q i d) 100 := pcF_small (fun j hj => hh j hj) (fun j hj => hnd j hj) hct k hs hq hi d
    rw [mdS_step (T 5) k s q d i (by omega) hb]
    unfold nX7_comesTo_15_i13_j45 nX7_comesTo_15_i13_j72 nX7_comesTo_15_i13_j88
    rw [nI_1]
    generalize pcF (fun p => T 15 (23 + p)) (fun p => T 15 (30 + p)) (fun j => T 15 (37 + j)) (T 5) k s q i d = x
    generalize mdS (fun p => T 15 (23 + p)) (fun p => T 15 (30 + p)) (fun j => T 15 (37 + j)) (T 5) k s q d i = y
    unfold mdN
    by_cases c1 : x = -1
    · rw [if_pos c1, if_pos c1]
    · rw [if_neg c1, if_neg c1]
      by_cases c2 : y.2.1 < x
      · rw [if_pos c2, if_pos c2]
      · rw [if_neg c2, if_neg c2]
        by_cases c3 : x = y.2.1
        · rw [if_pos c3, if_pos c3]
          by_cases c4 : y.2.1 ≤ x
          · rw [if_pos c4, if_pos c4]
          · rw [if_neg c4, if_neg c4]
        · rw [if_neg c3, if_neg c3]
          by_cases c4 : y.2.1 ≤ x
          · rw [if_pos c4, if_pos c4]
          · rw [if_neg c4, if_neg c4]
  · show nX7_comesTo_15_l13 k (nI s) d (nI q) _ _ _ (nI n) T M = _
    unfold nX7_comesTo_15_l13 cmF
    rw [hT, if_pos (by rw [e_le (by omega) (by omega)]; exact Nat.le_refl n)]
    have e1 : (mdS (fun p => T 15 (23 + p)) (fun p => T 15 (30 + p)) (fun j => T 15 (37 + j)) (T 5) k s q d n).2.2.1 = (cmS (fun p => T 15 (23 + p)) (fun p => T 15 (30 + p)) (fun j => T 15 (37 + j)) (T 5) k s q d n).2.2 := rfl
    have e2 : (mdS (fun p => T 15 (23 + p)) (fun p => T 15 (30 + p)) (fun j => T 15 (37 + j)) (T 5) k s q d n).1 = (cmS (fun p => T 15 (23 + p)) (fun p => T 15 (30 + p)) (fun j => T 15 (37 + j)) (T 5) k s q d n).1 := rfl
    rw [e1, e2]
    by_cases c1 : (cmS (fun p => T 15 (23 + p)) (fun p => T 15 (30 + p)) (fun j => T 15 (37 + j)) (T 5) k s q d n).2.2 = 0
    · rw [if_pos c1, if_pos c1]; rfl
    · rw [if_neg c1, if_neg c1]
      by_cases c2 : k = 4
      · rw [if_pos c2, if_pos c2]; rfl
      · rw [if_neg c2, if_neg c2]; rfl

theorem X7_showsOn_17_spec {T : Nat → Nat → Int32} {M : Nat → Nat → Int64} {n p s : Nat} (hn : n ≤ 7) (hp : p < n) (hs : s < 4) (d : Int32) : nX7_showsOn_17 T M (nI p) (nI s) d = some (shF (T 17 (23 + p)) (T 17 (37 + (4 * p + s))) (T 5 p) (nI s) d) := by
  unfold nX7_showsOn_17
  rw [show (23 : Int32) + nI p = nI (23 + p) from nI_add 23 p, show ((37 : Int32) + ((4 : Int32) * nI p)) + nI s = nI (37 + (4 * p + s)) from by
    rw [show (4 : Int32) = nI 4 from rfl, show (37 : Int32) = nI 37 from rfl, pk_mul, nI_add, nI_add, Nat.add_assoc]]
  simp only [ok_ix (show 23 + p < 140 by omega) (by decide), ok_ix (show 37 + (4 * p + s) < 140 by omega) (by decide), ok_ix (show p < 7 by omega) (by decide), if_false, showsAs_spec, b1_some]
  simp only [nI_clamp (show p < 2 ^ 31 by omega), nI_clamp (show 23 + p < 2 ^ 31 by omega), nI_clamp (show 37 + (4 * p + s) < 2 ^ 31 by omega)]
theorem X7_countsOn_17_spec {T : Nat → Nat → Int32} {M : Nat → Nat → Int64} {n p q s : Nat} (hn : n ≤ 7) (hp : p < n) (hq : q < n) (hpq : p ≠ q) (hs : s < 4) (k d : Int32) : nX7_countsOn_17 T M k (nI s) d (nI q) (nI p) = some (pcF (fun p => T 17 (23 + p)) (fun p => T 17 (30 + p)) (fun j => T 17 (37 + j)) (T 5) k s q p d) := by
  unfold nX7_countsOn_17 pcF
  rw [if_neg hpq, show (30 : Int32) + nI p = nI (30 + p) from nI_add 30 p, show (30 : Int32) + nI q = nI (30 + q) from nI_add 30 q, next_sort hs]
  simp only [ok_ix (show 30 + p < 140 by omega) (by decide), ok_ix (show 30 + q < 140 by omega) (by decide), if_false, distance_spec, b1_some, X7_showsOn_17_spec hn hp hs, X7_showsOn_17_spec hn hp (show (s + 1) % 4 < 4 by omega), countsAs_spec]
  simp only [nI_clamp (show 30 + p < 2 ^ 31 by omega), nI_clamp (show 30 + q < 2 ^ 31 by omega)]
theorem X7_comesTo_17_spec {T : Nat → Nat → Int32} {M : Nat → Nat → Int64} {n q s : Nat} (hn : n ≤ 7) (hT : T 17 0 = nI n) (hq : q < n) (hs : s < 4) (hh : ∀ j, j < n → pz (T 17 (30 + j)) 20) (hnd : ∀ j, j < 4 * n → pz (T 17 (37 + j)) 10) (hct : ∀ j, j < n → pz (T 5 j) 10) (k d : Int32) : nX7_comesTo_17 T M k (nI s) d (nI q) = some (cmF n (fun p => T 17 (23 + p)) (fun p => T 17 (30 + p)) (fun j => T 17 (37 + j)) (T 5) k s q d) := by
  unfold nX7_comesTo_17
  refine it_for (fun i => mdS (fun p => T 17 (23 + p)) (fun p => T 17 (30 + p)) (fun j => T 17 (37 + j)) (T 5) k s q d i) n (by omega) (fun i hi => ?_) ?_
  · show nX7_comesTo_17_l13 k (nI s) d (nI q) _ _ _ (nI i) T M = _
    unfold nX7_comesTo_17_l13
    rw [hT, if_leF (by omega) (by omega)]
    have hw : (if nI i = nI q then nX7_comesTo_17_i13_j45 k (nI s) d (nI q) (mdS (fun p => T 17 (23 + p)) (fun p => T 17 (30 + p)) (fun j => T 17 (37 + j)) (T 5) k s q d i).1 (mdS (fun p => T 17 (23 + p)) (fun p => T 17 (30 + p)) (fun j => T 17 (37 + j)) (T 5) k s q d i).2.1 (mdS (fun p => T 17 (23 + p)) (fun p => T 17 (30 + p)) (fun j => T 17 (37 + j)) (T 5) k s q d i).2.2.1 (nI i) (-1 : Int32) T M else k_b1 (nX7_countsOn_17 T M k (nI s) d (nI q) (nI i)) (fun r42 => nX7_comesTo_17_i13_j45 k (nI s) d (nI q) (mdS (fun p => T 17 (23 + p)) (fun p => T 17 (30 + p)) (fun j => T 17 (37 + j)) (T 5) k s q d i).1 (mdS (fun p => T 17 (23 + p)) (fun p => T 17 (30 + p)) (fun j => T 17 (37 + j)) (T 5) k s q d i).2.1 (mdS (fun p => T 17 (23 + p)) (fun p => T 17 (30 + p)) (fun j => T 17 (37 + j)) (T 5) k s q d i).2.2.1 (nI i) r42 T M))
        = nX7_comesTo_17_i13_j45 k (nI s) d (nI q) (mdS (fun p => T 17 (23 + p)) (fun p => T 17 (30 + p)) (fun j => T 17 (37 + j)) (T 5) k s q d i).1 (mdS (fun p => T 17 (23 + p)) (fun p => T 17 (30 + p)) (fun j => T 17 (37 + j)) (T 5) k s q d i).2.1 (mdS (fun p => T 17 (23 + p)) (fun p => T 17 (30 + p)) (fun j => T 17 (37 + j)) (T 5) k s q d i).2.2.1 (nI i) (pcF (fun p => T 17 (23 + p)) (fun p => T 17 (30 + p)) (fun j => T 17 (37 + j)) (T 5) k s q i d) T M := by
      by_cases h : i = q
      · rw [if_eqT h]; unfold pcF; rw [if_pos h]
      · rw [if_eqF h (by omega) (by omega), X7_countsOn_17_spec hn hi hq h hs, b1_some]
    refine hw.trans ?_
    have hb : pcF (fun p => T 17 (23 + p)) (fun p => T 17 (30 + p)) (fun j => T 17 (37 + j)) (T 5) k s q i d = -1 ∨ pz (pcF (fun p => T 17 (23 + p)) (fun p => T 17 (30 + p)) (fun j => T 17 (37 + j)) (T 5) k s q i d) 100 := pcF_small (fun j hj => hh j hj) (fun j hj => hnd j hj) hct k hs hq hi d
    rw [mdS_step (T 5) k s q d i (by omega) hb]
    unfold nX7_comesTo_17_i13_j45 nX7_comesTo_17_i13_j72 nX7_comesTo_17_i13_j88
    rw [nI_1]
    generalize pcF (fun p => T 17 (23 + p)) (fun p => T 17 (30 + p)) (fun j => T 17 (37 + j)) (T 5) k s q i d = x
    generalize mdS (fun p => T 17 (23 + p)) (fun p => T 17 (30 + p)) (fun j => T 17 (37 + j)) (T 5) k s q d i = y
    unfold mdN
    by_cases c1 : x = -1
    · rw [if_pos c1, if_pos c1]
    · rw [if_neg c1, if_neg c1]
      by_cases c2 : y.2.1 < x
      · rw [if_pos c2, if_pos c2]
      · rw [if_neg c2, if_neg c2]
        by_cases c3 : x = y.2.1
        · rw [if_pos c3, if_pos c3]
          by_cases c4 : y.2.1 ≤ x
          · rw [if_pos c4, if_pos c4]
          · rw [if_neg c4, if_neg c4]
        · rw [if_neg c3, if_neg c3]
          by_cases c4 : y.2.1 ≤ x
          · rw [if_pos c4, if_pos c4]
          · rw [if_neg c4, if_neg c4]
  · show nX7_comesTo_17_l13 k (nI s) d (nI q) _ _ _ (nI n) T M = _
    unfold nX7_comesTo_17_l13 cmF
    rw [hT, if_pos (by rw [e_le (by omega) (by omega)]; exact Nat.le_refl n)]
    have e1 : (mdS (fun p => T 17 (23 + p)) (fun p => T 17 (30 + p)) (fun j => T 17 (37 + j)) (T 5) k s q d n).2.2.1 = (cmS (fun p => T 17 (23 + p)) (fun p => T 17 (30 + p)) (fun j => T 17 (37 + j)) (T 5) k s q d n).2.2 := rfl
    have e2 : (mdS (fun p => T 17 (23 + p)) (fun p => T 17 (30 + p)) (fun j => T 17 (37 + j)) (T 5) k s q d n).1 = (cmS (fun p => T 17 (23 + p)) (fun p => T 17 (30 + p)) (fun j => T 17 (37 + j)) (T 5) k s q d n).1 := rfl
    rw [e1, e2]
    by_cases c1 : (cmS (fun p => T 17 (23 + p)) (fun p => T 17 (30 + p)) (fun j => T 17 (37 + j)) (T 5) k s q d n).2.2 = 0
    · rw [if_pos c1, if_pos c1]; rfl
    · rw [if_neg c1, if_neg c1]
      by_cases c2 : k = 4
      · rw [if_pos c2, if_pos c2]; rfl
      · rw [if_neg c2, if_neg c2]; rfl
