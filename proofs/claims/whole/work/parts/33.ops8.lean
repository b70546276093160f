/-! counting things -/
theorem X5_howManyLie_spec {V : Nat → Nat → Int32} {t : Nat → Int32} {n m : Nat} (h : vq V t n m) (x : Int32) : nX5_howManyLie V x = some (nI (cnF (fun k => decide (t (10 + k) = x)) m)) := by
  obtain ⟨⟨t0, t1, v0, v1, b1, b2⟩, hp, hnd, hth⟩ := h
  unfold nX5_howManyLie
  refine it_for (fun i => (nI (cnF (fun k => decide (t (10 + k) = x)) i), nI i)) m (by omega) (fun i hi => ?_) ?_
  · show nX5_howManyLie_l4 x (nI (cnF (fun k => decide (t (10 + k) = x)) i)) (nI i) V = _
    unfold nX5_howManyLie_l4
    rw [v1, if_leF hi (by omega), if_ok (show i < 5 by omega) (by decide), nI_clamp (show i < 2 ^ 31 by omega), (hth i hi).2.2.2.2.1, cnF_s, nI_1 i]
    by_cases c : t (10 + i) = x
    · rw [if_pos c, if_pos (decide_eq_true c), nI_1]
    · rw [if_neg c, if_neg (by rw [decide_eq_true_iff]; exact c)]
  · show nX5_howManyLie_l4 x (nI (cnF (fun k => decide (t (10 + k) = x)) m)) (nI m) V = _
    unfold nX5_howManyLie_l4
    rw [v1, if_pos (by rw [e_le (by omega) (by omega)]; exact Nat.le_refl m)]
    rfl
theorem X7_manyIn_1_spec {V T : Nat → Nat → Int32} {M : Nat → Nat → Int64} {n m : Nat} (h : vq V (T 1) n m) (x : Int32) : nX7_manyIn_1 T M x = some (nI (cnF (fun k => decide (T 1 (10 + k) = x)) m)) := by
  obtain ⟨⟨t0, t1, v0, v1, b1, b2⟩, hp, hnd, hth⟩ := h
  unfold nX7_manyIn_1
  refine it_for (fun i => (nI (cnF (fun k => decide (T 1 (10 + k) = x)) i), nI i)) m (by omega) (fun i hi => ?_) ?_
  · show nX7_manyIn_1_l5 x (nI (cnF (fun k => decide (T 1 (10 + k) = x)) i)) (nI i) T M = _
    unfold nX7_manyIn_1_l5 nX7_manyIn_1_i5_j30
    rw [t1, if_leF hi (by omega), show (10 : Int32) + nI i = nI (10 + i) from nI_add 10 i, if_ok (show 10 + i < 284 by omega) (by decide), nI_clamp (show 10 + i < 2 ^ 31 by omega), cnF_s, nI_1 i]
    by_cases c : T 1 (10 + i) = x
    · rw [if_pos c, if_pos (decide_eq_true c), nI_1]
    · rw [if_neg c, if_neg (by rw [decide_eq_true_iff]; exact c), show (0 : Int32) = nI 0 from rfl, nI_add, Nat.add_zero]
  · show nX7_manyIn_1_l5 x (nI (cnF (fun k => decide (T 1 (10 + k) = x)) m)) (nI m) T M = _
    unfold nX7_manyIn_1_l5
    rw [t1, if_pos (by rw [e_le (by omega) (by omega)]; exact Nat.le_refl m)]
    rfl
theorem X5_howManyAtHome_spec {V : Nat → Nat → Int32} {t : Nat → Int32} {n m : Nat} (h : vq V t n m) : nX5_howManyAtHome V = some (nI (cnF (fun k => decide (t (10 + k) = 0 ∧ t (5 + k) = t (75 + k))) m)) := by
  obtain ⟨⟨t0, t1, v0, v1, b1, b2⟩, hp, hnd, hth⟩ := h
  unfold nX5_howManyAtHome
  refine it_for (fun i => (nI (cnF (fun k => decide (t (10 + k) = 0 ∧ t (5 + k) = t (75 + k))) i), nI i)) m (by omega) (fun i hi => ?_) ?_
  · obtain ⟨g1, g2, g3, g4, g5, -⟩ := hth i hi
    have hi5 : ¬ (nI i < 0 ∨ 5 ≤ i) := fun c => by
      rcases c with c | c
      · exact nI_pos (show i < 2 ^ 31 by omega) c
      · omega
    show nX5_howManyAtHome_l4 (nI (cnF (fun k => decide (t (10 + k) = 0 ∧ t (5 + k) = t (75 + k))) i)) (nI i) V = _
    unfold nX5_howManyAtHome_l4
    rw [v1, if_leF hi (by omega), if_ok (show i < 5 by omega) (by decide), nI_clamp (show i < 2 ^ 31 by omega), if_neg hi5, if_neg hi5, g5, g4, g3, cnF_s, nI_1 i]
    by_cases c : t (10 + i) = 0
    · rw [if_pos c]
      by_cases c2 : t (5 + i) = t (75 + i)
      · rw [if_pos c2, if_pos (decide_eq_true ⟨c, c2⟩), nI_1]
      · rw [if_neg c2, if_neg (by rw [decide_eq_true_iff]; exact fun q => c2 q.2)]
    · rw [if_neg c, if_neg (by rw [decide_eq_true_iff]; exact fun q => c q.1)]
  · show nX5_howManyAtHome_l4 (nI (cnF (fun k => decide (t (10 + k) = 0 ∧ t (5 + k) = t (75 + k))) m)) (nI m) V = _
    unfold nX5_howManyAtHome_l4
    rw [v1, if_pos (by rw [e_le (by omega) (by omega)]; exact Nat.le_refl m)]
    rfl
theorem X7_manyAtHome_1_spec {V T : Nat → Nat → Int32} {M : Nat → Nat → Int64} {n m : Nat} (h : vq V (T 1) n m) : nX7_manyAtHome_1 T M = some (nI (cnF (fun k => decide (T 1 (10 + k) = 0 ∧ T 1 (5 + k) = T 1 (75 + k))) m)) := by
  obtain ⟨⟨t0, t1, v0, v1, b1, b2⟩, hp, hnd, hth⟩ := h
  unfold nX7_manyAtHome_1
  refine it_for (fun i => (nI (cnF (fun k => decide (T 1 (10 + k) = 0 ∧ T 1 (5 + k) = T 1 (75 + k))) i), nI i)) m (by omega) (fun i hi => ?_) ?_
  · show nX7_manyAtHome_1_l4 (nI (cnF (fun k => decide (T 1 (10 + k) = 0 ∧ T 1 (5 + k) = T 1 (75 + k))) i)) (nI i) T M = _
    unfold nX7_manyAtHome_1_l4 nX7_manyAtHome_1_i4_j39 nX7_manyAtHome_1_i4_j40
    have hz : ∀ x : Nat, nI x + 0 = nI x := fun x => by rw [show (0 : Int32) = nI 0 from rfl, nI_add, Nat.add_zero]
    rw [t1, if_leF hi (by omega), show (10 : Int32) + nI i = nI (10 + i) from nI_add 10 i, show (5 : Int32) + nI i = nI (5 + i) from nI_add 5 i, show (75 : Int32) + nI i = nI (75 + i) from nI_add 75 i, if_ok (show 10 + i < 284 by omega) (by decide), nI_clamp (show 10 + i < 2 ^ 31 by omega), if_ok (show 5 + i < 284 by omega) (by decide), if_ok (show 75 + i < 284 by omega) (by decide), nI_clamp (show 5 + i < 2 ^ 31 by omega), nI_clamp (show 75 + i < 2 ^ 31 by omega), cnF_s, nI_1 i, hz, nI_1]
    by_cases c : T 1 (10 + i) = 0
    · rw [if_pos c]
      by_cases c2 : T 1 (5 + i) = T 1 (75 + i)
      · rw [if_pos c2, if_pos (decide_eq_true ⟨c, c2⟩)]
      · rw [if_neg c2, if_neg (by rw [decide_eq_true_iff]; exact fun q => c2 q.2)]
    · rw [if_neg c, if_neg (by rw [decide_eq_true_iff]; exact fun q => c q.1)]
  · show nX7_manyAtHome_1_l4 (nI (cnF (fun k => decide (T 1 (10 + k) = 0 ∧ T 1 (5 + k) = T 1 (75 + k))) m)) (nI m) T M = _
    unfold nX7_manyAtHome_1_l4
    rw [t1, if_pos (by rw [e_le (by omega) (by omega)]; exact Nat.le_refl m)]
    rfl
theorem X7_manyAtHome_15_spec {V T : Nat → Nat → Int32} {M : Nat → Nat → Int64} {n m : Nat} (h : vq V (T 15) n m) : nX7_manyAtHome_15 T M = some (nI (cnF (fun k => decide (T 15 (10 + k) = 0 ∧ T 15 (5 + k) = T 15 (75 + k))) m)) := by
  obtain ⟨⟨t0, t1, v0, v1, b1, b2⟩, hp, hnd, hth⟩ := h
  unfold nX7_manyAtHome_15
  refine it_for (fun i => (nI (cnF (fun k => decide (T 15 (10 + k) = 0 ∧ T 15 (5 + k) = T 15 (75 + k))) i), nI i)) m (by omega) (fun i hi => ?_) ?_
  · show nX7_manyAtHome_15_l4 (nI (cnF (fun k => decide (T 15 (10 + k) = 0 ∧ T 15 (5 + k) = T 15 (75 + k))) i)) (nI i) T M = _
    unfold nX7_manyAtHome_15_l4 nX7_manyAtHome_15_i4_j39 nX7_manyAtHome_15_i4_j40
    have hz : ∀ x : Nat, nI x + 0 = nI x := fun x => by rw [show (0 : Int32) = nI 0 from rfl, nI_add, Nat.add_zero]
    rw [t1, if_leF hi (by omega), show (10 : Int32) + nI i = nI (10 + i) from nI_add 10 i, show (5 : Int32) + nI i = nI (5 + i) from nI_add 5 i, show (75 : Int32) + nI i = nI (75 + i) from nI_add 75 i, if_ok (show 10 + i < 80 by omega) (by decide), nI_clamp (show 10 + i < 2 ^ 31 by omega), if_ok (show 5 + i < 80 by omega) (by decide), if_ok (show 75 + i < 80 by omega) (by decide), nI_clamp (show 5 + i < 2 ^ 31 by omega), nI_clamp (show 75 + i < 2 ^ 31 by omega), cnF_s, nI_1 i, hz, nI_1]
    by_cases c : T 15 (10 + i) = 0
    · rw [if_pos c]
      by_cases c2 : T 15 (5 + i) = T 15 (75 + i)
      · rw [if_pos c2, if_pos (decide_eq_true ⟨c, c2⟩)]
      · rw [if_neg c2, if_neg (by rw [decide_eq_true_iff]; exact fun q => c2 q.2)]
    · rw [if_neg c, if_neg (by rw [decide_eq_true_iff]; exact fun q => c q.1)]
  · show nX7_manyAtHome_15_l4 (nI (cnF (fun k => decide (T 15 (10 + k) = 0 ∧ T 15 (5 + k) = T 15 (75 + k))) m)) (nI m) T M = _
    unfold nX7_manyAtHome_15_l4
    rw [t1, if_pos (by rw [e_le (by omega) (by omega)]; exact Nat.le_refl m)]
    rfl
theorem X5_howManyHas_spec {V : Nat → Nat → Int32} {t : Nat → Int32} {n m : Nat} (h : vq V t n m) (x : Int32) : nX5_howManyHas V x = some (nI (cnF (fun k => decide (t (10 + k) = 0 ∧ t (5 + k) = x)) m)) := by
  obtain ⟨⟨t0, t1, v0, v1, b1, b2⟩, hp, hnd, hth⟩ := h
  unfold nX5_howManyHas
  refine it_for (fun i => (nI (cnF (fun k => decide (t (10 + k) = 0 ∧ t (5 + k) = x)) i), nI i)) m (by omega) (fun i hi => ?_) ?_
  · obtain ⟨g1, g2, g3, g4, g5, -⟩ := hth i hi
    have hi5 : ¬ (nI i < 0 ∨ 5 ≤ i) := fun c => by
      rcases c with c | c
      · exact nI_pos (show i < 2 ^ 31 by omega) c
      · omega
    show nX5_howManyHas_l4 x (nI (cnF (fun k => decide (t (10 + k) = 0 ∧ t (5 + k) = x)) i)) (nI i) V = _
    unfold nX5_howManyHas_l4
    rw [v1, if_leF hi (by omega), if_ok (show i < 5 by omega) (by decide), nI_clamp (show i < 2 ^ 31 by omega), if_neg hi5, g5, g4, cnF_s, nI_1 i]
    by_cases c : t (10 + i) = 0
    · rw [if_pos c]
      by_cases c2 : t (5 + i) = x
      · rw [if_pos c2, if_pos (decide_eq_true ⟨c, c2⟩), nI_1]
      · rw [if_neg c2, if_neg (by rw [decide_eq_true_iff]; exact fun q => c2 q.2)]
    · rw [if_neg c, if_neg (by rw [decide_eq_true_iff]; exact fun q => c q.1)]
  · show nX5_howManyHas_l4 x (nI (cnF (fun k => decide (t (10 + k) = 0 ∧ t (5 + k) = x)) m)) (nI m) V = _
    unfold nX5_howManyHas_l4
    rw [v1, if_pos (by rw [e_le (by omega) (by omega)]; exact Nat.le_refl m)]
    rfl
theorem X7_manyHadBy_spec {V T : Nat → Nat → Int32} {M : Nat → Nat → Int64} {n m : Nat} (h : vq V (T 1) n m) (x : Int32) : nX7_manyHadBy T M x = some (nI (cnF (fun k => decide (T 1 (10 + k) = 0 ∧ T 1 (5 + k) = x)) m)) := by
  obtain ⟨⟨t0, t1, v0, v1, b1, b2⟩, hp, hnd, hth⟩ := h
  unfold nX7_manyHadBy
  refine it_for (fun i => (nI (cnF (fun k => decide (T 1 (10 + k) = 0 ∧ T 1 (5 + k) = x)) i), nI i)) m (by omega) (fun i hi => ?_) ?_
  · show nX7_manyHadBy_l4 x (nI (cnF (fun k => decide (T 1 (10 + k) = 0 ∧ T 1 (5 + k) = x)) i)) (nI i) T M = _
    unfold nX7_manyHadBy_l4 nX7_manyHadBy_i4_j41 nX7_manyHadBy_i4_j42 nX7_manyThings
    have hz : ∀ x : Nat, nI x + 0 = nI x := fun x => by rw [show (0 : Int32) = nI 0 from rfl, nI_add, Nat.add_zero]
    rw [b1_some, t1, if_leF hi (by omega), show (10 : Int32) + nI i = nI (10 + i) from nI_add 10 i, show (5 : Int32) + nI i = nI (5 + i) from nI_add 5 i, if_ok (show 10 + i < 284 by omega) (by decide), nI_clamp (show 10 + i < 2 ^ 31 by omega), if_ok (show 5 + i < 284 by omega) (by decide), nI_clamp (show 5 + i < 2 ^ 31 by omega), cnF_s, nI_1 i, hz, nI_1]
    by_cases c : T 1 (10 + i) = 0
    · rw [if_pos c]
      by_cases c2 : T 1 (5 + i) = x
      · rw [if_pos c2, if_pos (decide_eq_true ⟨c, c2⟩)]
      · rw [if_neg c2, if_neg (by rw [decide_eq_true_iff]; exact fun q => c2 q.2)]
    · rw [if_neg c, if_neg (by rw [decide_eq_true_iff]; exact fun q => c q.1)]
  · show nX7_manyHadBy_l4 x (nI (cnF (fun k => decide (T 1 (10 + k) = 0 ∧ T 1 (5 + k) = x)) m)) (nI m) T M = _
    unfold nX7_manyHadBy_l4 nX7_manyThings
    rw [b1_some, t1, if_pos (by rw [e_le (by omega) (by omega)]; exact Nat.le_refl m)]
    rfl
theorem op_of : k_op_of k_R := by
  intro S L T M p1 p2 hR
  have hR0 := hR
  obtain ⟨⟨n, m, un, uc, up, d, hv⟩, -⟩ := hR
  have hq0 := vq_of hv
  obtain ⟨⟨t0, t1, t2, t3, t4, t22⟩, ⟨b1, b2, b3, b4, b5, b6⟩, ⟨v0, v1, v2, v3, v4, v5⟩, hp, hnd, hth, -⟩ := hv
  have v0' : S 1 12 = nI n := v0
  by_cases h1 : pz p1 n
  · by_cases h2 : pz p2 8
    · obtain ⟨k, hk, rfl⟩ := h1
      obtain ⟨j, hj, rfl⟩ := h2
      obtain ⟨g1, g2, g3, -⟩ := hp k hk
      have g1' : S 2 k = T 1 (23 + k) := g1
      have g2' : S 3 k = T 1 (30 + k) := g2
      have g3' : S 4 k = T 1 (15 + k) := g3
      have x6 : ∀ r, (if j = 0 then T 1 (23 + k) else if j = 1 then T 1 (30 + k) else if j = 2 then T 1 (15 + k) else if j = 3 then nI (cnF (fun i => decide (T 1 (10 + i) = 0 ∧ T 1 (5 + i) = nI k)) m) else T 1 (37 + (4 * k + (j - 4)))) = r → nX6_of S L (nI k) (nI j) = some (r, S) := by
        intro r hr
        unfold nX6_of
        rw [isPerson_in v0' b1 (z_nI hk), b1_some, if_neg (by decide), upTo_inK 8 (by decide) 8 rfl (z_nI hj), b1_some, if_neg (by decide)]
        simp only [ok_ix (show k < 7 by omega) (by decide), if_false]
        rw [nI_clamp (show k < 2 ^ 31 by omega), g1', g2', g3', X5_howManyHas_spec hq0, b1_some]
        by_cases c : j < 4
        · rw [← hr]
          rcases (show j = 0 ∨ j = 1 ∨ j = 2 ∨ j = 3 by omega) with rfl | rfl | rfl | rfl <;> rfl
        · obtain ⟨i, rfl⟩ : ∃ i, j = i + 4 := ⟨j - 4, by omega⟩
          have e : (((4 : Int32) * nI k) + nI (i + 4)) - 4 = nI (4 * k + i) := by
            rw [h4n, nI_add, show (4 : Int32) = nI 4 from rfl, pk_sub (by omega)]
            exact congrArg nI (by omega)
          have g4' : S 5 (4 * k + i) = T 1 (37 + (4 * k + i)) := (hnd (4 * k + i) (by omega)).1
          have hne : ∀ z, z < 4 → ¬ nI (i + 4) = nI z := fun z hz q => by rw [e_eq (by omega) (by omega)] at q; omega
          rw [if_neg (show ¬ nI (i + 4) = 0 from hne 0 (by decide)), if_neg (show ¬ nI (i + 4) = 1 from hne 1 (by decide)), if_neg (show ¬ nI (i + 4) = 2 from hne 2 (by decide)), if_neg (show ¬ nI (i + 4) = 3 from hne 3 (by decide)), e, if_ok (show 4 * k + i < 28 by omega) (by decide), nI_clamp (by omega), g4']
          rw [if_neg (by omega), if_neg (by omega), if_neg (by omega), if_neg (by omega), Nat.add_sub_cancel] at hr
          rw [hr]
      have x7 : ∀ r, (if j = 0 then T 1 (23 + k) else if j = 1 then T 1 (30 + k) else if j = 2 then T 1 (15 + k) else if j = 3 then nI (cnF (fun i => decide (T 1 (10 + i) = 0 ∧ T 1 (5 + i) = nI k)) m) else T 1 (37 + (4 * k + (j - 4)))) = r → nX7_of T M (nI k) (nI j) = some (r, T) := by
        intro r hr
        unfold nX7_of
        rw [isOne7_in t0 b1 (z_nI hk), b1_some, if_neg (by decide), in_inK 8 (by decide) 7 (by decide) (z_nI hj), b1_some, if_neg (by decide), show (23 : Int32) + nI k = nI (23 + k) from nI_add 23 k, show (30 : Int32) + nI k = nI (30 + k) from nI_add 30 k, show (15 : Int32) + nI k = nI (15 + k) from nI_add 15 k]
        simp only [ok_ix (show 23 + k < 284 by omega) (by decide), ok_ix (show 30 + k < 284 by omega) (by decide), ok_ix (show 15 + k < 284 by omega) (by decide), if_false]
        rw [nI_clamp (show 23 + k < 2 ^ 31 by omega), nI_clamp (show 30 + k < 2 ^ 31 by omega), nI_clamp (show 15 + k < 2 ^ 31 by omega), X7_manyHadBy_spec hq0, b1_some]
        by_cases c : j < 4
        · rw [← hr]
          rcases (show j = 0 ∨ j = 1 ∨ j = 2 ∨ j = 3 by omega) with rfl | rfl | rfl | rfl <;> rfl
        · obtain ⟨i, rfl⟩ : ∃ i, j = i + 4 := ⟨j - 4, by omega⟩
          have e : (((37 : Int32) + ((4 : Int32) * nI k)) + nI (i + 4)) - 4 = nI (37 + (4 * k + i)) := by
            rw [h4n, show (37 : Int32) = nI 37 from rfl, nI_add, nI_add, show (4 : Int32) = nI 4 from rfl, pk_sub (by omega)]
            exact congrArg nI (by omega)
          have hne : ∀ z, z < 4 → ¬ nI (i + 4) = nI z := fun z hz q => by rw [e_eq (by omega) (by omega)] at q; omega
          rw [if_neg (show ¬ nI (i + 4) = 0 from hne 0 (by decide)), if_neg (show ¬ nI (i + 4) = 1 from hne 1 (by decide)), if_neg (show ¬ nI (i + 4) = 2 from hne 2 (by decide)), if_neg (show ¬ nI (i + 4) = 3 from hne 3 (by decide)), e, if_ok (show 37 + (4 * k + i) < 284 by omega) (by decide), nI_clamp (by omega)]
          rw [if_neg (by omega), if_neg (by omega), if_neg (by omega), if_neg (by omega), Nat.add_sub_cancel] at hr
          rw [hr]
      exact ⟨_, S, T, x6 _ rfl, x7 _ rfl, hR0⟩
    · refine ⟨-2, _, _, ?_, ?_, R_bad 0 (by decide) hR0⟩
      · unfold nX6_of nX6_of_j17
        rw [isPerson_in v0' b1 h1, b1_some, if_neg (by decide), upTo_outK 8 (by decide) 8 rfl h2, b1_some, if_pos rfl, bad6]; rfl
      · unfold nX7_of nX7_of_j20
        rw [isOne7_in t0 b1 h1, b1_some, if_neg (by decide), in_outK 8 (by decide) 7 (by decide) h2, b1_some, if_pos rfl, bad7]; rfl
  · refine ⟨-2, _, _, ?_, ?_, R_bad 0 (by decide) hR0⟩
    · unfold nX6_of nX6_of_j17
      rw [isPerson_out v0' b1 h1, b1_some, if_pos rfl, bad6]; rfl
    · unfold nX7_of nX7_of_j20
      rw [isOne7_out t0 b1 h1, b1_some, if_pos rfl, bad7]; rfl
