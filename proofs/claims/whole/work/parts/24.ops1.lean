/-! the simple calls -/
theorem X5_shown_spec {V : Nat → Nat → Int32} {n p s : Nat} (hn : n ≤ 7) (hp : p < n) (hs : s < 4) (d : Int32) : nX5_shown V (nI p) (nI s) d = some (shF (V 1 p) (V 4 (4 * p + s)) (V 3 p) (nI s) d) := by
  unfold nX5_shown
  rw [ix4]
  simp only [ok_ix (show p < 7 by omega) (by decide), ok_ix (show 4 * p + s < 28 by omega) (by decide), if_false, shown_spec, b1_some]
  simp only [nI_clamp (show p < 2 ^ 31 by omega), nI_clamp (show 4 * p + s < 2 ^ 31 by omega)]
/-- the reference's scratch row of coats: those of the first n -/
def lcF (T : Nat → Nat → Int32) (o i : Nat) : Nat → Nat → Int32 := k_r T 5 (fun p => if p < i then T o (15 + p) else T 5 p)
theorem lcF_0 (T : Nat → Nat → Int32) (o : Nat) : lcF T o 0 = T := by
  funext c
  unfold lcF k_r
  by_cases h : c = 5
  · rw [if_pos h, h]; funext p; rw [if_neg (by omega)]
  · rw [if_neg h]
theorem lcF_ne {T : Nat → Nat → Int32} {o i c : Nat} (h : c ≠ 5) : lcF T o i c = T c := r_ne _ h
theorem lcF_5 (T : Nat → Nat → Int32) (o i : Nat) : lcF T o i 5 = fun p => if p < i then T o (15 + p) else T 5 p := r_eq _ _ _
theorem lcF_step {T : Nat → Nat → Int32} {o : Nat} (i : Nat) : k_w (lcF T o i) 5 i (T o (15 + i)) = lcF T o (i + 1) := by
  funext c
  by_cases h : c = 5
  · subst h
    rw [w_eq, lcF_5, lcF_5]
    funext p
    show (if p = i then T o (15 + i) else if p < i then T o (15 + p) else T 5 p) = if p < i + 1 then T o (15 + p) else T 5 p
    by_cases q : p = i
    · subst q; rw [if_pos rfl, if_pos (by omega)]
    · rw [if_neg q]
      by_cases q2 : p < i
      · rw [if_pos q2, if_pos (by omega)]
      · rw [if_neg q2, if_neg (by omega)]
  · rw [w_ne _ _ h, lcF_ne h, lcF_ne h]
theorem X7_layCoats_1_spec {T : Nat → Nat → Int32} {M : Nat → Nat → Int64} {n : Nat} (hn : n ≤ 7) (hT : T 1 0 = nI n) : nX7_layCoats_1 T M = some (lcF T 1 n) := by
  unfold nX7_layCoats_1
  rw [← lcF_0 T 1]
  conv => rhs; rw [lcF_0]
  refine it_for (fun i => (nI i, lcF T 1 i)) n (by omega) (fun i hi => ?_) ?_
  · show nX7_layCoats_1_l2 (nI i) (lcF T 1 i) M = _
    unfold nX7_layCoats_1_l2
    rw [lcF_ne (by decide), hT, if_leF (by omega) (by omega), show (15 : Int32) + nI i = nI (15 + i) from nI_add 15 i]
    simp only [ok_ix (show 15 + i < 284 by omega) (by decide), ok_ix (show i < 7 by omega) (by decide), if_false]
    simp only [nI_clamp (show 15 + i < 2 ^ 31 by omega), nI_clamp (show i < 2 ^ 31 by omega), lcF_step, nI_1]
  · show nX7_layCoats_1_l2 (nI n) (lcF T 1 n) M = _
    unfold nX7_layCoats_1_l2
    rw [lcF_ne (by decide), hT, if_pos (by rw [e_le (by omega) (by omega)]; exact Nat.le_refl n)]
    rfl
theorem R_lc {S T : Nat → Nat → Int32} {L M : Nat → Nat → Int64} (o n : Nat) (h : k_R S L T M) : k_R S L (lcF T o n) M :=
  R_congr (fun _ _ => rfl) rfl (fun c hc => lcF_ne (by omega)) (by rw [lcF_ne (by decide)]) ⟨rfl, rfl⟩ ⟨rfl, rfl⟩ h
theorem op_clear : k_op_clear k_R := by
  intro S L T M hR
  obtain ⟨h1, h2, h3, h4, len, h5, h6, h7, h8⟩ := hR
  refine ⟨nI len, _, _, by unfold nX6_clear; rw [h6], by unfold nX7_clear; rw [h7], ?_⟩
  have a1 : ∀ c, c ≠ 67 → k_w S 67 2 0 c = S c := fun c hc => w_ne _ _ hc
  have a2 : ∀ c, c ≠ 0 → k_w T 0 18 0 c = T c := fun c hc => w_ne _ _ hc
  obtain ⟨n, m, un, uc, up, d, h1⟩ := h1
  refine ⟨⟨n, m, un, uc, up, d, vr_congr (fun c hc => ?_) (fun k _ => ?_) h1⟩, fun i hi => ?_, ?_, h4, 0, by decide, ?_, ?_, fun i hi => absurd hi (by omega)⟩
  · rw [wi_at, wi_at, a1 (1 + c) (by omega)]
  · rw [a2 1 (by decide)]
  · obtain ⟨q1, q2⟩ := h2 i hi
    rw [a1 66 (by decide), a2 3 (by decide)]
    refine ⟨q1, ?_⟩
    rcases q2 with q2 | ⟨q2, n', m', un', uc', up', d', q3⟩
    · exact Or.inl q2
    · refine Or.inr ⟨q2, n', m', un', uc', up', d', vr_congr (fun c hc => ?_) (fun k _ => ?_) q3⟩
      · rw [wi_at, wi_at, a1 (33 + 16 * i + c) (by omega)]
      · show k_w T 0 _ _ 2 (284 * i + k) = T 2 (284 * i + k)
        rw [a2 2 (by decide)]
  · rw [a1 75 (by decide), a2 4 (by decide)]; exact h3
  · rw [w_at]; rfl
  · rw [w_at]; rfl
theorem op_status : k_op_status k_R := by
  intro S L T M p1 hR
  by_cases h : pz p1 3
  · obtain ⟨j, hj, rfl⟩ := h
    refine ⟨S 75 j, S, T, ?_, ?_, hR⟩
    · unfold nX6_status
      rw [upTo_inK 3 (by decide) 3 rfl (z_nI hj), b1_some, if_neg (by decide), if_ok hj (by decide), nI_clamp (by omega)]
    · unfold nX7_status
      rw [in_inK 3 (by decide) 2 (by decide) (z_nI hj), b1_some, if_neg (by decide), if_ok hj (by decide), nI_clamp (by omega)]
      obtain ⟨-, -, ⟨g0, g1, g2⟩, -, -⟩ := hR
      have : S 75 j = T 4 j := by
        rcases (show j = 0 ∨ j = 1 ∨ j = 2 by omega) with rfl | rfl | rfl
        · exact g0
        · exact g1
        · exact g2
      rw [this]
  · refine ⟨-1, _, _, ?_, ?_, R_bad 0 (by decide) hR⟩
    · unfold nX6_status nX6_refusedAsBad
      rw [upTo_outK 3 (by decide) 3 rfl h, b1_some, if_pos rfl]; rfl
    · unfold nX7_status nX7_bad
      rw [in_outK 3 (by decide) 2 (by decide) h, b1_some, if_pos rfl]; rfl
theorem op_part : k_op_part k_R := by
  intro S L T M p1 hR
  have hf := hR.2.2.2.1
  by_cases h : pz p1 2
  · obtain ⟨j, hj, rfl⟩ := h
    rcases (show j = 0 ∨ j = 1 by omega) with rfl | rfl
    · refine ⟨L 0 10, S, T, ?_, ?_, hR⟩
      · unfold nX6_part
        rw [upTo_inK 2 (by decide) 2 rfl (z_nI hj), b1_some, if_neg (by decide), if_pos (by decide)]
      · unfold nX7_part
        rw [if_pos (by decide), hf.1]
    · refine ⟨L 0 11, S, T, ?_, ?_, hR⟩
      · unfold nX6_part
        rw [upTo_inK 2 (by decide) 2 rfl (z_nI hj), b1_some, if_neg (by decide), if_neg (by decide)]
      · unfold nX7_part
        rw [if_neg (by decide), if_pos (by decide), hf.2]
  · refine ⟨(-2 : Int32).toInt64, _, _, ?_, ?_, R_bad 0 (by decide) hR⟩
    · unfold nX6_part nX6_refusedAsBad
      rw [upTo_outK 2 (by decide) 2 rfl h, b1_some, if_pos rfl]; rfl
    · unfold nX7_part nX7_bad
      rw [if_neg (show ¬ p1 = 0 from fun q => h ⟨0, by decide, q⟩), if_neg (show ¬ p1 = 1 from fun q => h ⟨1, by decide, q⟩)]; rfl
theorem op_about : k_op_about k_R := by
  intro S L T M p1 p2 hR
  have hR0 := hR
  obtain ⟨⟨n, m, un, uc, up, d, ⟨t0, t1, t2, t3, t4, t22⟩, ⟨b1, b2, b3, b4, b5, b6⟩, ⟨v0, v1, v2, v3, v4, v5⟩, hp, hnd, hth, hno, hca, hcq, hpa⟩, -⟩ := hR
  have v1 : S 1 13 = nI m := v1
  by_cases h1 : pz p1 m
  · by_cases h2 : pz p2 5
    · obtain ⟨k, hk, rfl⟩ := h1
      obtain ⟨j, hj, rfl⟩ := h2
      obtain ⟨g5, g6, g7, g8, g9, -⟩ := hth k hk
      have x6 : nX6_about S L (nI k) (nI j) = some (if j = 0 then S 6 k else if j = 1 then S 7 k else if j = 2 then S 8 k else if j = 3 then S 9 k else S 10 k, S) := by
        unfold nX6_about
        rw [isThing_in v1 b2 (z_nI hk), b1_some, if_neg (by decide), upTo_inK 5 (by decide) 5 rfl (z_nI hj), b1_some, if_neg (by decide)]
        simp only [ok_ix (show k < 5 by omega) (by decide), if_false]
        simp only [nI_clamp (show k < 2 ^ 31 by omega)]
        rcases (show j = 0 ∨ j = 1 ∨ j = 2 ∨ j = 3 ∨ j = 4 by omega) with rfl | rfl | rfl | rfl | rfl <;> rfl
      have x7 : nX7_about T M (nI k) (nI j) = some (if j = 0 then T 1 (65 + k) else if j = 1 then T 1 (70 + k) else if j = 2 then T 1 (75 + k) else if j = 3 then T 1 (5 + k) else T 1 (10 + k), T) := by
        unfold nX7_about
        rw [isThing7_in t1 b2 (z_nI hk), b1_some, if_neg (by decide), in_inK 5 (by decide) 4 (by decide) (z_nI hj), b1_some, if_neg (by decide)]
        rw [show (65 : Int32) + nI k = nI (65 + k) from nI_add 65 k, show (70 : Int32) + nI k = nI (70 + k) from nI_add 70 k, show (75 : Int32) + nI k = nI (75 + k) from nI_add 75 k, show (5 : Int32) + nI k = nI (5 + k) from nI_add 5 k, show (10 : Int32) + nI k = nI (10 + k) from nI_add 10 k]
        simp only [ok_ix (show 65 + k < 284 by omega) (by decide), ok_ix (show 70 + k < 284 by omega) (by decide), ok_ix (show 75 + k < 284 by omega) (by decide), ok_ix (show 5 + k < 284 by omega) (by decide), ok_ix (show 10 + k < 284 by omega) (by decide), if_false]
        simp only [nI_clamp (show 65 + k < 2 ^ 31 by omega), nI_clamp (show 70 + k < 2 ^ 31 by omega), nI_clamp (show 75 + k < 2 ^ 31 by omega), nI_clamp (show 5 + k < 2 ^ 31 by omega), nI_clamp (show 10 + k < 2 ^ 31 by omega)]
        rcases (show j = 0 ∨ j = 1 ∨ j = 2 ∨ j = 3 ∨ j = 4 by omega) with rfl | rfl | rfl | rfl | rfl <;> rfl
      refine ⟨_, S, T, x6, x7.trans ?_, hR0⟩
      rw [show T 1 (65 + k) = S 6 k from g5.symm, show T 1 (70 + k) = S 7 k from g6.symm, show T 1 (75 + k) = S 8 k from g7.symm, show T 1 (5 + k) = S 9 k from g8.symm, show T 1 (10 + k) = S 10 k from g9.symm]
    · refine ⟨-2, _, _, ?_, ?_, R_bad 0 (by decide) hR0⟩
      · unfold nX6_about nX6_about_j16 nX6_refusedAsBad
        rw [isThing_in v1 b2 h1, b1_some, if_neg (by decide), upTo_outK 5 (by decide) 5 rfl h2, b1_some, if_pos rfl]; rfl
      · unfold nX7_about nX7_about_j20 nX7_bad
        rw [isThing7_in t1 b2 h1, b1_some, if_neg (by decide), in_outK 5 (by decide) 4 (by decide) h2, b1_some, if_pos rfl]; rfl
  · refine ⟨-2, _, _, ?_, ?_, R_bad 0 (by decide) hR0⟩
    · unfold nX6_about nX6_about_j16 nX6_refusedAsBad
      rw [isThing_out v1 b2 h1, b1_some, if_pos rfl]; rfl
    · unfold nX7_about nX7_about_j20 nX7_bad
      rw [isThing7_out t1 b2 h1, b1_some, if_pos rfl]; rfl
theorem op_shows : k_op_shows k_R := by
  intro S L T M p1 p2 hR
  have hR0 := hR
  obtain ⟨⟨n, m, un, uc, up, d, ⟨t0, t1, t2, t3, t4, t22⟩, ⟨b1, b2, b3, b4, b5, b6⟩, ⟨v0, v1, v2, v3, v4, v5⟩, hp, hnd, hth, hno, hca, hcq, hpa⟩, -⟩ := hR
  have v0 : S 1 12 = nI n := v0
  have v5 : S 1 14 = nI d := v5
  by_cases h1 : pz p1 n
  · by_cases h2 : pz p2 4
    · obtain ⟨k, hk, rfl⟩ := h1
      obtain ⟨j, hj, rfl⟩ := h2
      obtain ⟨g1, g2, g3, -⟩ := hp k hk
      refine ⟨shF (T 1 (23 + k)) (T 1 (37 + (4 * k + j))) (T 1 (15 + k)) (nI j) (nI d), S, lcF T 1 n, ?_, ?_, R_lc 1 n hR0⟩
      · unfold nX6_shows
        rw [isPerson_in v0 b1 (z_nI hk), b1_some, if_neg (by decide), upTo_inK 4 (by decide) 4 rfl (z_nI hj), b1_some, if_neg (by decide), X5_shown_spec b1 hk hj, b1_some, g1, g3, (hnd _ (show 4 * k + j < 4 * n by omega)).1, v5]
      · unfold nX7_shows
        rw [isOne7_in t0 b1 (z_nI hk), b1_some, if_neg (by decide), isSort_in (z_nI hj), b1_some, if_neg (by decide), X7_layCoats_1_spec b1 t0, b1_some, X7_showsOn_1_spec b1 hk hj, b1_some, lcF_ne (by decide), lcF_5]
        simp only [if_pos hk]
        rw [t22]
    · refine ⟨-2, _, _, ?_, ?_, R_bad 0 (by decide) hR0⟩
      · unfold nX6_shows nX6_shows_j16 nX6_refusedAsBad
        rw [isPerson_in v0 b1 h1, b1_some, if_neg (by decide), upTo_outK 4 (by decide) 4 rfl h2, b1_some, if_pos rfl]; rfl
      · unfold nX7_shows nX7_shows_j15 nX7_bad
        rw [isOne7_in t0 b1 h1, b1_some, if_neg (by decide), isSort_out h2, b1_some, if_pos rfl]; rfl
  · refine ⟨-2, _, _, ?_, ?_, R_bad 0 (by decide) hR0⟩
    · unfold nX6_shows nX6_shows_j16 nX6_refusedAsBad
      rw [isPerson_out v0 b1 h1, b1_some, if_pos rfl]; rfl
    · unfold nX7_shows nX7_shows_j15 nX7_bad
      rw [isOne7_out t0 b1 h1, b1_some, if_pos rfl]; rfl
