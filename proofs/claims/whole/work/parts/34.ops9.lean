/-! days go by -/
def dyS (n m : Nat) (S T : Nat → Nat → Int32) : Nat → (Nat → Nat → Int32) × (Nat → Nat → Int32)
  | 0 => (S, T)
  | i + 1 => (k_sp (dyS n m S T i).1 1 16 (k_w (dgS (k_wi (dyS n m S T i).1 1) ((dyS n m S T i).2 1) n ((dyS n m S T i).2 1 22) m) 0 14 ((dyS n m S T i).2 1 22 + 1)),
      k_w (gdS (lcF (dyS n m S T i).2 1 n) 1 n ((dyS n m S T i).2 1 22) m) 1 22 ((dyS n m S T i).2 1 22 + 1))
theorem vr_day {V : Nat → Nat → Int32} {T : Nat → Nat → Int32} {n m un uc up d : Nat} (h : vr V (T 1) n m un uc up d 9999) (hd : d < 9999) : vr (k_w (dgS V (T 1) n (T 1 22) m) 0 14 (T 1 22 + 1)) (k_w (gdS (lcF T 1 n) 1 n (T 1 22) m) 1 22 (T 1 22 + 1) 1) n m un uc up (d + 1) 9999 := by
  have hq0 := vq_of h
  have h' := h
  obtain ⟨⟨t0, t1, t2, t3, t4, t22⟩, ⟨b1, b2, b3, b4, b5, b6⟩, ⟨v0, v1, v2, v3, v4, v5⟩, hp, hnd, hth, hno, hca, hcq, hpa⟩ := h'
  have el : lcF T 1 n 1 = T 1 := lcF_ne (by decide)
  have hz : ∀ j, j ≠ 22 → k_w (gdS (lcF T 1 n) 1 n (T 1 22) m) 1 22 (T 1 22 + 1) 1 j = if 5 ≤ j ∧ j < 5 + m then dayH n (T 1) (T 1 22) (j - 5) else if 10 ≤ j ∧ j < 10 + m then dayP n (T 1) (T 1 22) (j - 10) else T 1 j := by
    intro j hj
    rw [w_off _ hj, gdS_at, el]
  have hq1 := vq_day hq0 (T 1 22) (T 1 22 + 1) (t' := k_w (gdS (lcF T 1 n) 1 n (T 1 22) m) 1 22 (T 1 22 + 1) 1) (fun j _ hj => hz j hj)
  obtain ⟨-, hp', -, hth'⟩ := hq1
  refine vr_set h (fun c h0 h3 h8 h9 h14 => by rw [w_ne _ _ h0, dgS_o h8 h9]) ⟨rfl, rfl⟩ (fun j hj => ?_) ⟨?_, ?_, by omega⟩ ⟨?_, ?_, Nat.le_refl up⟩ (fun p hpn => ⟨(hp' p hpn).2.2.1, (hp' p hpn).2.2.2.2.2⟩) (fun k hk => ⟨(hth' k hk).2.2.2.1, (hth' k hk).2.2.2.2.1, (hth' k hk).2.2.2.2.2.2.2.2.1, (hth' k hk).2.2.2.2.2.2.2.2.2⟩)
  · rw [hz j (by omega), if_neg (by omega), if_neg (by omega)]
  · rw [w_at, t22, nI_1]
  · rw [w_at, t22, nI_1]
  · rw [w_ne _ _ (by decide), dgS_o (by decide) (by decide)]; exact v4
  · rw [hz 4 (by decide), if_neg (by omega), if_neg (by omega)]; exact t4
theorem dy_inv {S T : Nat → Nat → Int32} {n m un uc up d : Nat} (h : vr (k_wi S 1) (T 1) n m un uc up d 9999) : ∀ i, d + i ≤ 9999 → vr (k_wi (dyS n m S T i).1 1) ((dyS n m S T i).2 1) n m un uc up (d + i) 9999 ∧ (∀ c, (c < 1 ∨ 17 ≤ c) → (dyS n m S T i).1 c = S c) ∧ ∀ c, c ≠ 1 → c ≠ 5 → (dyS n m S T i).2 c = T c
  | 0, _ => ⟨h, fun _ _ => rfl, fun _ _ _ => rfl⟩
  | i + 1, hi => by
    obtain ⟨h1, h2, h3⟩ := dy_inv h i (by omega)
    refine ⟨vr_congr (fun c hc => sp_wi c hc) (fun _ _ => rfl) (vr_day (d := d + i) h1 (by omega)), fun c hc => ?_, fun c hc hc5 => ?_⟩
    · show k_sp (dyS n m S T i).1 1 16 _ c = S c
      rw [sp_out (by omega), h2 c hc]
    · show k_w (gdS (lcF (dyS n m S T i).2 1 n) 1 n _ m) 1 22 _ c = T c
      rw [w_ne _ _ hc, gdS_o hc, lcF_ne hc5, h3 c hc hc5]
theorem in1_spec {x : Int32} : (nX7_in x.toInt64 (1 : Int64) (99 : Int64) = some 1 ∧ ∃ j, 1 ≤ j ∧ j < 100 ∧ x = nI j) ∨ (nX7_in x.toInt64 (1 : Int64) (99 : Int64) = some 0 ∧ ¬ ∃ j, 1 ≤ j ∧ j < 100 ∧ x = nI j) := by
  unfold nX7_in
  have e1 : (lg_cmp x.toInt64 (1 : Int64) < 0) = (x < 1) := by rw [cmp_lt, show (1 : Int64) = (1 : Int32).toInt64 from by decide, wide_lt]
  have e2 : (0 < lg_cmp x.toInt64 (99 : Int64)) = (99 < x) := by rw [cmp_gt, show (99 : Int64) = (99 : Int32).toInt64 from by decide, wide_lt]
  by_cases c1 : x < 1
  · right
    rw [if_pos (e1 ▸ c1)]
    refine ⟨rfl, ?_⟩
    rintro ⟨j, h1, h2, rfl⟩
    rw [show (1 : Int32) = nI 1 from rfl, nI_ltI (by omega) (by decide)] at c1
    omega
  · rw [if_neg (e1 ▸ c1)]
    by_cases c2 : 99 < x
    · right
      rw [if_pos (e2 ▸ c2)]
      refine ⟨rfl, ?_⟩
      rintro ⟨j, h1, h2, rfl⟩
      rw [show (99 : Int32) = nI 99 from rfl, nI_ltI (by decide) (by omega)] at c2
      omega
    · left
      rw [if_neg (e2 ▸ c2)]
      refine ⟨rfl, ?_⟩
      have h0 : ¬ x < 0 := fun h => c1 (by
        rw [Int32.lt_iff_toInt_lt] at h ⊢
        have : (1 : Int32).toInt = 1 := by decide
        have : (0 : Int32).toInt = 0 := by decide
        omega)
      obtain ⟨j, hj, rfl⟩ := nI_of h0
      rw [show (1 : Int32) = nI 1 from rfl, nI_ltI hj (by decide)] at c1
      rw [show (99 : Int32) = nI 99 from rfl, nI_ltI (by decide) hj] at c2
      exact ⟨j, by omega, by omega, rfl⟩
theorem op_day : k_op_day k_R := by
  intro S L T M p1 hR
  have hR0 := hR
  obtain ⟨⟨n, m, un, uc, up, d, hv⟩, -⟩ := hR
  have hv0 := hv
  obtain ⟨⟨t0, t1, t2, t3, t4, t22⟩, ⟨b1, b2, b3, b4, b5, b6⟩, ⟨v0, v1, v2, v3, v4, v5⟩, hp, hnd, hth, -⟩ := hv
  rcases in1_spec (x := p1) with ⟨hin, j, hj1, hj2, rfl⟩ | ⟨hin, hno⟩
  · obtain ⟨Z, hz, hz1, hzo⟩ := X7_keep_spec (T := T) (M := M) b5 t4
    have hvk := vr_keep hv0 hz1
    obtain ⟨S0, hS0⟩ : ∃ S0, S0 = k_sp S 1 16 (kpS (k_wi S 1) (kpU up) (kpB (k_wi S 1) up) 18) := ⟨_, rfl⟩
    have hv1 : vr (k_wi S0 1) (Z 1) n m un uc (kpU up + 1) d 9999 := by
      rw [hS0]
      exact vr_congr (fun c hc => sp_wi c hc) (fun _ _ => rfl) hvk
    have hinv := dy_inv hv1
    obtain ⟨N, hN⟩ : ∃ N, N = min j (9999 - d) := ⟨_, rfl⟩
    obtain ⟨hf1, hf2, hf3⟩ := hinv N (by omega)
    refine ⟨nI (cnF (fun k => decide ((dyS n m S0 Z N).2 1 (10 + k) = 2)) m), (dyS n m S0 Z N).1, (dyS n m S0 Z N).2, ?_, ?_, ?_⟩
    · unfold nX6_day
      rw [if_neg (show ¬ nI j < 1 from by rw [show (1 : Int32) = nI 1 from rfl, nI_ltI (by omega) (by decide)]; omega), if_pos (show nI j ≤ 99 from by rw [show (99 : Int32) = nI 99 from rfl, nI_leI (by omega) (by decide)]; omega), X5_keepPast_spec b5 v4, b1_some, ← hS0]
      refine it_for (fun i => (nI i, (dyS n m S0 Z i).1)) N (by omega) (fun i hi => ?_) ?_
      · obtain ⟨g1, -, -⟩ := hinv i (by omega)
        show nX6_day_l25 (nI j) (nI i) (dyS n m S0 Z i).1 L = _
        unfold nX6_day_l25
        have e22 : (dyS n m S0 Z i).2 1 22 = nI (d + i) := g1.1.2.2.2.2.2
        have e14 : (dyS n m S0 Z i).1 1 14 = nI (d + i) := g1.2.2.1.2.2.2.2.2
        rw [if_leF (show i < j by omega) (by omega), e14, show (9999 : Int32) = nI 9999 from rfl, if_leF (show d + i < 9999 by omega) (by decide), X5_dayGoesBy_spec (vq_of g1) (d := (dyS n m S0 Z i).2 1 22) (e14.trans e22.symm), b1_some, nI_1]
        rfl
      · show nX6_day_l25 (nI j) (nI N) (dyS n m S0 Z N).1 L = _
        have e14 : (dyS n m S0 Z N).1 1 14 = nI (d + N) := hf1.2.2.1.2.2.2.2.2
        have ex : nX6_day_j56 (dyS n m S0 Z N).1 L = some (nI (cnF (fun k => decide ((dyS n m S0 Z N).2 1 (10 + k) = 2)) m), (dyS n m S0 Z N).1) := by
          unfold nX6_day_j56
          rw [X5_howManyLie_spec (vq_of hf1), b1_some]
        unfold nX6_day_l25
        rw [ex]
        by_cases c : j ≤ N
        · rw [if_leT c (by omega)]; rfl
        · rw [if_leF (show N < j by omega) (by omega), e14, show (9999 : Int32) = nI 9999 from rfl, if_leT (show 9999 ≤ d + N by omega) (by omega)]; rfl
    · unfold nX7_day
      rw [hin, b1_some, if_neg (by decide), hz, b1_some]
      refine it_for (fun i => (nI i, (dyS n m S0 Z i).2)) N (by omega) (fun i hi => ?_) ?_
      · obtain ⟨g1, -, -⟩ := hinv i (by omega)
        show nX7_day_l25 (nI j) (nI i) (dyS n m S0 Z i).2 M = _
        unfold nX7_day_l25
        have e22 : (dyS n m S0 Z i).2 1 22 = nI (d + i) := g1.1.2.2.2.2.2
        have el : lcF (dyS n m S0 Z i).2 1 n 1 = (dyS n m S0 Z i).2 1 := lcF_ne (by decide)
        have b2' : m ≤ 5 := b2
        rw [if_leF (show i < j by omega) (by omega), if_neg (show ¬ (9999 : Int32) ≤ (dyS n m S0 Z i).2 1 22 from by rw [e22, show (9999 : Int32) = nI 9999 from rfl, nI_leI (by decide) (by omega)]; omega), X7_goDay_1_spec _ (vq_of g1), b1_some, nI_1]
        rw [show gdS (lcF (dyS n m S0 Z i).2 1 n) 1 n ((dyS n m S0 Z i).2 1 22) m 1 22 = (dyS n m S0 Z i).2 1 22 from by rw [gdS_at, if_neg (by omega), if_neg (by omega), el]]
        rfl
      · show nX7_day_l25 (nI j) (nI N) (dyS n m S0 Z N).2 M = _
        have e22 : (dyS n m S0 Z N).2 1 22 = nI (d + N) := hf1.1.2.2.2.2.2
        have ex : nX7_day_j75 (dyS n m S0 Z N).2 M = some (nI (cnF (fun k => decide ((dyS n m S0 Z N).2 1 (10 + k) = 2)) m), (dyS n m S0 Z N).2) := by
          unfold nX7_day_j75
          rw [X7_manyIn_1_spec (vq_of hf1), b1_some]
        unfold nX7_day_l25
        rw [ex]
        by_cases c : j ≤ N
        · rw [if_leT c (by omega)]; rfl
        · rw [if_leF (show N < j by omega) (by omega), e22, show (9999 : Int32) = nI 9999 from rfl, if_leT (show 9999 ≤ d + N by omega) (by omega)]; rfl
    · refine R_now (S := S) (T := T) (L := L) (M := M) hf1 (fun c hc => ?_) ?_ (fun c hc => ?_) ?_ ⟨rfl, rfl⟩ ⟨rfl, rfl⟩ hR0
      · rw [hf2 c (by omega), hS0, sp_out (by omega)]
      · rw [hf2 67 (by decide), hS0, sp_out (by decide)]
      · rw [hf3 c (by omega) (by omega), hzo c (by omega)]
      · rw [hf3 0 (by decide) (by decide), hzo 0 (by decide)]
  · refine ⟨-2, _, _, ?_, ?_, R_bad 0 (by decide) hR0⟩
    · unfold nX6_day nX6_day_j11
      rw [bad6]
      by_cases c1 : p1 < 1
      · rw [if_pos c1]; rfl
      · rw [if_neg c1, if_neg]
        · rfl
        · intro c2
          have h0 : ¬ p1 < 0 := fun h => c1 (by
            rw [Int32.lt_iff_toInt_lt] at h ⊢
            have : (1 : Int32).toInt = 1 := by decide
            have : (0 : Int32).toInt = 0 := by decide
            omega)
          obtain ⟨j, hj, rfl⟩ := nI_of h0
          rw [show (1 : Int32) = nI 1 from rfl, nI_ltI hj (by decide)] at c1
          rw [show (99 : Int32) = nI 99 from rfl, nI_leI hj (by decide)] at c2
          exact hno ⟨j, by omega, by omega, rfl⟩
    · unfold nX7_day
      rw [hin, b1_some, if_pos rfl, bad7]; rfl
