/-! what is asked for a thing; what is away -/
def asF (k x : Int32) : Int32 := if k = 5 then 0 else if k = 1 then 2 * (if 9 ≤ x then 0 else 9 - x) else if k = 4 then (2 * (if 9 ≤ x then 0 else 9 - x)) + 3 else (if 9 ≤ x then 0 else 9 - x)
theorem as_max {x : Int32} (hx : pz x 21) : (if 0 < (9 : Int32) - x then (9 : Int32) - x else 0) = (if 9 ≤ x then 0 else 9 - x) := by
  obtain ⟨i, hi, rfl⟩ := hx
  have h : ∀ i : Fin 21, (if 0 < (9 : Int32) - nI i.val then (9 : Int32) - nI i.val else 0) = (if 9 ≤ nI i.val then 0 else 9 - nI i.val) := by decide +kernel
  exact h ⟨i, hi⟩
theorem X1_asked_spec (k : Int32) {x : Int32} (hx : pz x 21) : nX1_asked k x = some (asF k x) := by
  unfold nX1_asked asF
  rw [as_max hx]
  by_cases c1 : k = 1
  · subst c1; rfl
  · rw [if_neg c1]
    by_cases c2 : k = 2
    · subst c2; rfl
    · rw [if_neg c2]
      by_cases c3 : k = 3
      · subst c3; rfl
      · rw [if_neg c3]
        by_cases c4 : k = 4
        · subst c4; rfl
        · rw [if_neg c4]
          by_cases c5 : k = 5
          · subst c5; rfl
          · rw [if_neg c5, if_neg c5, if_neg c1, if_neg c4]
theorem asksAs_spec (k x : Int32) : nX7_asksAs k x = some (asF k x) := by
  unfold nX7_asksAs nX7_asksAs_j14 asF
  by_cases c : 9 ≤ x
  · simp only [if_pos c, apply_ite some]
  · simp only [if_neg c, apply_ite some]
theorem asF_small (k : Int32) {x : Int32} (hx : pz x 21) : pz (asF k x) 22 := by
  obtain ⟨i, hi, rfl⟩ := hx
  have h1 : ∀ i : Fin 21, pz (if 9 ≤ nI i.val then (0 : Int32) else 9 - nI i.val) 10 := by
    intro i
    by_cases c : i.val < 9
    · rw [if_neg (by rw [show (9 : Int32) = nI 9 from rfl, nI_leI (by decide) (by omega)]; omega), show (9 : Int32) = nI 9 from rfl, pk_sub (by omega)]
      exact z_nI (by omega)
    · rw [if_pos (by rw [show (9 : Int32) = nI 9 from rfl, nI_leI (by decide) (by omega)]; omega)]
      exact ⟨0, by decide, rfl⟩
  obtain ⟨w, hw, e⟩ := h1 ⟨i, hi⟩
  have e : (if 9 ≤ nI i then (0 : Int32) else 9 - nI i) = nI w := e
  unfold asF
  rw [e, show (2 : Int32) * nI w = nI (2 * w) from by rw [show (2 : Int32) = nI 2 from rfl, pk_mul], show nI (2 * w) + 3 = nI (2 * w + 3) from nI_add (2 * w) 3]
  by_cases c5 : k = 5
  · rw [if_pos c5]; exact ⟨0, by decide, rfl⟩
  · rw [if_neg c5]
    by_cases c1 : k = 1
    · rw [if_pos c1]; exact z_nI (by omega)
    · rw [if_neg c1]
      by_cases c4 : k = 4
      · rw [if_pos c4]; exact z_nI (by omega)
      · rw [if_neg c4]; exact z_nI (by omega)
def akF (t ct : Nat → Int32) (k : Nat) : Int32 := asF (t (23 + (t (5 + k)).toNatClampNeg)) (shF (t (23 + (t (5 + k)).toNatClampNeg)) (t (37 + (4 * (t (5 + k)).toNatClampNeg + (t (70 + k)).toNatClampNeg))) (ct (t (5 + k)).toNatClampNeg) (t (70 + k)) (t 22))
def awF (t : Nat → Int32) (k : Nat) : Int32 := if t (10 + k) = 0 then (if t (5 + k) = t (75 + k) then 0 else 1) else 0
theorem X5_askedFor_spec {V : Nat → Nat → Int32} {t : Nat → Int32} {n m un uc up d dm k : Nat} (h : vr V t n m un uc up d dm) (hk : k < m) : nX5_askedFor V (nI k) = some (akF t (fun p => t (15 + p)) k) := by
  obtain ⟨⟨t0, t1, t2, t3, t4, t22⟩, ⟨b1, b2, b3, b4, b5, b6⟩, ⟨v0, v1, v2, v3, v4, v5⟩, hp, hnd, hth, hno, hca, hcq, hpa⟩ := h
  obtain ⟨g1, g2, g3, g4, g5, g6, ⟨s, hs, es⟩, g8, ⟨q, hq, eq⟩, g10⟩ := hth k hk
  obtain ⟨q1, q2, q3, q4, q5, q6⟩ := hp q hq
  have hn4 := hnd (4 * q + s) (by omega)
  unfold nX5_askedFor akF
  rw [if_ok (show k < 5 by omega) (by decide), nI_clamp (show k < 2 ^ 31 by omega), g4, g2, eq, es, nI_clamp (show q < 2 ^ 31 by omega), nI_clamp (show s < 2 ^ 31 by omega)]
  rw [if_neg (show ¬ (nI q < 0 ∨ 7 ≤ q) from fun c => by rcases c with c | c; exact nI_pos (show q < 2 ^ 31 by omega) c; omega), if_neg (show ¬ (nI k < 0 ∨ 5 ≤ k) from fun c => by rcases c with c | c; exact nI_pos (show k < 2 ^ 31 by omega) c; omega), if_neg (show ¬ (nI k < 0 ∨ 5 ≤ k) from fun c => by rcases c with c | c; exact nI_pos (show k < 2 ^ 31 by omega) c; omega)]
  rw [X5_shown_spec b1 hq hs, b1_some, X1_asked_spec _ (shF_small (by rw [hn4.1]; exact hn4.2) (by rw [q3]; exact q6) _ _ _), b1_some, q1, q3, hn4.1, v5, t22]
theorem X7_asked_spec {V T : Nat → Nat → Int32} {M : Nat → Nat → Int64} {n m un uc up d dm k : Nat} (h : vr V (T 1) n m un uc up d dm) (hk : k < m) : nX7_asked (lcF T 1 n) M (nI k) = some (akF (T 1) (fun p => T 1 (15 + p)) k) := by
  obtain ⟨⟨t0, t1, t2, t3, t4, t22⟩, ⟨b1, b2, b3, b4, b5, b6⟩, ⟨v0, v1, v2, v3, v4, v5⟩, hp, hnd, hth, hno, hca, hcq, hpa⟩ := h
  obtain ⟨g1, g2, g3, g4, g5, g6, ⟨s, hs, es⟩, g8, ⟨q, hq, eq⟩, g10⟩ := hth k hk
  have e1 : lcF T 1 n 1 = T 1 := lcF_ne (by decide)
  unfold nX7_asked akF
  rw [e1, show (5 : Int32) + nI k = nI (5 + k) from nI_add 5 k, show (70 : Int32) + nI k = nI (70 + k) from nI_add 70 k, if_ok (show 5 + k < 284 by omega) (by decide), nI_clamp (show 5 + k < 2 ^ 31 by omega), eq, show (23 : Int32) + nI q = nI (23 + q) from nI_add 23 q, if_ok (show 23 + q < 284 by omega) (by decide), if_ok (show 70 + k < 284 by omega) (by decide), nI_clamp (show 70 + k < 2 ^ 31 by omega), nI_clamp (show 23 + q < 2 ^ 31 by omega), nI_clamp (show q < 2 ^ 31 by omega), es, nI_clamp (show s < 2 ^ 31 by omega), X7_showsOn_1_spec b1 hq hs, b1_some, asksAs_spec, b1_some, e1, lcF_5]
  simp only [if_pos hq]
theorem akF_small {V : Nat → Nat → Int32} {t : Nat → Int32} {n m un uc up d dm k : Nat} (h : vr V t n m un uc up d dm) (hk : k < m) : pz (akF t (fun p => t (15 + p)) k) 22 := by
  obtain ⟨⟨t0, t1, t2, t3, t4, t22⟩, ⟨b1, b2, b3, b4, b5, b6⟩, ⟨v0, v1, v2, v3, v4, v5⟩, hp, hnd, hth, hno, hca, hcq, hpa⟩ := h
  obtain ⟨g1, g2, g3, g4, g5, g6, ⟨s, hs, es⟩, g8, ⟨q, hq, eq⟩, g10⟩ := hth k hk
  unfold akF
  rw [eq, es, nI_clamp (show q < 2 ^ 31 by omega), nI_clamp (show s < 2 ^ 31 by omega)]
  exact asF_small _ (shF_small (hnd (4 * q + s) (by omega)).2 (hp q hq).2.2.2.2.2 _ _ _)
theorem X5_isAway_spec {V : Nat → Nat → Int32} {t : Nat → Int32} {n m un uc up d dm k : Nat} (h : vr V t n m un uc up d dm) (hk : k < m) : nX5_isAway V (nI k) = some (awF t k) := by
  obtain ⟨-, ⟨b1, b2, b3, b4, b5, b6⟩, -, hp, hnd, hth, -⟩ := h
  obtain ⟨g1, g2, g3, g4, g5, -⟩ := hth k hk
  have hk5 : ¬ (nI k < 0 ∨ 5 ≤ k) := fun c => by
    rcases c with c | c
    · exact nI_pos (show k < 2 ^ 31 by omega) c
    · omega
  unfold nX5_isAway awF
  rw [if_ok (show k < 5 by omega) (by decide), nI_clamp (show k < 2 ^ 31 by omega), if_neg hk5, if_neg hk5, g5, g4, g3]
  by_cases c1 : t (10 + k) = 0
  · rw [if_pos c1, if_pos c1]
    by_cases c2 : t (5 + k) = t (75 + k)
    · rw [if_pos c2, if_pos c2]
    · rw [if_neg c2, if_neg c2]
  · rw [if_neg c1, if_neg c1]
theorem op_back : k_op_back k_R := by
  intro S L T M p1 hR
  have hR0 := hR
  obtain ⟨⟨n, m, un, uc, up, d, hv⟩, -⟩ := hR
  have hv0 := hv
  obtain ⟨⟨t0, t1, t2, t3, t4, t22⟩, ⟨b1, b2, b3, b4, b5, b6⟩, ⟨v0, v1, v2, v3, v4, v5⟩, hp, hnd, hth, -⟩ := hv
  have v1' : S 1 13 = nI m := v1
  by_cases h1 : pz p1 m
  · obtain ⟨k, hk, rfl⟩ := h1
    obtain ⟨g5, g6, g7, g8, g9, -, -, gq, g11, g10⟩ := hth k hk
    have e10 : (10 : Int32) + nI k = nI (10 + k) := nI_add 10 k
    have e5 : (5 : Int32) + nI k = nI (5 + k) := nI_add 5 k
    have e75 : (75 : Int32) + nI k = nI (75 + k) := nI_add 75 k
    by_cases c : T 1 (10 + k) = 0 ∧ ¬ T 1 (5 + k) = T 1 (75 + k)
    · obtain ⟨c1, c2⟩ := c
      have ew : awF (T 1) k = 1 := by unfold awF; rw [if_pos c1, if_neg c2]
      have el : lcF T 1 n 1 = T 1 := lcF_ne (by decide)
      obtain ⟨Z, hz, hz1, hzo⟩ := X7_keep_spec (T := lcF T 1 n) (M := M) b5 (by rw [el]; exact t4)
      rw [el] at hz1
      have hvk := vr_holder (vr_keep hv0 hz1) hk gq
      have hz75 : Z 1 (75 + k) = T 1 (75 + k) := by
        rw [hz1]; unfold keF; rw [if_neg (by omega), if_neg (by omega), if_neg (by omega)]
      refine ⟨akF (T 1) (fun p => T 1 (15 + p)) k, k_sp S 1 16 (k_w (kpS (k_wi S 1) (kpU up) (kpB (k_wi S 1) up) 18) 8 k (T 1 (75 + k))), k_w Z 1 (5 + k) (T 1 (75 + k)), ?_, ?_, R_sp (T' := k_w Z 1 (5 + k) (T 1 (75 + k))) (n := n) (m := m) (un := un) (uc := uc) (up := kpU up + 1) (d := d) (by rw [w_eq]; exact hvk) (fun c hc => by rw [w_ne _ _ (by omega), hzo c (by omega), lcF_ne (by omega)]) (by rw [w_ne _ _ (by decide), hzo 0 (by decide), lcF_ne (by decide)]) hR0⟩
      · unfold nX6_back
        rw [isThing_in v1' b2 (z_nI hk), b1_some, if_neg (by decide), X5_isAway_spec hv0 hk, b1_some, ew, if_neg (by decide), X5_askedFor_spec hv0 hk, b1_some, X5_keepPast_spec b5 v4, b1_some, if_ok (show k < 5 by omega) (by decide), if_ok (show k < 5 by omega) (by decide), nI_clamp (by omega)]
        rw [show (9 : Nat) = 1 + 8 from rfl, sp_w (c := 8) _ (by decide), show (8 : Nat) = 1 + 7 from rfl, sp_r (c := 7) (by decide), kpS_o (by decide) (by decide), g7]
      · unfold nX7_back
        rw [isThing7_in t1 b2 (z_nI hk), b1_some, if_neg (by decide), e10, e5, e75, if_ok (show 10 + k < 284 by omega) (by decide), nI_clamp (show 10 + k < 2 ^ 31 by omega), if_pos c1, if_ok (show 5 + k < 284 by omega) (by decide), if_ok (show 75 + k < 284 by omega) (by decide), nI_clamp (show 5 + k < 2 ^ 31 by omega), nI_clamp (show 75 + k < 2 ^ 31 by omega), if_neg c2, X7_layCoats_1_spec b1 t0, b1_some, X7_asked_spec hv0 hk, b1_some, hz, b1_some]
        rw [if_neg (show ¬ (nI (75 + k) < 0 ∨ 284 ≤ 75 + k) from fun q => by rcases q with q | q; exact nI_pos (show 75 + k < 2 ^ 31 by omega) q; omega), if_neg (show ¬ (nI (5 + k) < 0 ∨ 284 ≤ 5 + k) from fun q => by rcases q with q | q; exact nI_pos (show 5 + k < 2 ^ 31 by omega) q; omega), hz75]
    · have ew : awF (T 1) k = 0 := by
        unfold awF
        by_cases c1 : T 1 (10 + k) = 0
        · rw [if_pos c1]
          by_cases c2 : T 1 (5 + k) = T 1 (75 + k)
          · rw [if_pos c2]
          · exact absurd ⟨c1, c2⟩ c
        · rw [if_neg c1]
      refine ⟨-3, _, _, ?_, ?_, R_bad 1 (by decide) hR0⟩
      · unfold nX6_back
        rw [isThing_in v1' b2 (z_nI hk), b1_some, if_neg (by decide), X5_isAway_spec hv0 hk, b1_some, ew, if_pos rfl, no6]; rfl
      · unfold nX7_back nX7_back_j47
        rw [isThing7_in t1 b2 (z_nI hk), b1_some, if_neg (by decide), e10, e5, e75, if_ok (show 10 + k < 284 by omega) (by decide), nI_clamp (show 10 + k < 2 ^ 31 by omega), if_ok (show 5 + k < 284 by omega) (by decide), if_ok (show 75 + k < 284 by omega) (by decide), nI_clamp (show 5 + k < 2 ^ 31 by omega), nI_clamp (show 75 + k < 2 ^ 31 by omega), no7]
        by_cases c1 : T 1 (10 + k) = 0
        · rw [if_pos c1]
          by_cases c2 : T 1 (5 + k) = T 1 (75 + k)
          · rw [if_pos c2]; rfl
          · exact absurd ⟨c1, c2⟩ c
        · rw [if_neg c1]; rfl
  · refine ⟨-2, _, _, ?_, ?_, R_bad 0 (by decide) hR0⟩
    · unfold nX6_back
      rw [isThing_out v1' b2 h1, b1_some, if_pos rfl, bad6]; rfl
    · unfold nX7_back
      rw [isThing7_out t1 b2 h1, b1_some, if_pos rfl, bad7]; rfl
