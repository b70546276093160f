/-! people and things come in -/
theorem h4n (n : Nat) : (4 : Int32) * nI n = nI (4 * n) := by rw [show (4 : Int32) = nI 4 from rfl, pk_mul]
theorem hp1 (n : Nat) : nI n + 1 = nI (n + 1) := nI_1 n
theorem hp2 (n : Nat) : nI n + 2 = nI (n + 2) := nI_add n 2
theorem hp3 (n : Nat) : nI n + 3 = nI (n + 3) := nI_add n 3
theorem kw_o {S : Nat → Nat → Int32} {c i : Nat} (h : i ≠ c) (k : Nat) (x : Int32) (j : Nat) : k_w S c k x i j = S i j := by rw [w_ne _ _ h]
theorem X5_addPerson_spec {V : Nat → Nat → Int32} {n : Nat} (hV : V 0 12 = nI n) (hn : n < 7) (p1 p2 p3 p4 p5 p6 : Int32) : nX5_addPerson V p1 p2 p3 p4 p5 p6 = some (k_w (k_w (k_w (k_w (k_w (k_w (k_w (k_w (k_w V 1 n p1) 2 n p2) 3 n 0) 4 (4 * n) p3) 4 (4 * n + 1) p4) 4 (4 * n + 2) p5) 4 (4 * n + 3) p6) 0 12 (nI (n + 1))) 14 3 0) := by
  have c7 : (nI n < (7 : Int32)) = True := eq_true ((nI_ltI (show n < 2 ^ 31 by omega) (show 7 < 2 ^ 31 by decide)).mpr hn)
  unfold nX5_addPerson
  simp only [kw_o (show (0 : Nat) ≠ 1 by decide), kw_o (show (0 : Nat) ≠ 2 by decide), kw_o (show (0 : Nat) ≠ 3 by decide), kw_o (show (0 : Nat) ≠ 4 by decide)]
  simp only [hV, h4n, hp1, hp2, hp3, c7, ok_ix (show n < 7 by omega) (by decide), ok_ix (show 4 * n < 28 by omega) (by decide), ok_ix (show 4 * n + 1 < 28 by omega) (by decide), ok_ix (show 4 * n + 2 < 28 by omega) (by decide), ok_ix (show 4 * n + 3 < 28 by omega) (by decide), if_true, if_false]
  simp only [nI_clamp (show n < 2 ^ 31 by omega), nI_clamp (show 4 * n < 2 ^ 31 by omega), nI_clamp (show 4 * n + 1 < 2 ^ 31 by omega), nI_clamp (show 4 * n + 2 < 2 ^ 31 by omega), nI_clamp (show 4 * n + 3 < 2 ^ 31 by omega)]
theorem X5_addThing_spec {V : Nat → Nat → Int32} {m : Nat} (hV : V 0 13 = nI m) (hm : m < 5) (p1 p2 p3 : Int32) : nX5_addThing V p1 p2 p3 = some (k_w (k_w (k_w (k_w (k_w (k_w (k_w V 5 m p1) 6 m p2) 7 m p3) 8 m p3) 9 m 0) 0 13 (nI (m + 1))) 14 3 0) := by
  have c5 : (nI m < (5 : Int32)) = True := eq_true ((nI_ltI (show m < 2 ^ 31 by omega) (show 5 < 2 ^ 31 by decide)).mpr hm)
  unfold nX5_addThing
  simp only [kw_o (show (0 : Nat) ≠ 5 by decide), kw_o (show (0 : Nat) ≠ 6 by decide), kw_o (show (0 : Nat) ≠ 7 by decide), kw_o (show (0 : Nat) ≠ 8 by decide), kw_o (show (0 : Nat) ≠ 9 by decide)]
  simp only [hV, hp1, c5, ok_ix (show m < 5 by omega) (by decide), if_true, if_false]
  simp only [nI_clamp (show m < 2 ^ 31 by omega)]
theorem X7_layPerson_1_spec {T : Nat → Nat → Int32} {M : Nat → Nat → Int64} {n : Nat} (hT : T 1 0 = nI n) (hn : n < 7) (p1 p2 p3 p4 p5 p6 : Int32) : nX7_layPerson_1 T M p1 p2 p3 p4 p5 p6 = some (k_w (k_w (k_w (k_w (k_w (k_w (k_w (k_w T 1 (23 + n) p1) 1 (30 + n) p2) 1 (37 + 4 * n) p3) 1 (37 + 4 * n + 1) p4) 1 (37 + 4 * n + 2) p5) 1 (37 + 4 * n + 3) p6) 1 (15 + n) 0) 1 0 (nI (n + 1))) := by
  have e1 : (23 : Int32) + nI n = nI (23 + n) := nI_add 23 n
  have e2 : (30 : Int32) + nI n = nI (30 + n) := nI_add 30 n
  have e3 : (37 : Int32) + nI (4 * n) = nI (37 + 4 * n) := nI_add 37 (4 * n)
  have e4 : (15 : Int32) + nI n = nI (15 + n) := nI_add 15 n
  have n0 : ∀ k, 0 < k → ((0 : Nat) = k) = False := fun k h => eq_false (by omega)
  unfold nX7_layPerson_1
  simp only [hT, h4n, e1, e2, e3, e4, hp1, hp2, hp3, ok_ix (show 23 + n < 284 by omega) (by decide), ok_ix (show 30 + n < 284 by omega) (by decide), ok_ix (show 37 + 4 * n < 284 by omega) (by decide), ok_ix (show 37 + 4 * n + 1 < 284 by omega) (by decide), ok_ix (show 37 + 4 * n + 2 < 284 by omega) (by decide), ok_ix (show 37 + 4 * n + 3 < 284 by omega) (by decide), ok_ix (show 15 + n < 284 by omega) (by decide), if_false]
  simp only [nI_clamp (show 23 + n < 2 ^ 31 by omega), nI_clamp (show 30 + n < 2 ^ 31 by omega), nI_clamp (show 37 + 4 * n < 2 ^ 31 by omega), nI_clamp (show 37 + 4 * n + 1 < 2 ^ 31 by omega), nI_clamp (show 37 + 4 * n + 2 < 2 ^ 31 by omega), nI_clamp (show 37 + 4 * n + 3 < 2 ^ 31 by omega), nI_clamp (show 15 + n < 2 ^ 31 by omega), kw_get, n0 (23 + n) (by omega), n0 (30 + n) (by omega), n0 (37 + 4 * n) (by omega), n0 (37 + 4 * n + 1) (by omega), n0 (37 + 4 * n + 2) (by omega), n0 (37 + 4 * n + 3) (by omega), n0 (15 + n) (by omega), if_false, if_true, hT, hp1]
theorem X7_layThing_1_spec {T : Nat → Nat → Int32} {M : Nat → Nat → Int64} {m : Nat} (hT : T 1 1 = nI m) (hm : m < 5) (p1 p2 p3 : Int32) : nX7_layThing_1 T M p1 p2 p3 = some (k_w (k_w (k_w (k_w (k_w (k_w T 1 (65 + m) p1) 1 (70 + m) p2) 1 (75 + m) p3) 1 (5 + m) p3) 1 (10 + m) 0) 1 1 (nI (m + 1))) := by
  have e1 : (65 : Int32) + nI m = nI (65 + m) := nI_add 65 m
  have e2 : (70 : Int32) + nI m = nI (70 + m) := nI_add 70 m
  have e3 : (75 : Int32) + nI m = nI (75 + m) := nI_add 75 m
  have e4 : (5 : Int32) + nI m = nI (5 + m) := nI_add 5 m
  have e5 : (10 : Int32) + nI m = nI (10 + m) := nI_add 10 m
  have n0 : ∀ k, 1 < k → ((1 : Nat) = k) = False := fun k h => eq_false (by omega)
  unfold nX7_layThing_1
  simp only [hT, e1, e2, e3, e4, e5, ok_ix (show 65 + m < 284 by omega) (by decide), ok_ix (show 70 + m < 284 by omega) (by decide), ok_ix (show 75 + m < 284 by omega) (by decide), ok_ix (show 5 + m < 284 by omega) (by decide), ok_ix (show 10 + m < 284 by omega) (by decide), if_false]
  simp only [nI_clamp (show 65 + m < 2 ^ 31 by omega), nI_clamp (show 70 + m < 2 ^ 31 by omega), nI_clamp (show 75 + m < 2 ^ 31 by omega), nI_clamp (show 5 + m < 2 ^ 31 by omega), nI_clamp (show 10 + m < 2 ^ 31 by omega), kw_get, n0 (65 + m) (by omega), n0 (70 + m) (by omega), n0 (75 + m) (by omega), n0 (5 + m) (by omega), n0 (10 + m) (by omega), if_false, if_true, hT, hp1]
theorem vr_person {V : Nat → Nat → Int32} {t : Nat → Int32} {n m un uc up d dm : Nat} (h : vr V t n m un uc up d dm) (hn : n < 7) {p1 p2 p3 p4 p5 p6 : Int32} (h1 : pz p1 6) (h2 : pz p2 20) (h3 : pz p3 10) (h4 : pz p4 10) (h5 : pz p5 10) (h6 : pz p6 10) {V' : Nat → Nat → Int32} {t' : Nat → Int32}
    (hV : V' = k_w (k_w (k_w (k_w (k_w (k_w (k_w (k_w (k_w V 1 n p1) 2 n p2) 3 n 0) 4 (4 * n) p3) 4 (4 * n + 1) p4) 4 (4 * n + 2) p5) 4 (4 * n + 3) p6) 0 12 (nI (n + 1))) 14 3 0)
    (ht : ∀ j, t' j = if j = 4 then 0 else if j = 0 then nI (n + 1) else if j = 15 + n then 0 else if j = 37 + 4 * n + 3 then p6 else if j = 37 + 4 * n + 2 then p5 else if j = 37 + 4 * n + 1 then p4 else if j = 37 + 4 * n then p3 else if j = 30 + n then p2 else if j = 23 + n then p1 else t j) : vr V' t' (n + 1) m un uc 0 d dm := by
  obtain ⟨⟨t0, t1, t2, t3, t4, t22⟩, ⟨b1, b2, b3, b4, b5, b6⟩, ⟨v0, v1, v2, v3, v4, v5⟩, hp, hnd, hth, hno, hca, hcq, hpa⟩ := h
  have hc : ∀ c, 5 ≤ c → c < 14 ∨ c = 15 → V' c = V c := by
    intro c q1 q2
    funext j
    rw [hV]
    simp only [kw_get]
    rw [if_neg (by omega), if_neg (by omega), if_neg (by omega), if_neg (by omega), if_neg (by omega), if_neg (by omega), if_neg (by omega), if_neg (by omega), if_neg (by omega)]
  have ho : ∀ j, j ≠ 4 → j ≠ 0 → (j < 15 ∨ 22 ≤ j) → (j < 23 ∨ 65 ≤ j) → t' j = t j := by
    intro j q1 q2 q3 q4
    rw [ht, if_neg (by omega), if_neg (by omega), if_neg (by omega), if_neg (by omega), if_neg (by omega), if_neg (by omega), if_neg (by omega), if_neg (by omega), if_neg (by omega)]
  have hz0 : pz (0 : Int32) 10 := ⟨0, by decide, rfl⟩
  refine ⟨⟨?_, ?_, ?_, ?_, ?_, ?_⟩, ⟨by omega, b2, b3, b4, by omega, b6⟩, ⟨?_, ?_, ?_, ?_, ?_, ?_⟩, fun p hpn => ?_, fun j hj => ?_, fun k hk => ?_, fun j hj => ?_, fun j hj => ?_, fun i hi => ?_, fun i hi => absurd hi (by omega)⟩
  · rw [ht]; rfl
  · rw [ho 1 (by decide) (by decide) (by decide) (by decide)]; exact t1
  · rw [ho 2 (by decide) (by decide) (by decide) (by decide)]; exact t2
  · rw [ho 3 (by decide) (by decide) (by decide) (by decide)]; exact t3
  · rw [ht]; rfl
  · rw [ho 22 (by decide) (by decide) (by decide) (by decide)]; exact t22
  · rw [hV]; rfl
  · rw [hV]; exact v1
  · rw [hc 10 (by decide) (by decide)]; exact v2
  · rw [hc 12 (by decide) (by decide)]; exact v3
  · rw [hV]; rfl
  · rw [hV]; exact v5
  · have e1 : V' 1 p = if p = n then p1 else V 1 p := by rw [hV]; rfl
    have e2 : V' 2 p = if p = n then p2 else V 2 p := by rw [hV]; rfl
    have e3 : V' 3 p = if p = n then 0 else V 3 p := by rw [hV]; rfl
    by_cases q : p = n
    · subst q
      have f1 : t' (23 + p) = p1 := by rw [ht, if_neg (by omega), if_neg (by omega), if_neg (by omega), if_neg (by omega), if_neg (by omega), if_neg (by omega), if_neg (by omega), if_neg (by omega), if_pos rfl]
      have f2 : t' (30 + p) = p2 := by rw [ht, if_neg (by omega), if_neg (by omega), if_neg (by omega), if_neg (by omega), if_neg (by omega), if_neg (by omega), if_neg (by omega), if_pos rfl]
      have f3 : t' (15 + p) = 0 := by rw [ht, if_neg (by omega), if_neg (by omega), if_pos rfl]
      rw [e1, e2, e3, f1, f2, f3, if_pos rfl, if_pos rfl, if_pos rfl]
      exact ⟨rfl, rfl, rfl, h1, h2, hz0⟩
    · have g : ∀ b, b = 23 ∨ b = 30 ∨ b = 15 → t' (b + p) = t (b + p) := by
        intro b hb
        rw [ht, if_neg (by omega), if_neg (by omega), if_neg (by omega), if_neg (by omega), if_neg (by omega), if_neg (by omega), if_neg (by omega), if_neg (by omega), if_neg (by omega)]
      rw [e1, e2, e3, if_neg q, if_neg q, if_neg q, g 23 (by decide), g 30 (by decide), g 15 (by decide)]
      exact hp p (by omega)
  · have e4 : V' 4 j = if j = 4 * n + 3 then p6 else if j = 4 * n + 2 then p5 else if j = 4 * n + 1 then p4 else if j = 4 * n then p3 else V 4 j := by rw [hV]; rfl
    have f4 : t' (37 + j) = if j = 4 * n + 3 then p6 else if j = 4 * n + 2 then p5 else if j = 4 * n + 1 then p4 else if j = 4 * n then p3 else t (37 + j) := by
      rw [ht, if_neg (by omega), if_neg (by omega), if_neg (by omega)]
      by_cases c3 : j = 4 * n + 3
      · rw [if_pos (by omega), if_pos c3]
      · rw [if_neg (by omega), if_neg c3]
        by_cases c2 : j = 4 * n + 2
        · rw [if_pos (by omega), if_pos c2]
        · rw [if_neg (by omega), if_neg c2]
          by_cases c1 : j = 4 * n + 1
          · rw [if_pos (by omega), if_pos c1]
          · rw [if_neg (by omega), if_neg c1]
            by_cases c0 : j = 4 * n
            · rw [if_pos (by omega), if_pos c0]
            · rw [if_neg (by omega), if_neg c0, if_neg (by omega), if_neg (by omega)]
    rw [e4, f4]
    by_cases c3 : j = 4 * n + 3
    · rw [if_pos c3, if_pos c3]; exact ⟨rfl, h6⟩
    · rw [if_neg c3, if_neg c3]
      by_cases c2 : j = 4 * n + 2
      · rw [if_pos c2, if_pos c2]; exact ⟨rfl, h5⟩
      · rw [if_neg c2, if_neg c2]
        by_cases c1 : j = 4 * n + 1
        · rw [if_pos c1, if_pos c1]; exact ⟨rfl, h4⟩
        · rw [if_neg c1, if_neg c1]
          by_cases c0 : j = 4 * n
          · rw [if_pos c0, if_pos c0]; exact ⟨rfl, h3⟩
          · rw [if_neg c0, if_neg c0]; exact hnd j (by omega)
  · rw [hc 5 (by decide) (by decide), hc 6 (by decide) (by decide), hc 7 (by decide) (by decide), hc 8 (by decide) (by decide), hc 9 (by decide) (by decide), ho (65 + k) (by omega) (by omega) (by omega) (by omega), ho (70 + k) (by omega) (by omega) (by omega) (by omega), ho (75 + k) (by omega) (by omega) (by omega) (by omega), ho (5 + k) (by omega) (by omega) (by omega) (by omega), ho (10 + k) (by omega) (by omega) (by omega) (by omega)]
    obtain ⟨g1, g2, g3, g4, g5, g6, g7, g8, g9, g10⟩ := hth k hk
    exact ⟨g1, g2, g3, g4, g5, g6, g7, z_of g8 (by omega), z_of g9 (by omega), g10⟩
  · rw [hc 11 (by decide) (by decide), ho (80 + j) (by omega) (by omega) (by omega) (by omega)]; exact hno j hj
  · rw [hc 13 (by decide) (by decide), ho (116 + j) (by omega) (by omega) (by omega) (by omega)]; exact hca j hj
  · rw [ho (116 + 4 * i + 1) (by omega) (by omega) (by omega) (by omega)]; exact z_of (hcq i hi) (by omega)
theorem vr_thing {V : Nat → Nat → Int32} {t : Nat → Int32} {n m un uc up d dm : Nat} (h : vr V t n m un uc up d dm) (hm : m < 5) {p1 p2 p3 : Int32} (h1 : pz p1 6) (h2 : pz p2 4) (h3 : pz p3 n) {V' : Nat → Nat → Int32} {t' : Nat → Int32}
    (hV : V' = k_w (k_w (k_w (k_w (k_w (k_w (k_w V 5 m p1) 6 m p2) 7 m p3) 8 m p3) 9 m 0) 0 13 (nI (m + 1))) 14 3 0)
    (ht : ∀ j, t' j = if j = 4 then 0 else if j = 1 then nI (m + 1) else if j = 10 + m then 0 else if j = 5 + m then p3 else if j = 75 + m then p3 else if j = 70 + m then p2 else if j = 65 + m then p1 else t j) : vr V' t' n (m + 1) un uc 0 d dm := by
  obtain ⟨⟨t0, t1, t2, t3, t4, t22⟩, ⟨b1, b2, b3, b4, b5, b6⟩, ⟨v0, v1, v2, v3, v4, v5⟩, hp, hnd, hth, hno, hca, hcq, hpa⟩ := h
  have hc : ∀ c, (1 ≤ c ∧ c < 5 ∨ 10 ≤ c ∧ c < 14 ∨ c = 15) → V' c = V c := by
    intro c q1
    funext j
    rw [hV]
    simp only [kw_get]
    rw [if_neg (by omega), if_neg (by omega), if_neg (by omega), if_neg (by omega), if_neg (by omega), if_neg (by omega), if_neg (by omega)]
  have ho : ∀ j, j ≠ 4 → j ≠ 1 → (j < 5 ∨ 15 ≤ j) → (j < 65 ∨ 80 ≤ j) → t' j = t j := by
    intro j q1 q2 q3 q4
    rw [ht, if_neg (by omega), if_neg (by omega), if_neg (by omega), if_neg (by omega), if_neg (by omega), if_neg (by omega), if_neg (by omega)]
  have hz0 : pz (0 : Int32) 3 := ⟨0, by decide, rfl⟩
  refine ⟨⟨?_, ?_, ?_, ?_, ?_, ?_⟩, ⟨b1, by omega, b3, b4, by omega, b6⟩, ⟨?_, ?_, ?_, ?_, ?_, ?_⟩, fun p hpn => ?_, fun j hj => ?_, fun k hk => ?_, fun j hj => ?_, fun j hj => ?_, fun i hi => ?_, fun i hi => absurd hi (by omega)⟩
  · rw [ho 0 (by decide) (by decide) (by decide) (by decide)]; exact t0
  · rw [ht]; rfl
  · rw [ho 2 (by decide) (by decide) (by decide) (by decide)]; exact t2
  · rw [ho 3 (by decide) (by decide) (by decide) (by decide)]; exact t3
  · rw [ht]; rfl
  · rw [ho 22 (by decide) (by decide) (by decide) (by decide)]; exact t22
  · rw [hV]; exact v0
  · rw [hV]; rfl
  · rw [hc 10 (by decide)]; exact v2
  · rw [hc 12 (by decide)]; exact v3
  · rw [hV]; rfl
  · rw [hV]; exact v5
  · rw [hc 1 (by decide), hc 2 (by decide), hc 3 (by decide), ho (23 + p) (by omega) (by omega) (by omega) (by omega), ho (30 + p) (by omega) (by omega) (by omega) (by omega), ho (15 + p) (by omega) (by omega) (by omega) (by omega)]; exact hp p hpn
  · rw [hc 4 (by decide), ho (37 + j) (by omega) (by omega) (by omega) (by omega)]; exact hnd j hj
  · have e1 : V' 5 k = if k = m then p1 else V 5 k := by rw [hV]; rfl
    have e2 : V' 6 k = if k = m then p2 else V 6 k := by rw [hV]; rfl
    have e3 : V' 7 k = if k = m then p3 else V 7 k := by rw [hV]; rfl
    have e4 : V' 8 k = if k = m then p3 else V 8 k := by rw [hV]; rfl
    have e5 : V' 9 k = if k = m then 0 else V 9 k := by rw [hV]; rfl
    by_cases q : k = m
    · subst q
      have f5 : t' (10 + k) = 0 := by rw [ht, if_neg (by omega), if_neg (by omega), if_pos rfl]
      have f4 : t' (5 + k) = p3 := by rw [ht, if_neg (by omega), if_neg (by omega), if_neg (by omega), if_pos rfl]
      have f3 : t' (75 + k) = p3 := by rw [ht, if_neg (by omega), if_neg (by omega), if_neg (by omega), if_neg (by omega), if_pos rfl]
      have f2 : t' (70 + k) = p2 := by rw [ht, if_neg (by omega), if_neg (by omega), if_neg (by omega), if_neg (by omega), if_neg (by omega), if_pos rfl]
      have f1 : t' (65 + k) = p1 := by rw [ht, if_neg (by omega), if_neg (by omega), if_neg (by omega), if_neg (by omega), if_neg (by omega), if_neg (by omega), if_pos rfl]
      rw [e1, e2, e3, e4, e5, f1, f2, f3, f4, f5, if_pos rfl, if_pos rfl, if_pos rfl, if_pos rfl, if_pos rfl]
      exact ⟨rfl, rfl, rfl, rfl, rfl, h1, h2, h3, h3, hz0⟩
    · have g : ∀ b, b = 65 ∨ b = 70 ∨ b = 75 ∨ b = 5 ∨ b = 10 → t' (b + k) = t (b + k) := by
        intro b hb
        rw [ht, if_neg (by omega), if_neg (by omega), if_neg (by omega), if_neg (by omega), if_neg (by omega), if_neg (by omega), if_neg (by omega)]
      rw [e1, e2, e3, e4, e5, if_neg q, if_neg q, if_neg q, if_neg q, if_neg q, g 65 (by decide), g 70 (by decide), g 75 (by decide), g 5 (by decide), g 10 (by decide)]
      exact hth k (by omega)
  · rw [hc 11 (by decide), ho (80 + j) (by omega) (by omega) (by omega) (by omega)]; exact hno j hj
  · rw [hc 13 (by decide), ho (116 + j) (by omega) (by omega) (by omega) (by omega)]; exact hca j hj
  · rw [ho (116 + 4 * i + 1) (by omega) (by omega) (by omega) (by omega)]; exact hcq i hi
theorem bad6 (S : Nat → Nat → Int32) (L : Nat → Nat → Int64) : nX6_refusedAsBad S L = some ((-2 : Int32), k_w S 75 0 (S 75 0 + 1)) := rfl
theorem bad7 (S : Nat → Nat → Int32) (L : Nat → Nat → Int64) (x : Int32) : nX7_bad S L x = some (x, k_w S 4 0 (S 4 0 + 1)) := rfl
theorem full6 (S : Nat → Nat → Int32) (L : Nat → Nat → Int64) : nX6_refusedAsFull S L = some ((-4 : Int32), k_w S 75 2 (S 75 2 + 1)) := rfl
theorem full7 (S : Nat → Nat → Int32) (L : Nat → Nat → Int64) : nX7_full S L = some ((-4 : Int32), k_w S 4 2 (S 4 2 + 1)) := rfl
theorem no6 (S : Nat → Nat → Int32) (L : Nat → Nat → Int64) : nX6_refusedAsNo S L = some ((-3 : Int32), k_w S 75 1 (S 75 1 + 1)) := rfl
theorem no7 (S : Nat → Nat → Int32) (L : Nat → Nat → Int64) : nX7_no S L = some ((-3 : Int32), k_w S 4 1 (S 4 1 + 1)) := rfl
theorem k_up0 {α : Type} (x : α) : k_b1 (some x) (fun y => some y) = some x := rfl
theorem op_person : k_op_person k_R := by
  intro S L T M p1 p2 p3 p4 p5 p6 hR
  have hR0 := hR
  obtain ⟨⟨n, m, un, uc, up, d, hv⟩, -⟩ := hR
  have hv0 := hv
  obtain ⟨⟨t0, t1, t2, t3, t4, t22⟩, ⟨b1, b2, b3, b4, b5, b6⟩, ⟨v0, v1, v2, v3, v4, v5⟩, -⟩ := hv
  have v0' : S 1 12 = nI n := v0
  by_cases g : pz p1 6 ∧ pz p2 20 ∧ pz p3 10 ∧ pz p4 10 ∧ pz p5 10 ∧ pz p6 10
  · obtain ⟨g1, g2, g3, g4, g5, g6⟩ := g
    by_cases c : n < 7
    · obtain ⟨V, hV⟩ : ∃ V : Nat → Nat → Int32, V = k_w (k_w (k_w (k_w (k_w (k_w (k_w (k_w (k_w (k_wi S 1) 1 n p1) 2 n p2) 3 n 0) 4 (4 * n) p3) 4 (4 * n + 1) p4) 4 (4 * n + 2) p5) 4 (4 * n + 3) p6) 0 12 (nI (n + 1))) 14 3 0 := ⟨_, rfl⟩
      obtain ⟨Z, hZ⟩ : ∃ Z : Nat → Nat → Int32, Z = k_w (k_w (k_w (k_w (k_w (k_w (k_w (k_w (k_w T 1 (23 + n) p1) 1 (30 + n) p2) 1 (37 + 4 * n) p3) 1 (37 + 4 * n + 1) p4) 1 (37 + 4 * n + 2) p5) 1 (37 + 4 * n + 3) p6) 1 (15 + n) 0) 1 0 (nI (n + 1))) 1 4 0 := ⟨_, rfl⟩
      have hz : ∀ j, Z 1 j = if j = 4 then 0 else if j = 0 then nI (n + 1) else if j = 15 + n then 0 else if j = 37 + 4 * n + 3 then p6 else if j = 37 + 4 * n + 2 then p5 else if j = 37 + 4 * n + 1 then p4 else if j = 37 + 4 * n then p3 else if j = 30 + n then p2 else if j = 23 + n then p1 else T 1 j := fun j => by rw [hZ]; rfl
      have hzo : ∀ c, c ≠ 1 → Z c = T c := by
        intro c hc
        rw [hZ]
        funext j
        simp only [kw_get, if_neg hc]
      refine ⟨nI n, k_sp S 1 16 V, Z, ?_, ?_, R_sp (vr_person hv0 c g1 g2 g3 g4 g5 g6 hV hz) (fun c hc => hzo c (by omega)) (by rw [hzo 0 (by decide)]) hR0⟩
      · unfold nX6_person
        rw [upTo_inK 6 (by decide) 6 rfl g1, b1_some, if_neg (by decide), upTo_inK 20 (by decide) 20 rfl g2, b1_some, if_neg (by decide)]
        unfold nX6_person_j23
        rw [if_neg (by decide), upTo_inK 10 (by decide) 10 rfl g3, b1_some, if_neg (by decide), upTo_inK 10 (by decide) 10 rfl g4, b1_some, if_neg (by decide), upTo_inK 10 (by decide) 10 rfl g5, b1_some, if_neg (by decide), upTo_inK 10 (by decide) 10 rfl g6, b1_some, if_neg (by decide), if_pos (show S 1 12 < (7 : Int32) from by rw [v0']; exact (nI_ltI (show n < 2 ^ 31 by omega) (show 7 < 2 ^ 31 by decide)).mpr c), X5_addPerson_spec v0 c, b1_some, ← hV]
        have e : k_sp S 1 16 V 1 12 = nI (n + 1) := by rw [sp_in (by decide) (by decide), hV]; rfl
        rw [e, show (1 : Int32) = nI 1 from rfl, pk_sub (by omega), Nat.add_sub_cancel]
      · unfold nX7_person
        rw [in_inK 6 (by decide) 5 (by decide) g1, b1_some, if_neg (by decide), in_inK 20 (by decide) 19 (by decide) g2, b1_some, if_neg (by decide), isNeed_in g3, b1_some, if_neg (by decide), isNeed_in g4, b1_some, if_neg (by decide), isNeed_in g5, b1_some, if_neg (by decide), isNeed_in g6, b1_some, if_neg (by decide)]
        unfold nX7_many
        rw [b1_some, if_neg (show ¬ T 1 0 = 7 from by rw [t0]; exact fun q => absurd ((nI_eq (show n < 2 ^ 31 by omega) (show 7 < 2 ^ 31 by decide)).mp q) (by omega)), X7_layPerson_1_spec t0 c, b1_some, b1_some, ← hZ, hz 0, if_neg (by decide), if_pos rfl, show (1 : Int32) = nI 1 from rfl, pk_sub (by omega), Nat.add_sub_cancel]
    · have e7 : n = 7 := by omega
      refine ⟨-4, _, _, ?_, ?_, R_bad 2 (by decide) hR0⟩
      · unfold nX6_person
        rw [upTo_inK 6 (by decide) 6 rfl g1, b1_some, if_neg (by decide), upTo_inK 20 (by decide) 20 rfl g2, b1_some, if_neg (by decide)]
        unfold nX6_person_j23
        rw [if_neg (by decide), upTo_inK 10 (by decide) 10 rfl g3, b1_some, if_neg (by decide), upTo_inK 10 (by decide) 10 rfl g4, b1_some, if_neg (by decide), upTo_inK 10 (by decide) 10 rfl g5, b1_some, if_neg (by decide), upTo_inK 10 (by decide) 10 rfl g6, b1_some, if_neg (by decide), if_neg (show ¬ S 1 12 < (7 : Int32) from by rw [v0', e7]; decide), full6]; rfl
      · unfold nX7_person
        rw [in_inK 6 (by decide) 5 (by decide) g1, b1_some, if_neg (by decide), in_inK 20 (by decide) 19 (by decide) g2, b1_some, if_neg (by decide), isNeed_in g3, b1_some, if_neg (by decide), isNeed_in g4, b1_some, if_neg (by decide), isNeed_in g5, b1_some, if_neg (by decide), isNeed_in g6, b1_some, if_neg (by decide)]
        unfold nX7_many
        rw [b1_some, if_pos (show T 1 0 = 7 from by rw [t0, e7]; rfl), full7]; rfl
  · refine ⟨-2, _, _, ?_, ?_, R_bad 0 (by decide) hR0⟩
    · have hj : ∀ w, nX6_person_j69 S L = w → nX6_person S L p1 p2 p3 p4 p5 p6 = w := by
        intro w hw
        unfold nX6_person
        by_cases g1 : pz p1 6
        · rw [upTo_inK 6 (by decide) 6 rfl g1, b1_some, if_neg (by decide)]
          by_cases g2 : pz p2 20
          · rw [upTo_inK 20 (by decide) 20 rfl g2, b1_some, if_neg (by decide)]
            unfold nX6_person_j23
            rw [if_neg (by decide)]
            by_cases g3 : pz p3 10
            · rw [upTo_inK 10 (by decide) 10 rfl g3, b1_some, if_neg (by decide)]
              by_cases g4 : pz p4 10
              · rw [upTo_inK 10 (by decide) 10 rfl g4, b1_some, if_neg (by decide)]
                by_cases g5 : pz p5 10
                · rw [upTo_inK 10 (by decide) 10 rfl g5, b1_some, if_neg (by decide)]
                  by_cases g6 : pz p6 10
                  · exact absurd ⟨g1, g2, g3, g4, g5, g6⟩ g
                  · rw [upTo_outK 10 (by decide) 10 rfl g6, b1_some, if_pos rfl]; exact hw
                · rw [upTo_outK 10 (by decide) 10 rfl g5, b1_some, if_pos rfl]; exact hw
              · rw [upTo_outK 10 (by decide) 10 rfl g4, b1_some, if_pos rfl]; exact hw
            · rw [upTo_outK 10 (by decide) 10 rfl g3, b1_some, if_pos rfl]; exact hw
          · rw [upTo_outK 20 (by decide) 20 rfl g2, b1_some, if_pos rfl]
            unfold nX6_person_j22 nX6_person_j23
            rw [if_pos rfl]; exact hw
        · rw [upTo_outK 6 (by decide) 6 rfl g1, b1_some, if_pos rfl]
          unfold nX6_person_j22 nX6_person_j23
          rw [if_pos rfl]; exact hw
      exact hj _ (by unfold nX6_person_j69; rw [bad6]; rfl)
    · have hj : ∀ w, nX7_person_j55 T M = w → nX7_person T M p1 p2 p3 p4 p5 p6 = w := by
        intro w hw
        unfold nX7_person
        by_cases g1 : pz p1 6
        · rw [in_inK 6 (by decide) 5 (by decide) g1, b1_some, if_neg (by decide)]
          by_cases g2 : pz p2 20
          · rw [in_inK 20 (by decide) 19 (by decide) g2, b1_some, if_neg (by decide)]
            by_cases g3 : pz p3 10
            · rw [isNeed_in g3, b1_some, if_neg (by decide)]
              by_cases g4 : pz p4 10
              · rw [isNeed_in g4, b1_some, if_neg (by decide)]
                by_cases g5 : pz p5 10
                · rw [isNeed_in g5, b1_some, if_neg (by decide)]
                  by_cases g6 : pz p6 10
                  · exact absurd ⟨g1, g2, g3, g4, g5, g6⟩ g
                  · rw [isNeed_out g6, b1_some, if_pos rfl]; exact hw
                · rw [isNeed_out g5, b1_some, if_pos rfl]; exact hw
              · rw [isNeed_out g4, b1_some, if_pos rfl]; exact hw
            · rw [isNeed_out g3, b1_some, if_pos rfl]; exact hw
          · rw [in_outK 20 (by decide) 19 (by decide) g2, b1_some, if_pos rfl]; exact hw
        · rw [in_outK 6 (by decide) 5 (by decide) g1, b1_some, if_pos rfl]; exact hw
      exact hj _ (by unfold nX7_person_j55; rw [bad7]; rfl)
theorem op_thing : k_op_thing k_R := by
  intro S L T M p1 p2 p3 hR
  have hR0 := hR
  obtain ⟨⟨n, m, un, uc, up, d, hv⟩, -⟩ := hR
  have hv0 := hv
  obtain ⟨⟨t0, t1, t2, t3, t4, t22⟩, ⟨b1, b2, b3, b4, b5, b6⟩, ⟨v0, v1, v2, v3, v4, v5⟩, -⟩ := hv
  have v0' : S 1 12 = nI n := v0
  have v1' : S 1 13 = nI m := v1
  by_cases g1 : pz p1 6
  · by_cases g2 : pz p2 4
    · by_cases g3 : pz p3 n
      · by_cases c : m < 5
        · obtain ⟨V, hV⟩ : ∃ V : Nat → Nat → Int32, V = k_w (k_w (k_w (k_w (k_w (k_w (k_w (k_wi S 1) 5 m p1) 6 m p2) 7 m p3) 8 m p3) 9 m 0) 0 13 (nI (m + 1))) 14 3 0 := ⟨_, rfl⟩
          obtain ⟨Z, hZ⟩ : ∃ Z : Nat → Nat → Int32, Z = k_w (k_w (k_w (k_w (k_w (k_w (k_w T 1 (65 + m) p1) 1 (70 + m) p2) 1 (75 + m) p3) 1 (5 + m) p3) 1 (10 + m) 0) 1 1 (nI (m + 1))) 1 4 0 := ⟨_, rfl⟩
          have hz : ∀ j, Z 1 j = if j = 4 then 0 else if j = 1 then nI (m + 1) else if j = 10 + m then 0 else if j = 5 + m then p3 else if j = 75 + m then p3 else if j = 70 + m then p2 else if j = 65 + m then p1 else T 1 j := fun j => by rw [hZ]; rfl
          have hzo : ∀ c, c ≠ 1 → Z c = T c := by
            intro c hc
            rw [hZ]
            funext j
            simp only [kw_get, if_neg hc]
          refine ⟨nI m, k_sp S 1 16 V, Z, ?_, ?_, R_sp (vr_thing hv0 c g1 g2 g3 hV hz) (fun c hc => hzo c (by omega)) (by rw [hzo 0 (by decide)]) hR0⟩
          · unfold nX6_thing
            rw [upTo_inK 6 (by decide) 6 rfl g1, b1_some, if_neg (by decide), upTo_inK 4 (by decide) 4 rfl g2, b1_some, if_neg (by decide), isPerson_in v0' b1 g3, b1_some, if_neg (by decide), if_pos (show S 1 13 < (5 : Int32) from by rw [v1']; exact (nI_ltI (show m < 2 ^ 31 by omega) (show 5 < 2 ^ 31 by decide)).mpr c), X5_addThing_spec v1 c, b1_some, ← hV]
            have e : k_sp S 1 16 V 1 13 = nI (m + 1) := by rw [sp_in (by decide) (by decide), hV]; rfl
            rw [e, show (1 : Int32) = nI 1 from rfl, pk_sub (by omega), Nat.add_sub_cancel]
          · unfold nX7_thing
            rw [in_inK 6 (by decide) 5 (by decide) g1, b1_some, if_neg (by decide), isSort_in g2, b1_some, if_neg (by decide), isOne7_in t0 b1 g3, b1_some, if_neg (by decide)]
            unfold nX7_manyThings
            rw [b1_some, if_neg (show ¬ T 1 1 = 5 from by rw [t1]; exact fun q => absurd ((nI_eq (show m < 2 ^ 31 by omega) (show 5 < 2 ^ 31 by decide)).mp q) (by omega)), X7_layThing_1_spec t1 c, b1_some, b1_some, ← hZ, hz 1, if_neg (by decide), if_pos rfl, show (1 : Int32) = nI 1 from rfl, pk_sub (by omega), Nat.add_sub_cancel]
        · have e5 : m = 5 := by omega
          refine ⟨-4, _, _, ?_, ?_, R_bad 2 (by decide) hR0⟩
          · unfold nX6_thing
            rw [upTo_inK 6 (by decide) 6 rfl g1, b1_some, if_neg (by decide), upTo_inK 4 (by decide) 4 rfl g2, b1_some, if_neg (by decide), isPerson_in v0' b1 g3, b1_some, if_neg (by decide), if_neg (show ¬ S 1 13 < (5 : Int32) from by rw [v1', e5]; decide), full6]; rfl
          · unfold nX7_thing
            rw [in_inK 6 (by decide) 5 (by decide) g1, b1_some, if_neg (by decide), isSort_in g2, b1_some, if_neg (by decide), isOne7_in t0 b1 g3, b1_some, if_neg (by decide)]
            unfold nX7_manyThings
            rw [b1_some, if_pos (show T 1 1 = 5 from by rw [t1, e5]; rfl), full7]; rfl
      · refine ⟨-2, _, _, ?_, ?_, R_bad 0 (by decide) hR0⟩
        · unfold nX6_thing nX6_thing_j25
          rw [upTo_inK 6 (by decide) 6 rfl g1, b1_some, if_neg (by decide), upTo_inK 4 (by decide) 4 rfl g2, b1_some, if_neg (by decide), isPerson_out v0' b1 g3, b1_some, if_pos rfl, bad6]; rfl
        · unfold nX7_thing nX7_thing_j27
          rw [in_inK 6 (by decide) 5 (by decide) g1, b1_some, if_neg (by decide), isSort_in g2, b1_some, if_neg (by decide), isOne7_out t0 b1 g3, b1_some, if_pos rfl, bad7]; rfl
    · refine ⟨-2, _, _, ?_, ?_, R_bad 0 (by decide) hR0⟩
      · unfold nX6_thing nX6_thing_j25
        rw [upTo_inK 6 (by decide) 6 rfl g1, b1_some, if_neg (by decide), upTo_outK 4 (by decide) 4 rfl g2, b1_some, if_pos rfl, bad6]; rfl
      · unfold nX7_thing nX7_thing_j27
        rw [in_inK 6 (by decide) 5 (by decide) g1, b1_some, if_neg (by decide), isSort_out g2, b1_some, if_pos rfl, bad7]; rfl
  · refine ⟨-2, _, _, ?_, ?_, R_bad 0 (by decide) hR0⟩
    · unfold nX6_thing nX6_thing_j25
      rw [upTo_outK 6 (by decide) 6 rfl g1, b1_some, if_pos rfl, bad6]; rfl
    · unfold nX7_thing nX7_thing_j27
      rw [in_outK 6 (by decide) 5 (by decide) g1, b1_some, if_pos rfl, bad7]; rfl
/-- a new valley -/
def bgF (T : Nat → Nat → Int32) (o i : Nat) : Nat → Nat → Int32 := k_r T o (fun j => if j < i then 0 else T o j)
theorem bgF_0 (T : Nat → Nat → Int32) (o : Nat) : bgF T o 0 = T := by
  funext c
  unfold bgF k_r
  by_cases h : c = o
  · rw [if_pos h, h]; funext p; rw [if_neg (by omega)]
  · rw [if_neg h]
theorem bgF_step (T : Nat → Nat → Int32) (o i : Nat) : k_w (bgF T o i) o i 0 = bgF T o (i + 1) := by
  funext c
  by_cases h : c = o
  · subst h
    unfold bgF
    rw [w_eq, r_eq, r_eq]
    funext p
    show (if p = i then (0 : Int32) else if p < i then 0 else T c p) = if p < i + 1 then 0 else T c p
    by_cases q : p = i
    · subst q; rw [if_pos rfl, if_pos (by omega)]
    · rw [if_neg q]
      by_cases q2 : p < i
      · rw [if_pos q2, if_pos (by omega)]
      · rw [if_neg q2, if_neg (by omega)]
  · unfold bgF
    rw [w_ne _ _ h, r_ne _ h, r_ne _ h]
theorem X7_begin_1_spec {T : Nat → Nat → Int32} {M : Nat → Nat → Int64} : nX7_begin_1 T M = some (bgF T 1 140) := by
  unfold nX7_begin_1
  rw [show ((0 : Int32), T) = (nI 0, bgF T 1 0) from by rw [bgF_0]; rfl]
  refine it_for (fun i => (nI i, bgF T 1 i)) 140 (by decide) (fun i hi => ?_) ?_
  · show nX7_begin_1_l2 (nI i) (bgF T 1 i) M = _
    unfold nX7_begin_1_l2
    rw [show (140 : Int32) = nI 140 from rfl, if_leF (by omega) (by decide), if_ok (show i < 284 by omega) (by decide), nI_clamp (by omega), bgF_step, nI_1]
  · show nX7_begin_1_l2 (nI 140) (bgF T 1 140) M = _
    unfold nX7_begin_1_l2
    rw [if_pos (by decide)]
    rfl
theorem X7_begin_17_spec {T : Nat → Nat → Int32} {M : Nat → Nat → Int64} : nX7_begin_17 T M = some (bgF T 17 140) := by
  unfold nX7_begin_17
  rw [show ((0 : Int32), T) = (nI 0, bgF T 17 0) from by rw [bgF_0]; rfl]
  refine it_for (fun i => (nI i, bgF T 17 i)) 140 (by decide) (fun i hi => ?_) ?_
  · show nX7_begin_17_l2 (nI i) (bgF T 17 i) M = _
    unfold nX7_begin_17_l2
    rw [show (140 : Int32) = nI 140 from rfl, if_leF (by omega) (by decide), if_ok (show i < 140 by omega) (by decide), nI_clamp (by omega), bgF_step, nI_1]
  · show nX7_begin_17_l2 (nI 140) (bgF T 17 140) M = _
    unfold nX7_begin_17_l2
    rw [if_pos (by decide)]
    rfl
theorem vr_empty (V : Nat → Nat → Int32) (T : Nat → Nat → Int32) (o dm : Nat) : vr (k_w (k_w (k_w (k_w (k_w (k_w V 0 12 0) 0 13 0) 0 14 0) 10 3 0) 12 3 0) 14 3 0) (bgF T o 140 o) 0 0 0 0 0 0 dm := by
  have e : ∀ j, j < 140 → bgF T o 140 o j = nI 0 := fun j hj => by unfold bgF; rw [r_eq, if_pos hj]; rfl
  refine ⟨⟨e 0 (by decide), e 1 (by decide), e 2 (by decide), e 3 (by decide), e 4 (by decide), e 22 (by decide)⟩, ⟨by decide, by decide, by decide, by decide, by decide, Nat.zero_le _⟩, ⟨rfl, rfl, rfl, rfl, rfl, rfl⟩, ?_, ?_, ?_, ?_, ?_, ?_, ?_⟩
  all_goals (intro i hi; exact absurd hi (by omega))
theorem op_valley : k_op_valley k_R := by
  intro S L T M hR
  have hR0 := hR
  obtain ⟨⟨n, m, un, uc, up, d, hv⟩, -⟩ := hR
  obtain ⟨⟨t0, t1, t2, t3, t4, t22⟩, -, ⟨v0, v1, v2, v3, v4, v5⟩, -⟩ := hv
  have v0' : S 1 12 = nI n := v0
  refine ⟨nI n, k_sp S 1 16 (k_w (k_w (k_w (k_w (k_w (k_w (k_wi S 1) 0 12 0) 0 13 0) 0 14 0) 10 3 0) 12 3 0) 14 3 0), bgF T 1 140, ?_, ?_, R_sp (vr_empty (k_wi S 1) T 1 9999) (fun c hc => r_ne _ (by omega)) (by rw [show bgF T 1 140 0 = T 0 from r_ne _ (by decide)]) hR0⟩
  · unfold nX6_valley nX5_empty
    rw [b1_some, v0']
  · unfold nX7_valley nX7_many
    rw [b1_some, X7_begin_1_spec, b1_some, t0]
