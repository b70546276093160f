/-! what both sides hold alike: a valley's window V and the reference's row t -/
def vr (V : Nat → Nat → Int32) (t : Nat → Int32) (n m un uc up d dm : Nat) : Prop :=
  (t 0 = nI n ∧ t 1 = nI m ∧ t 2 = nI un ∧ t 3 = nI uc ∧ t 4 = nI up ∧ t 22 = nI d) ∧ (n ≤ 7 ∧ m ≤ 5 ∧ un ≤ 6 ∧ uc ≤ 6 ∧ up ≤ 8 ∧ d ≤ dm) ∧
  (V 0 12 = nI n ∧ V 0 13 = nI m ∧ V 10 3 = nI un ∧ V 12 3 = nI uc ∧ V 14 3 = nI up ∧ V 0 14 = nI d) ∧
  (∀ p, p < n → V 1 p = t (23 + p) ∧ V 2 p = t (30 + p) ∧ V 3 p = t (15 + p) ∧ pz (t (23 + p)) 6 ∧ pz (t (30 + p)) 20 ∧ pz (t (15 + p)) 10) ∧
  (∀ j, j < 4 * n → V 4 j = t (37 + j) ∧ pz (t (37 + j)) 10) ∧
  (∀ k, k < m → V 5 k = t (65 + k) ∧ V 6 k = t (70 + k) ∧ V 7 k = t (75 + k) ∧ V 8 k = t (5 + k) ∧ V 9 k = t (10 + k) ∧ pz (t (65 + k)) 6 ∧ pz (t (70 + k)) 4 ∧ pz (t (75 + k)) n ∧ pz (t (5 + k)) n ∧ pz (t (10 + k)) 3) ∧
  (∀ j, j < 6 * un → V 11 j = t (80 + j)) ∧
  (∀ j, j < 4 * uc → V 13 j = t (116 + j)) ∧ (∀ i, i < uc → pz (t (116 + 4 * i + 1)) n) ∧
  (∀ i, i < up → V 15 (18 * i) = t (140 + 18 * i + 17) ∧ pz (t (140 + 18 * i + 17)) 10000 ∧
    (∀ p, p < n → V 15 (18 * i + 1 + p) = t (140 + 18 * i + 10 + p) ∧ pz (t (140 + 18 * i + 10 + p)) 10) ∧
    (∀ k, k < m → V 15 (18 * i + 8 + 2 * k) = t (140 + 18 * i + k) ∧ V 15 (18 * i + 9 + 2 * k) = t (140 + 18 * i + 5 + k) ∧ pz (t (140 + 18 * i + k)) n ∧ pz (t (140 + 18 * i + 5 + k)) 3))
def k_R (S : Nat → Nat → Int32) (L : Nat → Nat → Int64) (T : Nat → Nat → Int32) (M : Nat → Nat → Int64) : Prop :=
  (∃ n m un uc up d : Nat, vr (k_wi S 1) (T 1) n m un uc up d 9999) ∧
  (∀ i, i < 2 → S 66 i = T 3 i ∧ (S 66 i = 0 ∨ S 66 i = 1 ∧ ∃ n m un uc up d : Nat, vr (k_wi S (33 + 16 * i)) (fun k => T 2 (284 * i + k)) n m un uc up d 9999)) ∧
  (S 75 0 = T 4 0 ∧ S 75 1 = T 4 1 ∧ S 75 2 = T 4 2) ∧ (L 0 10 = M 0 4 ∧ L 0 11 = M 0 5) ∧
  (∃ len : Nat, len ≤ 150 ∧ S 67 2 = nI len ∧ T 0 18 = nI len ∧ ∀ i, i < len → S 68 i = T 16 i ∧ pz (T 16 i) 128)
theorem vr_congr {V V' : Nat → Nat → Int32} {t t' : Nat → Int32} {n m un uc up d dm : Nat} (hV : ∀ c, c < 16 → V' c = V c) (ht : ∀ k, k < 284 → t' k = t k) (h : vr V t n m un uc up d dm) : vr V' t' n m un uc up d dm := by
  obtain ⟨h1, h2, h3, h4, h5, h6, h7, h8, h9, h10⟩ := h
  obtain ⟨b1, b2, b3, b4, b5, b6⟩ := h2
  refine ⟨?_, ⟨b1, b2, b3, b4, b5, b6⟩, ?_, ?_, ?_, ?_, ?_, ?_, ?_, ?_⟩
  · rw [ht 0 (by decide), ht 1 (by decide), ht 2 (by decide), ht 3 (by decide), ht 4 (by decide), ht 22 (by decide)]; exact h1
  · rw [hV 0 (by decide), hV 10 (by decide), hV 12 (by decide), hV 14 (by decide)]; exact h3
  · intro p hp
    rw [hV 1 (by decide), hV 2 (by decide), hV 3 (by decide), ht (23 + p) (by omega), ht (30 + p) (by omega), ht (15 + p) (by omega)]; exact h4 p hp
  · intro j hj
    rw [hV 4 (by decide), ht (37 + j) (by omega)]; exact h5 j hj
  · intro k hk
    rw [hV 5 (by decide), hV 6 (by decide), hV 7 (by decide), hV 8 (by decide), hV 9 (by decide), ht (65 + k) (by omega), ht (70 + k) (by omega), ht (75 + k) (by omega), ht (5 + k) (by omega), ht (10 + k) (by omega)]; exact h6 k hk
  · intro j hj
    rw [hV 11 (by decide), ht (80 + j) (by omega)]; exact h7 j hj
  · intro j hj
    rw [hV 13 (by decide), ht (116 + j) (by omega)]; exact h8 j hj
  · intro i hi
    rw [ht (116 + 4 * i + 1) (by omega)]; exact h9 i hi
  · intro i hi
    obtain ⟨q1, q2, q3, q4⟩ := h10 i hi
    rw [hV 15 (by decide), ht (140 + 18 * i + 17) (by omega)]
    refine ⟨q1, q2, fun p hp => ?_, fun k hk => ?_⟩
    · rw [ht (140 + 18 * i + 10 + p) (by omega)]; exact q3 p hp
    · rw [ht (140 + 18 * i + k) (by omega), ht (140 + 18 * i + 5 + k) (by omega)]; exact q4 k hk
/-- only these cells count -/
theorem R_congr {S S' T T' : Nat → Nat → Int32} {L L' M M' : Nat → Nat → Int64} (hS : ∀ c, (1 ≤ c ∧ c < 17 ∨ 33 ≤ c ∧ c < 65 ∨ c = 66 ∨ c = 68 ∨ c = 75) → S' c = S c) (hS2 : S' 67 2 = S 67 2) (hT : ∀ c, (1 ≤ c ∧ c < 5 ∨ c = 16) → T' c = T c) (hT2 : T' 0 18 = T 0 18) (hL : L' 0 10 = L 0 10 ∧ L' 0 11 = L 0 11) (hM : M' 0 4 = M 0 4 ∧ M' 0 5 = M 0 5) (h : k_R S L T M) : k_R S' L' T' M' := by
  obtain ⟨⟨n, m, un, uc, up, d, h1⟩, h2, h3, h4, h5⟩ := h
  refine ⟨⟨n, m, un, uc, up, d, vr_congr (fun c hc => ?_) (fun k _ => ?_) h1⟩, fun i hi => ?_, ?_, ?_, ?_⟩
  · rw [wi_at, wi_at, hS (1 + c) (by omega)]
  · rw [hT 1 (by omega)]
  · obtain ⟨q1, q2⟩ := h2 i hi
    rw [hS 66 (by omega), hT 3 (by omega)]
    refine ⟨q1, ?_⟩
    rcases q2 with q2 | ⟨q2, n', m', un', uc', up', d', q3⟩
    · exact Or.inl q2
    · refine Or.inr ⟨q2, n', m', un', uc', up', d', vr_congr (fun c hc => ?_) (fun k _ => ?_) q3⟩
      · rw [wi_at, wi_at, hS (33 + 16 * i + c) (by omega)]
      · show T' 2 (284 * i + k) = T 2 (284 * i + k)
        rw [hT 2 (by omega)]
  · rw [hS 75 (by omega), hT 4 (by omega)]; exact h3
  · rw [hL.1, hL.2, hM.1, hM.2]; exact h4
  · rw [hS2, hT2, hS 68 (by omega), hT 16 (by omega)]; exact h5
/-- a refused call is counted on both sides -/
theorem R_bad {S T : Nat → Nat → Int32} {L M : Nat → Nat → Int64} (k : Nat) (hk : k < 3) (h : k_R S L T M) : k_R (k_w S 75 k (S 75 k + 1)) L (k_w T 4 k (T 4 k + 1)) M := by
  obtain ⟨⟨n, m, un, uc, up, d, h1⟩, h2, h3, h4, h5⟩ := h
  have a1 : ∀ c, c ≠ 75 → k_w S 75 k (S 75 k + 1) c = S c := fun c hc => w_ne _ _ hc
  have a2 : ∀ c, c ≠ 4 → k_w T 4 k (T 4 k + 1) c = T c := fun c hc => w_ne _ _ hc
  refine ⟨⟨n, m, un, uc, up, d, vr_congr (fun c hc => ?_) (fun k _ => ?_) h1⟩, fun i hi => ?_, ?_, h4, ?_⟩
  · rw [wi_at, wi_at, a1 (1 + c) (by omega)]
  · rw [a2 1 (by decide)]
  · obtain ⟨q1, q2⟩ := h2 i hi
    rw [a1 66 (by decide), a2 3 (by decide)]
    refine ⟨q1, ?_⟩
    rcases q2 with q2 | ⟨q2, n', m', un', uc', up', d', q3⟩
    · exact Or.inl q2
    · refine Or.inr ⟨q2, n', m', un', uc', up', d', vr_congr (fun c hc => ?_) (fun k _ => ?_) q3⟩
      · rw [wi_at, wi_at, a1 (33 + 16 * i + c) (by omega)]
      · show k_w T 4 _ _ 2 (284 * i + k) = T 2 (284 * i + k)
        rw [a2 2 (by decide)]
  · obtain ⟨g0, g1, g2⟩ := h3
    rw [w_eq, w_eq]
    unfold upd
    refine ⟨?_, ?_, ?_⟩
    · by_cases q : 0 = k
      · subst q; rw [if_pos rfl, if_pos rfl, g0]
      · rw [if_neg q, if_neg q, g0]
    · by_cases q : 1 = k
      · subst q; rw [if_pos rfl, if_pos rfl, g1]
      · rw [if_neg q, if_neg q, g1]
    · by_cases q : 2 = k
      · subst q; rw [if_pos rfl, if_pos rfl, g2]
      · rw [if_neg q, if_neg q, g2]
  · rw [a1 67 (by decide), a1 68 (by decide), a2 0 (by decide), a2 16 (by decide)]; exact h5
theorem R_start : k_R k_z (k_wl k_zl 0 11 1) k_z (k_wl k_zl 0 5 1) := by
  refine ⟨⟨0, 0, 0, 0, 0, 0, ?_⟩, fun i _ => ⟨rfl, Or.inl rfl⟩, ⟨rfl, rfl, rfl⟩, ⟨rfl, rfl⟩, ⟨0, by decide, rfl, rfl, fun i hi => absurd hi (by omega)⟩⟩
  refine ⟨⟨rfl, rfl, rfl, rfl, rfl, rfl⟩, ⟨by decide, by decide, by decide, by decide, by decide, by decide⟩, ⟨rfl, rfl, rfl, rfl, rfl, rfl⟩, ?_, ?_, ?_, ?_, ?_, ?_, ?_⟩
  all_goals (intro i hi; exact absurd hi (by omega))
/-! who is a person, a thing: both sides say it alike -/
section RQ
variable {S T : Nat → Nat → Int32} {L M : Nat → Nat → Int64} {n m : Nat}
theorem isPerson_in (hS : S 1 12 = nI n) (hn : n ≤ 7) {x : Int32} (h : pz x n) : nX6_isPerson S L x = some 1 := by
  unfold nX6_isPerson
  rw [hS, upTo_in (by omega) h, b1_some, if_neg (by decide)]
theorem isPerson_out (hS : S 1 12 = nI n) (hn : n ≤ 7) {x : Int32} (h : ¬ pz x n) : nX6_isPerson S L x = some 0 := by
  unfold nX6_isPerson
  rw [hS, upTo_out (by omega) h, b1_some, if_neg (by decide)]
theorem isThing_in (hS : S 1 13 = nI m) (hm : m ≤ 5) {x : Int32} (h : pz x m) : nX6_isThing S L x = some 1 := by
  unfold nX6_isThing
  rw [hS, upTo_in (by omega) h, b1_some, if_neg (by decide)]
theorem isThing_out (hS : S 1 13 = nI m) (hm : m ≤ 5) {x : Int32} (h : ¬ pz x m) : nX6_isThing S L x = some 0 := by
  unfold nX6_isThing
  rw [hS, upTo_out (by omega) h, b1_some, if_neg (by decide)]
theorem isOne7_in (hT : T 1 0 = nI n) (hn : n ≤ 7) {x : Int32} (h : pz x n) : nX7_isOne T M x = some 1 := by
  unfold nX7_isOne nX7_many
  rw [b1_some, in_in (N := n) (by omega) (by rw [hT]) h, b1_some, if_neg (by decide)]
theorem isOne7_out (hT : T 1 0 = nI n) (hn : n ≤ 7) {x : Int32} (h : ¬ pz x n) : nX7_isOne T M x = some 0 := by
  unfold nX7_isOne nX7_many
  rw [b1_some, in_out (N := n) (by omega) (by rw [hT]) h, b1_some, if_neg (by decide)]
theorem isThing7_in (hT : T 1 1 = nI m) (hm : m ≤ 5) {x : Int32} (h : pz x m) : nX7_isThing T M x = some 1 := by
  unfold nX7_isThing nX7_manyThings
  rw [b1_some, in_in (N := m) (by omega) (by rw [hT]) h, b1_some, if_neg (by decide)]
theorem isThing7_out (hT : T 1 1 = nI m) (hm : m ≤ 5) {x : Int32} (h : ¬ pz x m) : nX7_isThing T M x = some 0 := by
  unfold nX7_isThing nX7_manyThings
  rw [b1_some, in_out (N := m) (by omega) (by rw [hT]) h, b1_some, if_neg (by decide)]
end RQ
theorem upTo_inK {x : Int32} (N : Nat) (hN : N < 2 ^ 31) (y : Int32) (hy : y = nI N) (h : pz x N) : nX6_upTo x y = some 1 := by rw [hy]; exact upTo_in hN h
theorem upTo_outK {x : Int32} (N : Nat) (hN : N < 2 ^ 31) (y : Int32) (hy : y = nI N) (h : ¬ pz x N) : nX6_upTo x y = some 0 := by rw [hy]; exact upTo_out hN h
theorem in_inK {x : Int32} (N : Nat) (hN : N < 2 ^ 31) (y : Int64) (hy : y = (nI N - 1).toInt64) (h : pz x N) : nX7_in x.toInt64 (0 : Int64) y = some 1 := by rw [hy]; exact in_in hN rfl h
theorem in_outK {x : Int32} (N : Nat) (hN : N < 2 ^ 31) (y : Int64) (hy : y = (nI N - 1).toInt64) (h : ¬ pz x N) : nX7_in x.toInt64 (0 : Int64) y = some 0 := by rw [hy]; exact in_out hN rfl h
theorem isSort_in {x : Int32} (h : pz x 4) : nX7_isSort x = some 1 := by
  unfold nX7_isSort
  rw [in_inK 4 (by decide) 3 (by decide) h, b1_some, if_neg (by decide)]
theorem isSort_out {x : Int32} (h : ¬ pz x 4) : nX7_isSort x = some 0 := by
  unfold nX7_isSort
  rw [in_outK 4 (by decide) 3 (by decide) h, b1_some, if_neg (by decide)]
theorem isNeed_in {x : Int32} (h : pz x 10) : nX7_isNeed x = some 1 := by
  unfold nX7_isNeed
  rw [in_inK 10 (by decide) 9 (by decide) h, b1_some, if_neg (by decide)]
theorem isNeed_out {x : Int32} (h : ¬ pz x 10) : nX7_isNeed x = some 0 := by
  unfold nX7_isNeed
  rw [in_outK 10 (by decide) 9 (by decide) h, b1_some, if_neg (by decide)]
