/-! counts; forgetting -/
theorem cnF_add (t : Nat → Int32) : ∀ m, (∀ k, k < m → pz (t k) 3) → cnF (fun k => decide (t k = 1)) m + cnF (fun k => decide (t k = 2)) m + cnF (fun k => decide (t k = 0)) m = m
  | 0, _ => rfl
  | m + 1, h => by
    have ih := cnF_add t m (fun k hk => h k (by omega))
    obtain ⟨j, hj, e⟩ := h m (by omega)
    rw [cnF_s, cnF_s, cnF_s]
    have h1 : (decide (t m = 1) = true) = (j = 1) := by rw [e, show (1 : Int32) = nI 1 from rfl, decide_eq_true_eq, e_eq (by omega) (by decide)]
    have h2 : (decide (t m = 2) = true) = (j = 2) := by rw [e, show (2 : Int32) = nI 2 from rfl, decide_eq_true_eq, e_eq (by omega) (by decide)]
    have h0 : (decide (t m = 0) = true) = (j = 0) := by rw [e, show (0 : Int32) = nI 0 from rfl, decide_eq_true_eq, e_eq (by omega) (by decide)]
    rcases (show j = 0 ∨ j = 1 ∨ j = 2 by omega) with q | q | q
    · rw [if_neg (by rw [h1]; omega), if_neg (by rw [h2]; omega), if_pos (by rw [h0]; exact q)]; omega
    · rw [if_pos (by rw [h1]; exact q), if_neg (by rw [h2]; omega), if_neg (by rw [h0]; omega)]; omega
    · rw [if_neg (by rw [h1]; omega), if_pos (by rw [h2]; exact q), if_neg (by rw [h0]; omega)]; omega
def hmF (S : Nat → Nat → Int32) (T : Nat → Nat → Int32) (n m un uc up d len : Nat) (j : Nat) : Nat := if j = 0 then n else if j = 1 then m else if j = 2 then d else if j = 3 then m - cnF (fun k => decide (T 1 (10 + k) = 0)) m else if j = 4 then cnF (fun k => decide (T 1 (10 + k) = 0 ∧ T 1 (5 + k) = T 1 (75 + k))) m else if j = 5 then un else if j = 6 then uc else if j = 7 then up else len
theorem X6_howMany_spec {S T : Nat → Nat → Int32} {L : Nat → Nat → Int64} {n m un uc up d len : Nat} (hv : vr (k_wi S 1) (T 1) n m un uc up d 9999) (hl : S 67 2 = nI len) {j : Nat} (hj : j < 9) : nX6_howMany S L (nI j) = some (nI (hmF S T n m un uc up d len j)) := by
  have hq0 := vq_of hv
  obtain ⟨⟨t0, t1, t2, t3, t4, t22⟩, ⟨b1, b2, b3, b4, b5, b6⟩, ⟨v0, v1, v2, v3, v4, v5⟩, hp, hnd, hth, -⟩ := hv
  have v0' : S 1 12 = nI n := v0
  have v1' : S 1 13 = nI m := v1
  have v2' : S 11 3 = nI un := v2
  have v3' : S 13 3 = nI uc := v3
  have v4' : S 15 3 = nI up := v4
  have v5' : S 1 14 = nI d := v5
  have hadd := cnF_add (fun k => T 1 (10 + k)) m (fun k hk => (hth k hk).2.2.2.2.2.2.2.2.2)
  unfold nX6_howMany
  rw [v0', v1', v2', v3', v4', v5', hl, X5_howManyLie_spec hq0, X5_howManyLie_spec hq0, X5_howManyAtHome_spec hq0, b1_some, b1_some, b1_some, nI_add]
  rcases (show j = 0 ∨ j = 1 ∨ j = 2 ∨ j = 3 ∨ j = 4 ∨ j = 5 ∨ j = 6 ∨ j = 7 ∨ j = 8 by omega) with rfl | rfl | rfl | rfl | rfl | rfl | rfl | rfl | rfl
  · rfl
  · rfl
  · rfl
  · show some (nI (cnF (fun k => decide (T 1 (10 + k) = 1)) m + cnF (fun k => decide (T 1 (10 + k) = 2)) m)) = some (nI (m - cnF (fun k => decide (T 1 (10 + k) = 0)) m))
    rw [show cnF (fun k => decide (T 1 (10 + k) = 1)) m + cnF (fun k => decide (T 1 (10 + k) = 2)) m = m - cnF (fun k => decide (T 1 (10 + k) = 0)) m from by omega]
  · rfl
  · rfl
  · rfl
  · rfl
  · rfl
theorem X7_counted_spec {S T : Nat → Nat → Int32} {M : Nat → Nat → Int64} {n m un uc up d len : Nat} (hv : vr (k_wi S 1) (T 1) n m un uc up d 9999) (hl : T 0 18 = nI len) {j : Nat} (hj : j < 9) : nX7_counted T M (nI j) = some (nI (hmF S T n m un uc up d len j)) := by
  have hq0 := vq_of hv
  obtain ⟨⟨t0, t1, t2, t3, t4, t22⟩, ⟨b1, b2, b3, b4, b5, b6⟩, ⟨v0, v1, v2, v3, v4, v5⟩, hp, hnd, hth, -⟩ := hv
  have hle := cnF_le (fun k => decide (T 1 (10 + k) = 0)) m
  unfold nX7_counted nX7_many nX7_manyThings
  rw [t0, t1, t2, t3, t4, t22, hl, X7_manyIn_1_spec hq0, X7_manyAtHome_1_spec hq0, b1_some, b1_some, b1_some, b1_some, b1_some, pk_sub hle]
  rcases (show j = 0 ∨ j = 1 ∨ j = 2 ∨ j = 3 ∨ j = 4 ∨ j = 5 ∨ j = 6 ∨ j = 7 ∨ j = 8 by omega) with rfl | rfl | rfl | rfl | rfl | rfl | rfl | rfl | rfl <;> rfl
theorem op_count : k_op_count k_R := by
  intro S L T M p1 hR
  have hR0 := hR
  obtain ⟨⟨n, m, un, uc, up, d, hv⟩, -, -, -, len, hlen, hl6, hl7, -⟩ := hR
  by_cases h : pz p1 9
  · obtain ⟨j, hj, rfl⟩ := h
    refine ⟨nI (hmF S T n m un uc up d len j), S, T, ?_, ?_, hR0⟩
    · unfold nX6_count
      rw [upTo_inK 9 (by decide) 9 rfl (z_nI hj), b1_some, if_neg (by decide), X6_howMany_spec hv hl6 hj, b1_some]
    · unfold nX7_count
      rw [in_inK 9 (by decide) 8 (by decide) (z_nI hj), b1_some, if_neg (by decide), X7_counted_spec (S := S) hv hl7 hj, b1_some]
  · refine ⟨-2, _, _, ?_, ?_, R_bad 0 (by decide) hR0⟩
    · unfold nX6_count
      rw [upTo_outK 9 (by decide) 9 rfl h, b1_some, if_pos rfl, bad6]; rfl
    · unfold nX7_count
      rw [in_outK 9 (by decide) 8 (by decide) h, b1_some, if_pos rfl, bad7]; rfl
/-- notes and comings are forgotten, or one more is there -/
theorem vr_notes {V V' : Nat → Nat → Int32} {t t' : Nat → Int32} {n m un uc up d dm un' uc' : Nat} (h : vr V t n m un uc up d dm) (hV : ∀ c, c < 10 ∨ c = 14 ∨ c = 15 → V' c = V c) (hu : V' 10 3 = nI un' ∧ V' 12 3 = nI uc' ∧ t' 2 = nI un' ∧ t' 3 = nI uc' ∧ un' ≤ 6 ∧ uc' ≤ 6) (ht : ∀ j, j ≠ 2 → j ≠ 3 → (j < 80 ∨ 140 ≤ j) → t' j = t j)
    (h1 : ∀ j, j < 6 * un' → V' 11 j = t' (80 + j)) (h2 : ∀ j, j < 4 * uc' → V' 13 j = t' (116 + j)) (h3 : ∀ i, i < uc' → pz (t' (116 + 4 * i + 1)) n) : vr V' t' n m un' uc' up d dm := by
  obtain ⟨⟨t0, t1, t2, t3, t4, t22⟩, ⟨b1, b2, b3, b4, b5, b6⟩, ⟨v0, v1, v2, v3, v4, v5⟩, hp, hnd, hth, hno, hca, hcq, hpa⟩ := h
  obtain ⟨u1, u2, u3, u4, u5, u6⟩ := hu
  refine ⟨⟨?_, ?_, u3, u4, ?_, ?_⟩, ⟨b1, b2, u5, u6, b5, b6⟩, ⟨?_, ?_, u1, u2, ?_, ?_⟩, fun p hpn => ?_, fun j hj => ?_, fun k hk => ?_, h1, h2, h3, fun i hi => ?_⟩
  · rw [ht 0 (by decide) (by decide) (by decide)]; exact t0
  · rw [ht 1 (by decide) (by decide) (by decide)]; exact t1
  · rw [ht 4 (by decide) (by decide) (by decide)]; exact t4
  · rw [ht 22 (by decide) (by decide) (by decide)]; exact t22
  · rw [hV 0 (by decide)]; exact v0
  · rw [hV 0 (by decide)]; exact v1
  · rw [hV 14 (by decide)]; exact v4
  · rw [hV 0 (by decide)]; exact v5
  · rw [hV 1 (by decide), hV 2 (by decide), hV 3 (by decide), ht (23 + p) (by omega) (by omega) (by omega), ht (30 + p) (by omega) (by omega) (by omega), ht (15 + p) (by omega) (by omega) (by omega)]; exact hp p hpn
  · rw [hV 4 (by decide), ht (37 + j) (by omega) (by omega) (by omega)]; exact hnd j hj
  · rw [hV 5 (by decide), hV 6 (by decide), hV 7 (by decide), hV 8 (by decide), hV 9 (by decide), ht (65 + k) (by omega) (by omega) (by omega), ht (70 + k) (by omega) (by omega) (by omega), ht (75 + k) (by omega) (by omega) (by omega), ht (5 + k) (by omega) (by omega) (by omega), ht (10 + k) (by omega) (by omega) (by omega)]; exact hth k hk
  · obtain ⟨q1, q2, q3, q4⟩ := hpa i hi
    rw [hV 15 (by decide), ht (140 + 18 * i + 17) (by omega) (by omega) (by omega)]
    refine ⟨q1, q2, fun p hpn => ?_, fun k hk => ?_⟩
    · rw [ht (140 + 18 * i + 10 + p) (by omega) (by omega) (by omega)]; exact q3 p hpn
    · rw [ht (140 + 18 * i + k) (by omega) (by omega) (by omega), ht (140 + 18 * i + 5 + k) (by omega) (by omega) (by omega)]; exact q4 k hk
theorem op_forget : k_op_forget k_R := by
  intro S L T M p1 hR
  have hR0 := hR
  obtain ⟨⟨n, m, un, uc, up, d, hv⟩, -⟩ := hR
  have hv0 := hv
  obtain ⟨⟨t0, t1, t2, t3, t4, t22⟩, ⟨b1, b2, b3, b4, b5, b6⟩, ⟨v0, v1, v2, v3, v4, v5⟩, hp, hnd, hth, hno, hca, hcq, hpa⟩ := hv
  have v2' : S 11 3 = nI un := v2
  have v3' : S 13 3 = nI uc := v3
  by_cases h : pz p1 2
  · obtain ⟨j, hj, rfl⟩ := h
    rcases (show j = 0 ∨ j = 1 by omega) with rfl | rfl
    · refine ⟨nI un, k_w S 11 3 0, k_w T 1 2 0, ?_, ?_, R_now (S := S) (T := T) (L := L) (M := M) (n := n) (m := m) (un := 0) (uc := uc) (up := up) (d := d) (vr_notes hv0 (fun c hc => ?_) ⟨rfl, v3, rfl, t3, by decide, b4⟩ (fun j h2 h3 _ => ?_) (fun j hj => absurd hj (by omega)) (fun j hj => ?_) (fun i hi => ?_)) (fun c hc => w_ne _ _ (by omega)) (by rw [w_ne _ _ (by decide)]) (fun c hc => w_ne _ _ (by omega)) (by rw [w_ne _ _ (by decide)]) ⟨rfl, rfl⟩ ⟨rfl, rfl⟩ hR0⟩
      · unfold nX6_forget nX6_forget_j34a
        rw [upTo_inK 2 (by decide) 2 rfl (z_nI hj), b1_some, if_neg (by decide), if_pos (by decide), v2']
      · unfold nX7_forget
        rw [in_inK 2 (by decide) 1 (by decide) (z_nI hj), b1_some, if_neg (by decide), show (2 : Int32) + nI 0 = nI 2 from rfl, if_ok (show 2 < 284 by decide) (by decide), if_ok (show 2 < 284 by decide) (by decide), nI_clamp (by decide), t2]
      · exact w_ne (S := S) (c := 11) (i := 1 + c) _ _ (by omega)
      · rw [w_off _ h2]
      · rw [w_off _ (by omega)]
        exact (congrFun (w_ne (S := S) (c := 11) (i := 14) _ _ (by decide)) j).trans (hca j hj)
      · rw [w_off _ (by omega)]; exact hcq i hi
    · refine ⟨nI uc, k_w S 13 3 0, k_w T 1 3 0, ?_, ?_, R_now (S := S) (T := T) (L := L) (M := M) (n := n) (m := m) (un := un) (uc := 0) (up := up) (d := d) (vr_notes hv0 (fun c hc => ?_) ⟨v2, rfl, t2, rfl, b3, by decide⟩ (fun j h2 h3 _ => ?_) (fun j hj => ?_) (fun j hj => absurd hj (by omega)) (fun i hi => absurd hi (by omega))) (fun c hc => w_ne _ _ (by omega)) (by rw [w_ne _ _ (by decide)]) (fun c hc => w_ne _ _ (by omega)) (by rw [w_ne _ _ (by decide)]) ⟨rfl, rfl⟩ ⟨rfl, rfl⟩ hR0⟩
      · unfold nX6_forget nX6_forget_j34
        rw [upTo_inK 2 (by decide) 2 rfl (z_nI hj), b1_some, if_neg (by decide), if_neg (by decide), v3']
      · unfold nX7_forget
        rw [in_inK 2 (by decide) 1 (by decide) (z_nI hj), b1_some, if_neg (by decide), show (2 : Int32) + nI 1 = nI 3 from rfl, if_ok (show 3 < 284 by decide) (by decide), if_ok (show 3 < 284 by decide) (by decide), nI_clamp (by decide), t3]
      · exact w_ne (S := S) (c := 13) (i := 1 + c) _ _ (by omega)
      · rw [w_off _ h3]
      · rw [w_off _ (by omega)]
        exact (congrFun (w_ne (S := S) (c := 13) (i := 12) _ _ (by decide)) j).trans (hno j hj)
  · refine ⟨-2, _, _, ?_, ?_, R_bad 0 (by decide) hR0⟩
    · unfold nX6_forget
      rw [upTo_outK 2 (by decide) 2 rfl h, b1_some, if_pos rfl, bad6]; rfl
    · unfold nX7_forget
      rw [in_outK 2 (by decide) 1 (by decide) h, b1_some, if_pos rfl, bad7]; rfl
