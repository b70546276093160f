/-! what moves: holders, places, coats, the day, how much is kept -/
theorem vr_set {V V' : Nat → Nat → Int32} {t t' : Nat → Int32} {n m un uc up up' d d' dm dm' : Nat} (h : vr V t n m un uc up d dm) (hV : ∀ c, c ≠ 0 → c ≠ 3 → c ≠ 8 → c ≠ 9 → c ≠ 14 → V' c = V c) (h0 : V' 0 12 = V 0 12 ∧ V' 0 13 = V 0 13) (ht : ∀ j, j < 4 ∨ 23 ≤ j → t' j = t j) (hd : V' 0 14 = nI d' ∧ t' 22 = nI d' ∧ d' ≤ dm') (hu : V' 14 3 = nI up' ∧ t' 4 = nI up' ∧ up' ≤ up)
    (h3 : ∀ p, p < n → V' 3 p = t' (15 + p) ∧ pz (t' (15 + p)) 10) (h8 : ∀ k, k < m → V' 8 k = t' (5 + k) ∧ V' 9 k = t' (10 + k) ∧ pz (t' (5 + k)) n ∧ pz (t' (10 + k)) 3) : vr V' t' n m un uc up' d' dm' := by
  obtain ⟨⟨t0, t1, t2, t3, t4, t22⟩, ⟨b1, b2, b3, b4, b5, b6⟩, ⟨v0, v1, v2, v3, v4, v5⟩, hp, hnd, hth, hno, hca, hcq, hpa⟩ := h
  refine ⟨⟨?_, ?_, ?_, ?_, hu.2.1, hd.2.1⟩, ⟨b1, b2, b3, b4, by omega, hd.2.2⟩, ⟨?_, ?_, ?_, ?_, hu.1, hd.1⟩, fun p hpn => ?_, fun j hj => ?_, fun k hk => ?_, fun j hj => ?_, fun j hj => ?_, fun i hi => ?_, fun i hi => ?_⟩
  · rw [ht 0 (by decide)]; exact t0
  · rw [ht 1 (by decide)]; exact t1
  · rw [ht 2 (by decide)]; exact t2
  · rw [ht 3 (by decide)]; exact t3
  · rw [h0.1]; exact v0
  · rw [h0.2]; exact v1
  · rw [hV 10 (by decide) (by decide) (by decide) (by decide) (by decide)]; exact v2
  · rw [hV 12 (by decide) (by decide) (by decide) (by decide) (by decide)]; exact v3
  · obtain ⟨g1, g2, g3, g4, g5, g6⟩ := hp p hpn
    obtain ⟨q1, q2⟩ := h3 p hpn
    rw [hV 1 (by decide) (by decide) (by decide) (by decide) (by decide), hV 2 (by decide) (by decide) (by decide) (by decide) (by decide), ht (23 + p) (by omega), ht (30 + p) (by omega)]
    exact ⟨g1, g2, q1, g4, g5, q2⟩
  · rw [hV 4 (by decide) (by decide) (by decide) (by decide) (by decide), ht (37 + j) (by omega)]; exact hnd j hj
  · obtain ⟨g1, g2, g3, g4, g5, g6, g7, g8, g9, g10⟩ := hth k hk
    obtain ⟨q1, q2, q3, q4⟩ := h8 k hk
    rw [hV 5 (by decide) (by decide) (by decide) (by decide) (by decide), hV 6 (by decide) (by decide) (by decide) (by decide) (by decide), hV 7 (by decide) (by decide) (by decide) (by decide) (by decide), ht (65 + k) (by omega), ht (70 + k) (by omega), ht (75 + k) (by omega)]
    exact ⟨g1, g2, g3, q1, q2, g6, g7, g8, q3, q4⟩
  · rw [hV 11 (by decide) (by decide) (by decide) (by decide) (by decide), ht (80 + j) (by omega)]; exact hno j hj
  · rw [hV 13 (by decide) (by decide) (by decide) (by decide) (by decide), ht (116 + j) (by omega)]; exact hca j hj
  · rw [ht (116 + 4 * i + 1) (by omega)]; exact hcq i hi
  · rw [hV 15 (by decide) (by decide) (by decide) (by decide) (by decide), ht (140 + 18 * i + 17) (by omega)]
    obtain ⟨q1, q2, q3, q4⟩ := hpa i (by omega)
    refine ⟨q1, q2, fun p hpn => ?_, fun k hk => ?_⟩
    · rw [ht (140 + 18 * i + 10 + p) (by omega)]; exact q3 p hpn
    · rw [ht (140 + 18 * i + k) (by omega), ht (140 + 18 * i + 5 + k) (by omega)]; exact q4 k hk
theorem vr_place {V : Nat → Nat → Int32} {t : Nat → Int32} {n m un uc up d dm k : Nat} {x : Int32} (h : vr V t n m un uc up d dm) (hk : k < m) (hx : pz x 3) : vr (k_w V 9 k x) (upd t (10 + k) x) n m un uc up d dm := by
  have h' := h
  obtain ⟨⟨t0, t1, t2, t3, t4, t22⟩, ⟨b1, b2, b3, b4, b5, b6⟩, ⟨v0, v1, v2, v3, v4, v5⟩, hp, hnd, hth, hno, hca, hcq, hpa⟩ := h'
  refine vr_set h (fun c _ _ _ h9 _ => w_ne _ _ h9) ⟨rfl, rfl⟩ (fun j hj => upd_off _ (by omega)) ⟨v5, (upd_off _ (by omega)).trans t22, b6⟩ ⟨v4, (upd_off _ (by omega)).trans t4, Nat.le_refl _⟩ (fun p hpn => ?_) (fun k' hk' => ?_)
  · rw [w_ne _ _ (by decide), upd_off _ (by omega)]
    exact ⟨(hp p hpn).2.2.1, (hp p hpn).2.2.2.2.2⟩
  · obtain ⟨g1, g2, g3, g4, g5, g6, g7, g8, g9, g10⟩ := hth k' hk'
    rw [w_ne _ _ (by decide), upd_off _ (show 5 + k' ≠ 10 + k by omega), w_eq]
    refine ⟨g4, ?_, g9, ?_⟩
    · by_cases q : k' = k
      · subst q; rw [upd_at, upd_at]
      · rw [upd_off _ q, upd_off _ (by omega)]; exact g5
    · by_cases q : k' = k
      · subst q; rw [upd_at]; exact hx
      · rw [upd_off _ (by omega)]; exact g10
theorem vr_holder {V : Nat → Nat → Int32} {t : Nat → Int32} {n m un uc up d dm k : Nat} {x : Int32} (h : vr V t n m un uc up d dm) (hk : k < m) (hx : pz x n) : vr (k_w V 8 k x) (upd t (5 + k) x) n m un uc up d dm := by
  have h' := h
  obtain ⟨⟨t0, t1, t2, t3, t4, t22⟩, ⟨b1, b2, b3, b4, b5, b6⟩, ⟨v0, v1, v2, v3, v4, v5⟩, hp, hnd, hth, hno, hca, hcq, hpa⟩ := h'
  refine vr_set h (fun c _ _ h8 _ _ => w_ne _ _ h8) ⟨rfl, rfl⟩ (fun j hj => upd_off _ (by omega)) ⟨v5, (upd_off _ (by omega)).trans t22, b6⟩ ⟨v4, (upd_off _ (by omega)).trans t4, Nat.le_refl _⟩ (fun p hpn => ?_) (fun k' hk' => ?_)
  · rw [w_ne _ _ (by decide), upd_off _ (by omega)]
    exact ⟨(hp p hpn).2.2.1, (hp p hpn).2.2.2.2.2⟩
  · obtain ⟨g1, g2, g3, g4, g5, g6, g7, g8, g9, g10⟩ := hth k' hk'
    rw [w_ne (i := 9) _ _ (by decide), upd_off _ (show 10 + k' ≠ 5 + k by omega), w_eq]
    refine ⟨?_, g5, ?_, g10⟩
    · by_cases q : k' = k
      · subst q; rw [upd_at, upd_at]
      · rw [upd_off _ q, upd_off _ (by omega)]; exact g4
    · by_cases q : k' = k
      · subst q; rw [upd_at]; exact hx
      · rw [upd_off _ (by omega)]; exact g9
theorem vr_coat {V : Nat → Nat → Int32} {t : Nat → Int32} {n m un uc up d dm p : Nat} {x : Int32} (h : vr V t n m un uc up d dm) (hpn : p < n) (hx : pz x 10) : vr (k_w V 3 p x) (upd t (15 + p) x) n m un uc up d dm := by
  have h' := h
  obtain ⟨⟨t0, t1, t2, t3, t4, t22⟩, ⟨b1, b2, b3, b4, b5, b6⟩, ⟨v0, v1, v2, v3, v4, v5⟩, hp, hnd, hth, hno, hca, hcq, hpa⟩ := h'
  refine vr_set h (fun c _ h3 _ _ _ => w_ne _ _ h3) ⟨rfl, rfl⟩ (fun j hj => upd_off _ (by omega)) ⟨v5, (upd_off _ (by omega)).trans t22, b6⟩ ⟨v4, (upd_off _ (by omega)).trans t4, Nat.le_refl _⟩ (fun p' hp' => ?_) (fun k' hk' => ?_)
  · rw [w_eq]
    by_cases q : p' = p
    · subst q; rw [upd_at, upd_at]; exact ⟨rfl, hx⟩
    · rw [upd_off _ q, upd_off _ (by omega)]
      exact ⟨(hp p' hp').2.2.1, (hp p' hp').2.2.2.2.2⟩
  · obtain ⟨g1, g2, g3, g4, g5, g6, g7, g8, g9, g10⟩ := hth k' hk'
    rw [w_ne (i := 8) _ _ (by decide), w_ne (i := 9) _ _ (by decide), upd_off _ (show 5 + k' ≠ 15 + p by omega), upd_off _ (show 10 + k' ≠ 15 + p by omega)]
    exact ⟨g4, g5, g9, g10⟩
/-- a write into the valley that lies in the object -/
theorem sp_w {S V : Nat → Nat → Int32} {c k : Nat} (x : Int32) (hc : c < 16) : k_w (k_sp S 1 16 V) (1 + c) k x = k_sp S 1 16 (k_w V c k x) := by
  funext i
  by_cases h : 1 ≤ i ∧ i < 1 + 16
  · by_cases q : i = 1 + c
    · subst q
      rw [w_eq, sp_in h.1 h.2, sp_in h.1 h.2, Nat.add_sub_cancel_left, w_eq]
    · rw [w_ne _ _ q, sp_in h.1 h.2, sp_in h.1 h.2, w_ne _ _ (by omega)]
  · rw [w_ne _ _ (by omega), sp_out (by omega), sp_out (by omega)]
theorem sp_r {S V : Nat → Nat → Int32} {c : Nat} (hc : c < 16) : k_sp S 1 16 V (1 + c) = V c := by
  rw [sp_in (by omega) (by omega), Nat.add_sub_cancel_left]
theorem op_lose : k_op_lose k_R := by
  intro S L T M p1 hR
  have hR0 := hR
  obtain ⟨⟨n, m, un, uc, up, d, hv⟩, -⟩ := hR
  have hv0 := hv
  obtain ⟨⟨t0, t1, t2, t3, t4, t22⟩, ⟨b1, b2, b3, b4, b5, b6⟩, ⟨v0, v1, v2, v3, v4, v5⟩, hp, hnd, hth, -⟩ := hv
  have v1' : S 1 13 = nI m := v1
  by_cases h1 : pz p1 m
  · obtain ⟨k, hk, rfl⟩ := h1
    obtain ⟨g5, g6, g7, g8, g9, -, -, -, g11, g10⟩ := hth k hk
    have g9' : S 10 k = T 1 (10 + k) := g9
    have e10 : (10 : Int32) + nI k = nI (10 + k) := nI_add 10 k
    have e5 : (5 : Int32) + nI k = nI (5 + k) := nI_add 5 k
    by_cases c : T 1 (10 + k) = 0
    · obtain ⟨Z, hz, hz1, hzo⟩ := X7_keep_spec (T := T) (M := M) b5 t4
      have hvk := vr_place (vr_keep hv0 hz1) hk (show pz (1 : Int32) 3 from ⟨1, by decide, rfl⟩)
      have hz5 : Z 1 (5 + k) = T 1 (5 + k) := by
        rw [hz1]; unfold keF; rw [if_neg (by omega), if_neg (by omega), if_neg (by omega)]
      refine ⟨T 1 (5 + k), k_sp S 1 16 (k_w (kpS (k_wi S 1) (kpU up) (kpB (k_wi S 1) up) 18) 9 k 1), k_w Z 1 (10 + k) 1, ?_, ?_, R_sp (T' := k_w Z 1 (10 + k) 1) (n := n) (m := m) (un := un) (uc := uc) (up := kpU up + 1) (d := d) (by rw [w_eq]; exact hvk) (fun c hc => by rw [w_ne _ _ (by omega), hzo c (by omega)]) (by rw [w_ne _ _ (by decide), hzo 0 (by decide)]) hR0⟩
      · unfold nX6_lose
        rw [isThing_in v1' b2 (z_nI hk), b1_some, if_neg (by decide), if_ok (show k < 5 by omega) (by decide), nI_clamp (by omega), if_pos (g9'.trans c), X5_keepPast_spec b5 v4, b1_some]
        rw [if_neg (show ¬ (nI k < 0 ∨ 5 ≤ k) from fun q => by rcases q with q | q; exact nI_pos (show k < 2 ^ 31 by omega) q; omega), if_neg (show ¬ (nI k < 0 ∨ 5 ≤ k) from fun q => by rcases q with q | q; exact nI_pos (show k < 2 ^ 31 by omega) q; omega)]
        rw [show (10 : Nat) = 1 + 9 from rfl, sp_w (c := 9) (1 : Int32) (by decide), show (9 : Nat) = 1 + 8 from rfl, sp_r (c := 8) (by decide), w_ne _ _ (by decide), kpS_o (by decide) (by decide), g8]
      · unfold nX7_lose
        rw [isThing7_in t1 b2 (z_nI hk), b1_some, if_neg (by decide), e10, e5, if_ok (show 10 + k < 284 by omega) (by decide), nI_clamp (by omega), if_pos c, hz, b1_some]
        rw [if_neg (show ¬ (nI (10 + k) < 0 ∨ 284 ≤ 10 + k) from fun q => by rcases q with q | q; exact nI_pos (show 10 + k < 2 ^ 31 by omega) q; omega), if_ok (show 5 + k < 284 by omega) (by decide), nI_clamp (by omega), w_off _ (by omega), hz5]
    · refine ⟨-3, _, _, ?_, ?_, R_bad 1 (by decide) hR0⟩
      · unfold nX6_lose
        rw [isThing_in v1' b2 (z_nI hk), b1_some, if_neg (by decide), if_ok (show k < 5 by omega) (by decide), nI_clamp (by omega), if_neg (by rw [g9']; exact c), no6]; rfl
      · unfold nX7_lose
        rw [isThing7_in t1 b2 (z_nI hk), b1_some, if_neg (by decide), e10, if_ok (show 10 + k < 284 by omega) (by decide), nI_clamp (by omega), if_neg c, no7]; rfl
  · refine ⟨-2, _, _, ?_, ?_, R_bad 0 (by decide) hR0⟩
    · unfold nX6_lose
      rw [isThing_out v1' b2 h1, b1_some, if_pos rfl, bad6]; rfl
    · unfold nX7_lose
      rw [isThing7_out t1 b2 h1, b1_some, if_pos rfl, bad7]; rfl
theorem op_coat : k_op_coat k_R := by
  intro S L T M p1 p2 hR
  have hR0 := hR
  obtain ⟨⟨n, m, un, uc, up, d, hv⟩, -⟩ := hR
  have hv0 := hv
  obtain ⟨⟨t0, t1, t2, t3, t4, t22⟩, ⟨b1, b2, b3, b4, b5, b6⟩, ⟨v0, v1, v2, v3, v4, v5⟩, hp, hnd, hth, -⟩ := hv
  have v0' : S 1 12 = nI n := v0
  by_cases h1 : pz p1 n
  · by_cases h2 : pz p2 10
    · obtain ⟨k, hk, rfl⟩ := h1
      have g3 := (hp k hk).2.2.1
      have e15 : (15 : Int32) + nI k = nI (15 + k) := nI_add 15 k
      obtain ⟨Z, hz, hz1, hzo⟩ := X7_keep_spec (T := T) (M := M) b5 t4
      have hvk := vr_coat (vr_keep hv0 hz1) hk h2
      refine ⟨T 1 (15 + k), k_sp S 1 16 (k_w (kpS (k_wi S 1) (kpU up) (kpB (k_wi S 1) up) 18) 3 k p2), k_w Z 1 (15 + k) p2, ?_, ?_, R_sp (T' := k_w Z 1 (15 + k) p2) (n := n) (m := m) (un := un) (uc := uc) (up := kpU up + 1) (d := d) (by rw [w_eq]; exact hvk) (fun c hc => by rw [w_ne _ _ (by omega), hzo c (by omega)]) (by rw [w_ne _ _ (by decide), hzo 0 (by decide)]) hR0⟩
      · unfold nX6_coat
        rw [isPerson_in v0' b1 (z_nI hk), b1_some, if_neg (by decide), upTo_inK 10 (by decide) 10 rfl h2, b1_some, if_neg (by decide), X5_keepPast_spec b5 v4, b1_some, if_ok (show k < 7 by omega) (by decide), if_ok (show k < 7 by omega) (by decide), nI_clamp (by omega)]
        rw [show (4 : Nat) = 1 + 3 from rfl, sp_w (c := 3) p2 (by decide), sp_r (c := 3) (by decide), kpS_o (by decide) (by decide), g3]
      · unfold nX7_coat
        rw [isOne7_in t0 b1 (z_nI hk), b1_some, if_neg (by decide), isNeed_in h2, b1_some, if_neg (by decide), e15, if_ok (show 15 + k < 284 by omega) (by decide), hz, b1_some, if_ok (show 15 + k < 284 by omega) (by decide), nI_clamp (by omega)]
    · refine ⟨-2, _, _, ?_, ?_, R_bad 0 (by decide) hR0⟩
      · unfold nX6_coat nX6_coat_j17
        rw [isPerson_in v0' b1 h1, b1_some, if_neg (by decide), upTo_outK 10 (by decide) 10 rfl h2, b1_some, if_pos rfl, bad6]; rfl
      · unfold nX7_coat nX7_coat_j15
        rw [isOne7_in t0 b1 h1, b1_some, if_neg (by decide), isNeed_out h2, b1_some, if_pos rfl, bad7]; rfl
  · refine ⟨-2, _, _, ?_, ?_, R_bad 0 (by decide) hR0⟩
    · unfold nX6_coat nX6_coat_j17
      rw [isPerson_out v0' b1 h1, b1_some, if_pos rfl, bad6]; rfl
    · unfold nX7_coat nX7_coat_j15
      rw [isOne7_out t0 b1 h1, b1_some, if_pos rfl, bad7]; rfl
