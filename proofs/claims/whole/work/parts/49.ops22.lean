/-! by where it came: the next look at a thing -/
def wtQ (S : Nat → Nat → Int32) (f : Nat → Nat → Int32) : Nat → Nat → Nat → Int32
  | 0 => S
  | i + 1 => k_r (wtQ S f i) 10 (fun j => if j < 6 then f i j else wtQ S f i 10 j)
theorem wtQ_o {S : Nat → Nat → Int32} {f : Nat → Nat → Int32} {c : Nat} (h : c ≠ 10) : ∀ i, wtQ S f i c = S c
  | 0 => rfl
  | i + 1 => (r_ne _ h).trans (wtQ_o h i)
def wtP (X : Nat → Nat → Int32) (V : Nat → Int32) (i : Nat) : Nat → Nat → Int32 := k_r X 10 (fun j => if j < i then V j else X 10 j)
theorem wtP_0 (X : Nat → Nat → Int32) (V : Nat → Int32) : wtP X V 0 = X := by
  funext c
  unfold wtP k_r
  by_cases h : c = 10
  · rw [if_pos h, h]; funext j; rw [if_neg (Nat.not_lt_zero j)]
  · rw [if_neg h]
theorem wtP_10 (X : Nat → Nat → Int32) (V : Nat → Int32) (i j : Nat) : wtP X V i 10 j = if j < i then V j else X 10 j := by unfold wtP; rw [r_eq]
theorem wtP_o {X : Nat → Nat → Int32} {V : Nat → Int32} {i c : Nat} (h : c ≠ 10) : wtP X V i c = X c := r_ne _ h
theorem wtP_s (X : Nat → Nat → Int32) (V : Nat → Int32) (i : Nat) : k_w (wtP X V i) 10 i (V i) = wtP X V (i + 1) := by
  funext c
  by_cases h : c = 10
  · subst h
    rw [w_eq]
    funext j
    show (if j = i then V i else wtP X V i 10 j) = wtP X V (i + 1) 10 j
    rw [wtP_10, wtP_10]
    by_cases q : j = i
    · subst q; rw [if_pos rfl, if_pos (by omega)]
    · rw [if_neg q]
      by_cases q2 : j < i
      · rw [if_pos q2, if_pos (by omega)]
      · rw [if_neg q2, if_neg (by omega)]
  · rw [w_ne _ _ h, wtP_o h, wtP_o h]
def byV (t : Nat → Int32) (n k i j : Nat) : Int32 := cmF n (fun p => t (23 + p)) (fun p => t (30 + p)) (fun y => t (37 + y)) (fun p => t (15 + p)) (nI j) (t (70 + k)).toNatClampNeg i (t 22)
theorem op_by : k_op_by k_R := by
  intro S L T M p1 hR
  have hR0 := hR
  obtain ⟨⟨n, m, un, uc, up, d, hv⟩, -⟩ := hR
  have hv0 := hv
  obtain ⟨⟨t0, t1, t2, t3, t4, t22⟩, ⟨b1, b2, b3, b4, b5, b6⟩, ⟨v0, v1, v2, v3, v4, v5⟩, hp, hnd, hth, -⟩ := hv
  have v0' : S 1 12 = nI n := v0
  have v1' : S 1 13 = nI m := v1
  have v5' : S 1 14 = T 1 22 := v5.trans t22.symm
  by_cases h1 : pz p1 m
  · obtain ⟨k, hk, rfl⟩ := h1
    obtain ⟨-, g6', -, -, -, -, ⟨s, hs, es⟩, -⟩ := hth k hk
    have s7 : S 7 k = nI s := (show S 7 k = T 1 (70 + k) from g6').trans es
    obtain ⟨mk, hmk⟩ : ∃ mk, mk = mkF (fun kd => cmB (T 1) n k kd uc) 6 := ⟨_, rfl⟩
    have hle0 : (mk ≤ 0) = (mk = 0) := by rw [hmk]; exact mkF_le0 _
    obtain ⟨g, hg⟩ : ∃ g : Nat → Nat, g = fun i => mxN (btF mk) (byV (T 1) n k i) 6 := ⟨_, rfl⟩
    have g6 : ∀ i, g i ≤ 6 := fun i => by rw [hg]; exact mxN_le _ _ 6
    obtain ⟨N, hN⟩ : ∃ N : Nat, N = if mk = 0 then 0 else n := ⟨_, rfl⟩
    have hNn : N ≤ n := by
      rw [hN]
      by_cases c : mk = 0
      · rw [if_pos c]; omega
      · rw [if_neg c]; exact Nat.le_refl n
    have hmkN : ∀ i, i < N → ¬ mk = 0 := by
      intro i hi c
      rw [hN, if_pos c] at hi
      omega
    have hc0 : N < n → mk = 0 := by
      intro hlt
      rcases Classical.em (mk = 0) with h | h
      · exact h
      · rw [hN, if_neg h] at hlt; omega
    have go6 : ∀ (X : Nat → Nat → Int32), (∀ c, c ≠ 76 → X c = S c) → ∀ i j, i < n → nX5_goesTo (k_wi X 1) (nI j) (nI s) (nI i) (T 1 22) = some (byV (T 1) n k i j) := by
      intro X hX i j hi
      have hw : ∀ c, c < 16 → k_wi X 1 c = k_wi S 1 c := fun c hc => hX (1 + c) (by omega)
      rw [X5_goesTo_spec b1 (by rw [hw 0 (by decide)]; exact v0) hi hs (fun y hy => by rw [hw 2 (by decide), (hp y hy).2.1]; exact (hp y hy).2.2.2.2.1), hw 1 (by decide), hw 2 (by decide), hw 3 (by decide), hw 4 (by decide)]
      unfold byV
      rw [es, nI_clamp (show s < 2 ^ 31 by omega), cmF_congr (n := n) (kd' := fun p => T 1 (23 + p)) (hs' := fun p => T 1 (30 + p)) (nd' := fun y => T 1 (37 + y)) (ct' := fun p => T 1 (15 + p)) (fun p hp' => (hp p hp').1) (fun p hp' => (hp p hp').2.1) (fun j hj => (hnd j hj).1) (fun p hp' => (hp p hp').2.2.1) _ hs hi _]
    have go7 : ∀ (X : Nat → Nat → Int32), (∀ c, c ≠ 10 → X c = lcF T 1 n c) → ∀ i j, i < n → nX7_comesTo_1 X M (nI j) (nI s) (T 1 22) (nI i) = some (byV (T 1) n k i j) := by
      intro X hX i j hi
      have e1 : X 1 = T 1 := (hX 1 (by decide)).trans (lcF_ne (by decide))
      have e5 : X 5 = lcF T 1 n 5 := hX 5 (by decide)
      rw [X7_comesTo_1_spec (n := n) b1 (by rw [e1]; exact t0) hi hs (fun y hy => by rw [e1]; exact (hp y hy).2.2.2.2.1) (fun y hy => by rw [e1]; exact (hnd y hy).2) (fun y hy => by rw [e5, lcF_5]; simp only [if_pos hy]; exact (hp y hy).2.2.2.2.2), e1, e5]
      unfold byV
      rw [es, nI_clamp (show s < 2 ^ 31 by omega), cmF_congr (n := n) (kd' := fun p => T 1 (23 + p)) (hs' := fun p => T 1 (30 + p)) (nd' := fun y => T 1 (37 + y)) (ct := lcF T 1 n 5) (ct' := fun p => T 1 (15 + p)) (fun p hp' => rfl) (fun p hp' => rfl) (fun j hj => rfl) (fun p hp' => by rw [lcF_5]; simp only [if_pos hp']) _ hs hi _]
    refine ⟨(bsF g N).1, wsQ S (byV (T 1) n k) N, wtQ (lcF T 1 n) (byV (T 1) n k) N, ?_, ?_, R_congr (fun c hc => wsQ_o (by omega) N) (by rw [wsQ_o (by decide)]) (fun c hc => (wtQ_o (by omega) N).trans (lcF_ne (by omega))) (by rw [wtQ_o (by decide), lcF_ne (by decide)]) ⟨rfl, rfl⟩ ⟨rfl, rfl⟩ hR0⟩
    · unfold nX6_by
      rw [isThing_in v1' b2 (z_nI hk), b1_some, if_neg (by decide), X5_kindsByComings_spec hv0 hk, b1_some, ← hmk]
      refine it_for (fun i => ((bsF g i).1, nI (bsF g i).2, nI i, wsQ S (byV (T 1) n k) i)) N (by omega) (fun i hi => ?_) ?_
      · show nX6_by_l31 (nI k) mk (bsF g i).1 (nI (bsF g i).2) (nI i) (wsQ S (byV (T 1) n k) i) L = _
        unfold nX6_by_l31
        have hb := (bsF_le g g6 i).1
        rw [wsQ_o (by decide), v0', if_leF (show i < n by omega) (by omega), if_neg (hmkN i hi)]
        rw [show ((0 : Int32), wsQ S (byV (T 1) n k) i) = (nI 0, wsP (wsQ S (byV (T 1) n k) i) (byV (T 1) n k i) 0) from by rw [wsP_0]; rfl]
        refine it_for (fun j => (nI j, wsP (wsQ S (byV (T 1) n k) i) (byV (T 1) n k i) j)) 6 (by decide) (fun j hj => ?_) ?_
        · show nX6_by_i31_l50 (nI k) mk (bsF g i).1 (nI (bsF g i).2) (nI i) (nI j) (wsP (wsQ S (byV (T 1) n k) i) (byV (T 1) n k i) j) L = _
          unfold nX6_by_i31_l50
          have hX : ∀ c, c ≠ 76 → wsP (wsQ S (byV (T 1) n k) i) (byV (T 1) n k i) j c = S c := fun c hc => (wsP_o hc).trans (wsQ_o hc i)
          rw [show (6 : Int32) = nI 6 from rfl, if_leF hj (by decide), if_ok (show k < 5 by omega) (by decide), nI_clamp (show k < 2 ^ 31 by omega), hX 7 (by decide), hX 1 (by decide), s7, v5', go6 _ hX i j (by omega), b1_some, if_ok hj (by decide), nI_clamp (show j < 2 ^ 31 by omega), wsP_s, nI_1]
        · show nX6_by_i31_l50 (nI k) mk (bsF g i).1 (nI (bsF g i).2) (nI i) (nI 6) (wsP (wsQ S (byV (T 1) n k) i) (byV (T 1) n k i) 6) L = _
          unfold nX6_by_i31_l50
          have hm : mxN (btF mk) (k_wi (wsP (wsQ S (byV (T 1) n k) i) (byV (T 1) n k i) 6) 76 0) 6 = g i := by
            rw [hg]
            exact mxN_congr (fun j hj => (wsP_76 _ _ _ _).trans (if_pos hj)) 6 (Nat.le_refl 6)
          have hss : wsP (wsQ S (byV (T 1) n k) i) (byV (T 1) n k i) 6 = wsQ S (byV (T 1) n k) (i + 1) := rfl
          have hgi := g6 i
          rw [if_pos (by decide), X6_mostAlike_spec, b1_some, hm, hss, bsF_s, nI_1]
          by_cases c : (bsF g i).2 ≤ g i
          · rw [if_leT c (by omega), if_pos c]; rfl
          · rw [if_leF (by omega) (by omega), if_neg c]; rfl
      · show nX6_by_l31 (nI k) mk (bsF g N).1 (nI (bsF g N).2) (nI N) (wsQ S (byV (T 1) n k) N) L = _
        unfold nX6_by_l31
        rw [wsQ_o (by decide), v0']
        by_cases c : N < n
        · rw [if_leF c (by omega), if_pos (hc0 c)]; rfl
        · rw [if_leT (by omega) (by omega)]; rfl
    · unfold nX7_by
      rw [isThing7_in t1 b2 (z_nI hk), b1_some, if_neg (by decide), X7_kindsOfThing_spec hv0 hk, b2_some, ← hmk]
      rw [show ((-1 : Int32), (1000000 : Int32), (0 : Int32), lcF T 1 n) = ((bsF g 0).1, (if 0 = 0 then (1000000 : Int32) else nI (bsF g 0).2), nI 0, wtQ (lcF T 1 n) (byV (T 1) n k) 0) from rfl]
      refine it_for (fun i => ((bsF g i).1, (if i = 0 then (1000000 : Int32) else nI (bsF g i).2), nI i, wtQ (lcF T 1 n) (byV (T 1) n k) i)) N (by omega) (fun i hi => ?_) ?_
      · show nX7_by_l30 (nI k) mk (bsF g i).1 (if i = 0 then (1000000 : Int32) else nI (bsF g i).2) (nI i) (wtQ (lcF T 1 n) (byV (T 1) n k) i) M = _
        unfold nX7_by_l30 nX7_many
        have hb := bsF_le g g6 i
        have q1 : ∀ i, wtQ (lcF T 1 n) (byV (T 1) n k) i 1 = T 1 := fun i => (wtQ_o (by decide) i).trans (lcF_ne (by decide))
        rw [b1_some, q1, t0, if_leF (show i < n by omega) (by omega), if_neg (show ¬ mk ≤ 0 from by rw [hle0]; exact hmkN i hi)]
        rw [show ((0 : Int32), wtQ (lcF T 1 n) (byV (T 1) n k) i) = (nI 0, wtP (wtQ (lcF T 1 n) (byV (T 1) n k) i) (byV (T 1) n k i) 0) from by rw [wtP_0]; rfl]
        refine it_for (fun j => (nI j, wtP (wtQ (lcF T 1 n) (byV (T 1) n k) i) (byV (T 1) n k i) j)) 6 (by decide) (fun j hj => ?_) ?_
        · show nX7_by_i30_l49 (nI k) mk (bsF g i).1 (if i = 0 then (1000000 : Int32) else nI (bsF g i).2) (nI i) 0 (nI j) (wtP (wtQ (lcF T 1 n) (byV (T 1) n k) i) (byV (T 1) n k i) j) M = _
          unfold nX7_by_i30_l49
          have hX : ∀ c, c ≠ 10 → wtP (wtQ (lcF T 1 n) (byV (T 1) n k) i) (byV (T 1) n k i) j c = lcF T 1 n c := fun c hc => (wtP_o hc).trans (wtQ_o hc i)
          rw [show (6 : Int32) = nI 6 from rfl, if_leF hj (by decide), show (70 : Int32) + nI k = nI (70 + k) from nI_add 70 k, if_ok (show 70 + k < 284 by omega) (by decide), nI_clamp (show 70 + k < 2 ^ 31 by omega), hX 1 (by decide), lcF_ne (by decide), es, go7 _ hX i j (by omega), b1_some, if_ok hj (by decide), nI_clamp (show j < 2 ^ 31 by omega), wtP_s, nI_1]
        · show nX7_by_i30_l49 (nI k) mk (bsF g i).1 (if i = 0 then (1000000 : Int32) else nI (bsF g i).2) (nI i) 0 (nI 6) (wtP (wtQ (lcF T 1 n) (byV (T 1) n k) i) (byV (T 1) n k i) 6) M = _
          unfold nX7_by_i30_l49
          have hss : wtP (wtQ (lcF T 1 n) (byV (T 1) n k) i) (byV (T 1) n k i) 6 = wtQ (lcF T 1 n) (byV (T 1) n k) (i + 1) := rfl
          have e10 : ∀ j, j < 6 → wtQ (lcF T 1 n) (byV (T 1) n k) (i + 1) 10 j = byV (T 1) n k i j := fun j hj => by rw [← hss, wtP_10, if_pos hj]
          rw [if_pos (show (6 : Int32) ≤ nI 6 by decide), hss]
          have hcount : k_it (fun st => nX7_by_i30_l100 (nI k) mk (bsF g i).1 (if i = 0 then (1000000 : Int32) else nI (bsF g i).2) (nI i) st.1 st.2 (wtQ (lcF T 1 n) (byV (T 1) n k) (i + 1)) M) 1000 ((0 : Int32), (0 : Int32)) = some (.inl ((bsF g (i + 1)).1, (if i + 1 = 0 then (1000000 : Int32) else nI (bsF g (i + 1)).2), nI (i + 1), wtQ (lcF T 1 n) (byV (T 1) n k) (i + 1))) := by
            refine it_for (fun y => (nI (mxN (btF mk) (byV (T 1) n k i) y), nI y)) 6 (by decide) (fun y hy => ?_) ?_
            · show nX7_by_i30_l100 (nI k) mk (bsF g i).1 (if i = 0 then (1000000 : Int32) else nI (bsF g i).2) (nI i) (nI (mxN (btF mk) (byV (T 1) n k i) y)) (nI y) (wtQ (lcF T 1 n) (byV (T 1) n k) (i + 1)) M = _
              unfold nX7_by_i30_l100
              have hmx := mxN_le (btF mk) (byV (T 1) n k i) y
              rw [show (6 : Int32) = nI 6 from rfl, if_leF hy (by decide)]
              by_cases ck : btF mk y = true
              · refine it_for (fun j => (nI (alN (btF mk) (byV (T 1) n k i) y j), nI j)) 6 (by decide) (fun j hj => ?_) ?_
                · show nX7_by_i30_i100_l113 (nI k) mk (bsF g i).1 (if i = 0 then (1000000 : Int32) else nI (bsF g i).2) (nI i) (nI (mxN (btF mk) (byV (T 1) n k i) y)) (nI y) (nI (alN (btF mk) (byV (T 1) n k i) y j)) (nI j) (wtQ (lcF T 1 n) (byV (T 1) n k) (i + 1)) M = _
                  unfold nX7_by_i30_i100_l113 nX7_by_i30_i100_i113_j161 nX7_by_i30_i100_i113_j162
                  have es' : alN (btF mk) (byV (T 1) n k i) y (j + 1) = if (btF mk j && decide (byV (T 1) n k i j = byV (T 1) n k i y)) = true then alN (btF mk) (byV (T 1) n k i) y j + 1 else alN (btF mk) (byV (T 1) n k i) y j := rfl
                  have hz : ∀ x : Nat, nI x + 0 = nI x := fun x => by rw [show (0 : Int32) = nI 0 from rfl, nI_add, Nat.add_zero]
                  rw [show (6 : Int32) = nI 6 from rfl, if_leF hj (by decide), X7_has_spec, b1_some, if_pos ck, if_neg (by decide), X7_has_spec, b1_some, es', nI_1 j, hz]
                  by_cases cj : btF mk j = true
                  · rw [if_pos cj, if_neg (by decide), if_ok hj (by decide), if_ok hy (by decide), nI_clamp (show j < 2 ^ 31 by omega), nI_clamp (show y < 2 ^ 31 by omega), e10 j hj, e10 y hy, cj, Bool.true_and]
                    by_cases c2 : byV (T 1) n k i j = byV (T 1) n k i y
                    · rw [if_pos c2, if_pos (decide_eq_true c2), nI_1]
                    · rw [if_neg c2, if_neg (by rw [decide_eq_true_eq]; exact c2)]
                  · rw [if_neg cj, if_pos rfl, Bool.eq_false_iff.mpr cj, Bool.false_and]
                    rfl
                · show nX7_by_i30_i100_l113 (nI k) mk (bsF g i).1 (if i = 0 then (1000000 : Int32) else nI (bsF g i).2) (nI i) (nI (mxN (btF mk) (byV (T 1) n k i) y)) (nI y) (nI (alN (btF mk) (byV (T 1) n k i) y 6)) (nI 6) (wtQ (lcF T 1 n) (byV (T 1) n k) (i + 1)) M = _
                  unfold nX7_by_i30_i100_l113 nX7_by_i30_i100_j171
                  have ha := alN_le (btF mk) (byV (T 1) n k i) y 6
                  rw [if_pos (show (6 : Int32) ≤ nI 6 by decide), mxN_s, if_pos ck, nI_1]
                  by_cases c2 : alN (btF mk) (byV (T 1) n k i) y 6 ≤ mxN (btF mk) (byV (T 1) n k i) y
                  · rw [if_leT c2 (by omega), if_pos c2]; rfl
                  · rw [if_leF (by omega) (by omega), if_neg c2]; rfl
              · refine it_for (fun j => ((0 : Int32), nI j)) 0 (by decide) (fun j hj => absurd hj (by omega)) ?_
                show nX7_by_i30_i100_l113 (nI k) mk (bsF g i).1 (if i = 0 then (1000000 : Int32) else nI (bsF g i).2) (nI i) (nI (mxN (btF mk) (byV (T 1) n k i) y)) (nI y) 0 (nI 0) (wtQ (lcF T 1 n) (byV (T 1) n k) (i + 1)) M = _
                unfold nX7_by_i30_i100_l113 nX7_by_i30_i100_j171
                rw [if_neg (show ¬ (6 : Int32) ≤ nI 0 by decide), X7_has_spec, b1_some, if_neg ck, if_pos rfl, mxN_s, if_neg ck, nI_1, show (0 : Int32) = nI 0 from rfl, if_leT (Nat.zero_le _) (by omega)]
                rfl
            · show nX7_by_i30_l100 (nI k) mk (bsF g i).1 (if i = 0 then (1000000 : Int32) else nI (bsF g i).2) (nI i) (nI (mxN (btF mk) (byV (T 1) n k i) 6)) (nI 6) (wtQ (lcF T 1 n) (byV (T 1) n k) (i + 1)) M = _
              unfold nX7_by_i30_l100 nX7_by_i30_j206
              have hgi := g6 i
              have hgg : mxN (btF mk) (byV (T 1) n k i) 6 = g i := by rw [hg]
              rw [if_pos (show (6 : Int32) ≤ nI 6 by decide), hgg, bsF_s, nI_1 i, if_neg (Nat.succ_ne_zero i)]
              by_cases c0 : i = 0
              · subst c0
                rw [if_pos rfl, show (1000000 : Int32) = nI 1000000 from rfl, if_leF (by omega) (by decide), if_leF (by omega) (by decide), if_neg (show ¬ (bsF g 0).2 ≤ g 0 from by show ¬ 7 ≤ g 0; omega)]
                rfl
              · rw [if_neg c0]
                have hb6 := hb.2 (by omega)
                by_cases c : (bsF g i).2 ≤ g i
                · rw [if_leT c (by omega), if_leT c (by omega), if_pos c]; rfl
                · rw [if_leF (by omega) (by omega), if_leF (by omega) (by omega), if_neg c]; rfl
          rw [hcount]
          rfl
      · show nX7_by_l30 (nI k) mk (bsF g N).1 (if N = 0 then (1000000 : Int32) else nI (bsF g N).2) (nI N) (wtQ (lcF T 1 n) (byV (T 1) n k) N) M = _
        unfold nX7_by_l30 nX7_many
        rw [b1_some, wtQ_o (by decide), lcF_ne (by decide), t0]
        by_cases c : N < n
        · rw [if_leF c (by omega), if_pos (show mk ≤ 0 from by rw [hle0]; exact hc0 c)]; rfl
        · rw [if_leT (by omega) (by omega)]; rfl
  · refine ⟨-2, _, _, ?_, ?_, R_bad 0 (by decide) hR0⟩
    · unfold nX6_by
      rw [isThing_out v1' b2 h1, b1_some, if_pos rfl, bad6]; rfl
    · unfold nX7_by
      rw [isThing7_out t1 b2 h1, b1_some, if_pos rfl, bad7]; rfl
