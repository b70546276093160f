/-! the next look at somebody -/
theorem d40 {x : Nat} (h : x < 40) : nI x / 10 = nI (x / 10) ∧ nI x - nI x / 10 * 10 = nI (x % 10) := by
  have hh : ∀ x : Fin 40, nI x.val / 10 = nI (x.val / 10) ∧ nI x.val - nI x.val / 10 * 10 = nI (x.val % 10) := by decide +kernel
  exact hh ⟨x, h⟩
def shV (t : Nat → Int32) (p i j : Nat) : Int32 := shF (nI j) (t (37 + (4 * p + i / 10))) (t (15 + p)) (nI (i / 10)) (nI (i % 10))
def wsQ (S : Nat → Nat → Int32) (f : Nat → Nat → Int32) : Nat → Nat → Nat → Int32
  | 0 => S
  | i + 1 => k_r (wsQ S f i) 76 (fun j => if j < 6 then f i j else wsQ S f i 76 j)
theorem wsQ_o {S : Nat → Nat → Int32} {f : Nat → Nat → Int32} {c : Nat} (h : c ≠ 76) : ∀ i, wsQ S f i c = S c
  | 0 => rfl
  | i + 1 => (r_ne _ h).trans (wsQ_o h i)
def wsP (X : Nat → Nat → Int32) (V : Nat → Int32) (i : Nat) : Nat → Nat → Int32 := k_r X 76 (fun j => if j < i then V j else X 76 j)
theorem wsP_0 (X : Nat → Nat → Int32) (V : Nat → Int32) : wsP X V 0 = X := by
  funext c
  unfold wsP k_r
  by_cases h : c = 76
  · rw [if_pos h, h]; funext j; rw [if_neg (Nat.not_lt_zero j)]
  · rw [if_neg h]
theorem wsP_76 (X : Nat → Nat → Int32) (V : Nat → Int32) (i j : Nat) : wsP X V i 76 j = if j < i then V j else X 76 j := by unfold wsP; rw [r_eq]
theorem wsP_o {X : Nat → Nat → Int32} {V : Nat → Int32} {i c : Nat} (h : c ≠ 76) : wsP X V i c = X c := r_ne _ h
theorem wsP_s (X : Nat → Nat → Int32) (V : Nat → Int32) (i : Nat) : k_w (wsP X V i) 76 i (V i) = wsP X V (i + 1) := by
  funext c
  by_cases h : c = 76
  · subst h
    rw [w_eq]
    funext j
    show (if j = i then V i else wsP X V i 76 j) = wsP X V (i + 1) 76 j
    rw [wsP_76, wsP_76]
    by_cases q : j = i
    · subst q; rw [if_pos rfl, if_pos (by omega)]
    · rw [if_neg q]
      by_cases q2 : j < i
      · rw [if_pos q2, if_pos (by omega)]
      · rw [if_neg q2, if_neg (by omega)]
  · rw [w_ne _ _ h, wsP_o h, wsP_o h]
theorem op_watch : k_op_watch k_R := by
  intro S L T M p1 hR
  have hR0 := hR
  obtain ⟨⟨n, m, un, uc, up, d, hv⟩, -⟩ := hR
  have hv0 := hv
  obtain ⟨⟨t0, t1, t2, t3, t4, t22⟩, ⟨b1, b2, b3, b4, b5, b6⟩, ⟨v0, v1, v2, v3, v4, v5⟩, hp, hnd, hth, -⟩ := hv
  have v0' : S 1 12 = nI n := v0
  by_cases h1 : pz p1 n
  · obtain ⟨p, hpn, rfl⟩ := h1
    obtain ⟨mk, hmk⟩ : ∃ mk, mk = mkF (fun kd => ntB (T 1) (nI p) kd un) 6 := ⟨_, rfl⟩
    have hle0 : (mk ≤ 0) = (mk = 0) := by rw [hmk]; exact mkF_le0 _
    obtain ⟨g, hg⟩ : ∃ g : Nat → Nat, g = fun i => mxN (btF mk) (shV (T 1) p i) 6 := ⟨_, rfl⟩
    have g6 : ∀ i, g i ≤ 6 := fun i => by rw [hg]; exact mxN_le _ _ 6
    obtain ⟨N, hN⟩ : ∃ N : Nat, N = if mk = 0 then 0 else 40 := ⟨_, rfl⟩
    have hN40 : N ≤ 40 := by
      rw [hN]
      by_cases c : mk = 0
      · rw [if_pos c]; omega
      · rw [if_neg c]; exact Nat.le_refl 40
    have hmkN : ∀ i, i < N → ¬ mk = 0 := by
      intro i hi c
      rw [hN, if_pos c] at hi
      omega
    have hend : ∀ {α : Type} (x y : α), N < 40 → (if mk = 0 then x else y) = x := by
      intro α x y hlt
      by_cases c : mk = 0
      · rw [if_pos c]
      · rw [hN, if_neg c] at hlt; omega
    have sh6 : ∀ i j, i < 40 → j < 6 → nX1_shown (nI j) (S 5 (4 * p + i / 10)) (S 4 p) (nI (i / 10)) (nI (i % 10)) = some (shV (T 1) p i j) := by
      intro i j hi hj
      have e1 : S 5 (4 * p + i / 10) = T 1 (37 + (4 * p + i / 10)) := (hnd (4 * p + i / 10) (by omega)).1
      have e2 : S 4 p = T 1 (15 + p) := (hp p hpn).2.2.1
      rw [shown_spec, e1, e2]
      rfl
    refine ⟨(bsF g N).1, wsQ S (shV (T 1) p) N, T, ?_, ?_, R_congr (fun c hc => wsQ_o (by omega) N) (by rw [wsQ_o (by decide)]) (fun _ _ => rfl) rfl ⟨rfl, rfl⟩ ⟨rfl, rfl⟩ hR0⟩
    · unfold nX6_watch
      rw [isPerson_in v0' b1 (z_nI hpn), b1_some, if_neg (by decide), X5_kindsByNotes_spec hv0, b1_some, ← hmk]
      refine it_for (fun i => ((bsF g i).1, nI (bsF g i).2, nI i, wsQ S (shV (T 1) p) i)) N (by omega) (fun i hi => ?_) ?_
      · show nX6_watch_l31 (nI p) mk (bsF g i).1 (nI (bsF g i).2) (nI i) (wsQ S (shV (T 1) p) i) L = _
        unfold nX6_watch_l31
        obtain ⟨e1, e2⟩ := d40 (show i < 40 by omega)
        have hb := (bsF_le g g6 i).1
        rw [show (40 : Int32) = nI 40 from rfl, if_leF (show i < 40 by omega) (by decide), if_neg (hmkN i hi), e1]
        rw [show ((0 : Int32), wsQ S (shV (T 1) p) i) = (nI 0, wsP (wsQ S (shV (T 1) p) i) (shV (T 1) p i) 0) from by rw [wsP_0]; rfl]
        refine it_for (fun j => (nI j, wsP (wsQ S (shV (T 1) p) i) (shV (T 1) p i) j)) 6 (by decide) (fun j hj => ?_) ?_
        · show nX6_watch_i31_l52 (nI p) mk (bsF g i).1 (nI (bsF g i).2) (nI i) (nI (i / 10)) (nI j) (wsP (wsQ S (shV (T 1) p) i) (shV (T 1) p i) j) L = _
          unfold nX6_watch_i31_l52
          rw [show (6 : Int32) = nI 6 from rfl, if_leF hj (by decide), ix4, if_ok (show 4 * p + i / 10 < 28 by omega) (by decide), if_ok (show p < 7 by omega) (by decide), nI_clamp (show 4 * p + i / 10 < 2 ^ 31 by omega), nI_clamp (show p < 2 ^ 31 by omega), e2, wsP_o (by decide), wsP_o (by decide), wsQ_o (by decide), wsQ_o (by decide), sh6 i j (by omega) hj, b1_some, if_ok hj (by decide), nI_clamp (show j < 2 ^ 31 by omega), wsP_s, nI_1]
        · show nX6_watch_i31_l52 (nI p) mk (bsF g i).1 (nI (bsF g i).2) (nI i) (nI (i / 10)) (nI 6) (wsP (wsQ S (shV (T 1) p) i) (shV (T 1) p i) 6) L = _
          unfold nX6_watch_i31_l52
          have hm : mxN (btF mk) (k_wi (wsP (wsQ S (shV (T 1) p) i) (shV (T 1) p i) 6) 76 0) 6 = g i := by
            rw [hg]
            exact mxN_congr (fun j hj => (wsP_76 _ _ _ _).trans (if_pos hj)) 6 (Nat.le_refl 6)
          have hs : wsP (wsQ S (shV (T 1) p) i) (shV (T 1) p i) 6 = wsQ S (shV (T 1) p) (i + 1) := rfl
          have hgi := g6 i
          rw [if_pos (by decide), X6_mostAlike_spec, b1_some, hm, hs, bsF_s, nI_1]
          by_cases c : (bsF g i).2 ≤ g i
          · rw [if_leT c (by omega), if_pos c]; rfl
          · rw [if_leF (by omega) (by omega), if_neg c]; rfl
      · show nX6_watch_l31 (nI p) mk (bsF g N).1 (nI (bsF g N).2) (nI N) (wsQ S (shV (T 1) p) N) L = _
        unfold nX6_watch_l31
        by_cases c : N < 40
        · rw [show (40 : Int32) = nI 40 from rfl, if_leF c (by decide), hend _ _ c]; rfl
        · rw [show (40 : Int32) = nI 40 from rfl, if_leT (by omega) (by omega)]; rfl
    · unfold nX7_watch
      rw [isOne7_in t0 b1 (z_nI hpn), b1_some, if_neg (by decide), X7_kindsOf_spec hv0, b1_some, ← hmk]
      rw [show ((-1 : Int32), (1000000 : Int32), (0 : Int32)) = ((bsF g 0).1, (if 0 = 0 then (1000000 : Int32) else nI (bsF g 0).2), nI 0) from rfl]
      refine it_for (fun i => ((bsF g i).1, (if i = 0 then (1000000 : Int32) else nI (bsF g i).2), nI i)) N (by omega) (fun i hi => ?_) ?_
      · show nX7_watch_l30 (nI p) mk (bsF g i).1 (if i = 0 then (1000000 : Int32) else nI (bsF g i).2) (nI i) T M = _
        unfold nX7_watch_l30
        obtain ⟨e1, e2⟩ := d40 (show i < 40 by omega)
        have hb := bsF_le g g6 i
        rw [show (40 : Int32) = nI 40 from rfl, if_leF (show i < 40 by omega) (by decide), if_neg (show ¬ mk ≤ 0 from by rw [hle0]; exact hmkN i hi), e1]
        have e37 : ((37 : Int32) + ((4 : Int32) * nI p)) + nI (i / 10) = nI (37 + (4 * p + i / 10)) := by
          rw [h4n, show (37 : Int32) = nI 37 from rfl, nI_add, nI_add, Nat.add_assoc]
        have e15 : (15 : Int32) + nI p = nI (15 + p) := nI_add 15 p
        have shr : ∀ j, nX7_showsAs (nI j) (nI (i / 10)) (nI (i % 10)) (T 1 (37 + (4 * p + i / 10))) (T 1 (15 + p)) = some (shV (T 1) p i j) := fun j => by rw [showsAs_spec]; rfl
        refine it_for (fun k => (nI (mxN (btF mk) (shV (T 1) p i) k), nI k)) 6 (by decide) (fun k hk => ?_) ?_
        · show nX7_watch_i30_l54 (nI p) mk (bsF g i).1 (if i = 0 then (1000000 : Int32) else nI (bsF g i).2) (nI i) (nI (i / 10)) (nI (mxN (btF mk) (shV (T 1) p i) k)) (nI k) T M = _
          unfold nX7_watch_i30_l54
          have hmx := mxN_le (btF mk) (shV (T 1) p i) k
          rw [show (6 : Int32) = nI 6 from rfl, if_leF hk (by decide), e37, e15, e2, if_ok (show 37 + (4 * p + i / 10) < 284 by omega) (by decide), if_ok (show 15 + p < 284 by omega) (by decide), nI_clamp (show 37 + (4 * p + i / 10) < 2 ^ 31 by omega), nI_clamp (show 15 + p < 2 ^ 31 by omega), shr k, b1_some]
          by_cases ck : btF mk k = true
          · refine it_for (fun j => (nI (alN (btF mk) (shV (T 1) p i) k j), nI j)) 6 (by decide) (fun j hj => ?_) ?_
            · show nX7_watch_i30_i54_l104 (nI p) mk (bsF g i).1 (if i = 0 then (1000000 : Int32) else nI (bsF g i).2) (nI i) (nI (i / 10)) (nI (mxN (btF mk) (shV (T 1) p i) k)) (nI k) (nI (alN (btF mk) (shV (T 1) p i) k j)) (shV (T 1) p i k) (nI j) T M = _
              unfold nX7_watch_i30_i54_l104 nX7_watch_i30_i54_i104_j175 nX7_watch_i30_i54_i104_j176
              have es : alN (btF mk) (shV (T 1) p i) k (j + 1) = if (btF mk j && decide (shV (T 1) p i j = shV (T 1) p i k)) = true then alN (btF mk) (shV (T 1) p i) k j + 1 else alN (btF mk) (shV (T 1) p i) k j := rfl
              have hz : ∀ x : Nat, nI x + 0 = nI x := fun x => by rw [show (0 : Int32) = nI 0 from rfl, nI_add, Nat.add_zero]
              rw [show (6 : Int32) = nI 6 from rfl, if_leF hj (by decide), X7_has_spec, b1_some, if_pos ck, if_neg (by decide), X7_has_spec, b1_some, es, nI_1 j, hz]
              by_cases cj : btF mk j = true
              · rw [if_pos cj, if_neg (by decide), e37, e15, e2, if_ok (show 37 + (4 * p + i / 10) < 284 by omega) (by decide), if_ok (show 15 + p < 284 by omega) (by decide), nI_clamp (show 37 + (4 * p + i / 10) < 2 ^ 31 by omega), nI_clamp (show 15 + p < 2 ^ 31 by omega), shr j, b1_some, cj, Bool.true_and]
                by_cases c2 : shV (T 1) p i j = shV (T 1) p i k
                · rw [if_pos c2, if_pos (decide_eq_true c2), nI_1]
                · rw [if_neg c2, if_neg (by rw [decide_eq_true_eq]; exact c2)]
              · rw [if_neg cj, if_pos rfl, Bool.eq_false_iff.mpr cj, Bool.false_and]
                rfl
            · show nX7_watch_i30_i54_l104 (nI p) mk (bsF g i).1 (if i = 0 then (1000000 : Int32) else nI (bsF g i).2) (nI i) (nI (i / 10)) (nI (mxN (btF mk) (shV (T 1) p i) k)) (nI k) (nI (alN (btF mk) (shV (T 1) p i) k 6)) (shV (T 1) p i k) (nI 6) T M = _
              unfold nX7_watch_i30_i54_l104 nX7_watch_i30_i54_j185
              have ha := alN_le (btF mk) (shV (T 1) p i) k 6
              rw [if_pos (show (6 : Int32) ≤ nI 6 by decide), mxN_s, if_pos ck, nI_1]
              by_cases c2 : alN (btF mk) (shV (T 1) p i) k 6 ≤ mxN (btF mk) (shV (T 1) p i) k
              · rw [if_leT c2 (by omega), if_pos c2]; rfl
              · rw [if_leF (by omega) (by omega), if_neg c2]; rfl
          · refine it_for (fun j => ((0 : Int32), nI j)) 0 (by decide) (fun j hj => absurd hj (by omega)) ?_
            show nX7_watch_i30_i54_l104 (nI p) mk (bsF g i).1 (if i = 0 then (1000000 : Int32) else nI (bsF g i).2) (nI i) (nI (i / 10)) (nI (mxN (btF mk) (shV (T 1) p i) k)) (nI k) 0 (shV (T 1) p i k) (nI 0) T M = _
            unfold nX7_watch_i30_i54_l104 nX7_watch_i30_i54_j185
            rw [if_neg (show ¬ (6 : Int32) ≤ nI 0 by decide), X7_has_spec, b1_some, if_neg ck, if_pos rfl, mxN_s, if_neg ck, nI_1, show (0 : Int32) = nI 0 from rfl, if_leT (Nat.zero_le _) (by omega)]
            rfl
        · show nX7_watch_i30_l54 (nI p) mk (bsF g i).1 (if i = 0 then (1000000 : Int32) else nI (bsF g i).2) (nI i) (nI (i / 10)) (nI (mxN (btF mk) (shV (T 1) p i) 6)) (nI 6) T M = _
          unfold nX7_watch_i30_l54 nX7_watch_i30_j220
          have hgi := g6 i
          have hgg : mxN (btF mk) (shV (T 1) p i) 6 = g i := by rw [hg]
          rw [if_pos (show (6 : Int32) ≤ nI 6 by decide), hgg, bsF_s, nI_1 i, if_neg (Nat.succ_ne_zero i)]
          by_cases c0 : i = 0
          · subst c0
            rw [if_pos rfl, show (1000000 : Int32) = nI 1000000 from rfl, if_leF (by omega) (by decide), if_leF (by omega) (by decide), if_neg (show ¬ (bsF g 0).2 ≤ g 0 from by show ¬ 7 ≤ g 0; omega)]
            rfl
          · rw [if_neg c0]
            have hb6 := hb.2 (by omega)
            by_cases c : (bsF g i).2 ≤ g i
            · rw [if_leT c (by omega), if_leT c (by omega), if_pos c]; rfl
            · rw [if_leF (by omega) (by omega), if_leF (by omega) (by omega), if_neg c]; rfl
      · show nX7_watch_l30 (nI p) mk (bsF g N).1 (if N = 0 then (1000000 : Int32) else nI (bsF g N).2) (nI N) T M = _
        unfold nX7_watch_l30
        by_cases c : N < 40
        · have c0 : mk = 0 := by
            rcases Classical.em (mk = 0) with h | h
            · exact h
            · rw [hN, if_neg h] at c; omega
          rw [show (40 : Int32) = nI 40 from rfl, if_leF c (by decide), if_pos (show mk ≤ 0 from by rw [hle0]; exact c0)]; rfl
        · rw [show (40 : Int32) = nI 40 from rfl, if_leT (by omega) (by omega)]; rfl
  · refine ⟨-2, _, _, ?_, ?_, R_bad 0 (by decide) hR0⟩
    · unfold nX6_watch
      rw [isPerson_out v0' b1 h1, b1_some, if_pos rfl, bad6]; rfl
    · unfold nX7_watch
      rw [isOne7_out t0 b1 h1, b1_some, if_pos rfl, bad7]; rfl
