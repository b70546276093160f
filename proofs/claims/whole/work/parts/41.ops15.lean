/-! the least coat -/
def fsF (B : Nat → Bool) : Nat → Nat → Nat
  | 0, i => i
  | N + 1, i => if B i = true then i else fsF B N (i + 1)
theorem fsF_spec (B : Nat → Bool) : ∀ N i, i ≤ fsF B N i ∧ fsF B N i ≤ i + N ∧ (∀ j, i ≤ j → j < fsF B N i → B j = false) ∧ (fsF B N i < i + N → B (fsF B N i) = true)
  | 0, i => ⟨Nat.le_refl i, Nat.le_refl i, fun j h1 h2 => by have : fsF B 0 i = i := rfl; omega, fun h => by have : fsF B 0 i = i := rfl; omega⟩
  | N + 1, i => by
    show i ≤ (if B i = true then i else fsF B N (i + 1)) ∧ (if B i = true then i else fsF B N (i + 1)) ≤ i + (N + 1) ∧ (∀ j, i ≤ j → j < (if B i = true then i else fsF B N (i + 1)) → B j = false) ∧ ((if B i = true then i else fsF B N (i + 1)) < i + (N + 1) → B (if B i = true then i else fsF B N (i + 1)) = true)
    by_cases h : B i = true
    · rw [if_pos h]
      exact ⟨Nat.le_refl i, by omega, fun j h1 h2 => by omega, fun _ => h⟩
    · rw [if_neg h]
      obtain ⟨a1, a2, a3, a4⟩ := fsF_spec B N (i + 1)
      refine ⟨by omega, by omega, fun j h1 h2 => ?_, fun h3 => a4 (by omega)⟩
      rcases Nat.eq_or_lt_of_le h1 with q | q
      · rw [← q]; exact Bool.eq_false_iff.mpr h
      · exact a3 j q h2
theorem w_again (S : Nat → Nat → Int32) (c k : Nat) (x y : Int32) : k_w (k_w S c k x) c k y = k_w S c k y := by
  funext i
  by_cases h : i = c
  · subst h
    rw [w_eq, w_eq, w_eq]
    funext j
    unfold upd
    by_cases q : j = k
    · rw [if_pos q, if_pos q]
    · rw [if_neg q, if_neg q, if_neg q]
  · rw [w_ne _ _ h, w_ne _ _ h, w_ne _ _ h]
def wrW (S : Nat → Nat → Int32) (c p : Nat) (i : Nat) : Nat → Nat → Int32 := if i = 0 then S else k_w S c p (nI (i - 1))
theorem wrW_s (S : Nat → Nat → Int32) (c p i : Nat) : k_w (wrW S c p i) c p (nI i) = wrW S c p (i + 1) := by
  unfold wrW
  rw [if_neg (Nat.succ_ne_zero i), Nat.add_sub_cancel]
  by_cases h : i = 0
  · rw [if_pos h]
  · rw [if_neg h, w_again]
theorem wrW_o {S : Nat → Nat → Int32} {c p i z : Nat} (h : z ≠ c) : wrW S c p i z = S z := by
  unfold wrW
  by_cases q : i = 0
  · rw [if_pos q]
  · rw [if_neg q, w_ne _ _ h]
theorem wrW_at (S : Nat → Nat → Int32) (c p i j : Nat) : wrW S c p (i + 1) c j = if j = p then nI i else S c j := by
  unfold wrW
  rw [if_neg (Nat.succ_ne_zero i), Nat.add_sub_cancel, w_eq]
  rfl
def wrC (t : Nat → Int32) (p i : Nat) : Nat → Int32 := fun j => if j = p then nI i else t (15 + j)
theorem op_wears : k_op_wears k_R := by
  intro S L T M p1 p2 p3 hR
  have hR0 := hR
  obtain ⟨⟨n, m, un, uc, up, d, hv⟩, -⟩ := hR
  have hv0 := hv
  obtain ⟨⟨t0, t1, t2, t3, t4, t22⟩, ⟨b1, b2, b3, b4, b5, b6⟩, ⟨v0, v1, v2, v3, v4, v5⟩, hp, hnd, hth, -⟩ := hv
  have v0' : S 1 12 = nI n := v0
  have v1' : S 1 13 = nI m := v1
  by_cases h1 : pz p1 n
  · by_cases h2 : pz p2 m
    · by_cases h3 : pz p3 2
      · obtain ⟨p, hpn, rfl⟩ := h1
        obtain ⟨k, hk, rfl⟩ := h2
        obtain ⟨j3, hj3, rfl⟩ := h3
        obtain ⟨g5, g6, g7, g8, g9, -, gs, -, ⟨q, hq, eq⟩, -⟩ := hth k hk
        have g8' : S 9 k = nI q := g8.trans eq
        have e5 : (5 : Int32) + nI k = nI (5 + k) := nI_add 5 k
        by_cases c : q = p
        · subst c
          refine ⟨-1, S, T, ?_, ?_, hR0⟩
          · unfold nX6_wears
            rw [isPerson_in v0' b1 (z_nI hpn), b1_some, if_neg (by decide), isThing_in v1' b2 (z_nI hk), b1_some, if_neg (by decide), upTo_inK 2 (by decide) 2 rfl (z_nI hj3), b1_some, if_neg (by decide), if_ok (show k < 5 by omega) (by decide), nI_clamp (by omega), if_pos g8']
          · unfold nX7_wears
            rw [isOne7_in t0 b1 (z_nI hpn), b1_some, if_neg (by decide), isThing7_in t1 b2 (z_nI hk), b1_some, if_neg (by decide), in_inK 2 (by decide) 1 (by decide) (z_nI hj3), b1_some, if_neg (by decide), e5, if_ok (show 5 + k < 284 by omega) (by decide), nI_clamp (by omega), if_pos eq.symm]
        · obtain ⟨S0, hS0⟩ : ∃ S0, S0 = k_sp S 17 16 (cpV (k_wi S 17) (k_wi S 1)) := ⟨_, rfl⟩
          obtain ⟨B, hB⟩ : ∃ B : Nat → Bool, B = fun i => decide ((nxF n (T 1) (wrC (T 1) p i) k q = nI p) = (j3 = 1)) := ⟨_, rfl⟩
          obtain ⟨-, f2, f3, f4⟩ := fsF_spec B 10 0
          obtain ⟨z, hz⟩ : ∃ z, z = fsF B 10 0 := ⟨_, rfl⟩
          rw [← hz] at f2 f3 f4
          have hne : ¬ nI q = nI p := fun e => c ((nI_eq (show q < 2 ^ 31 by omega) (show p < 2 ^ 31 by omega)).mp e)
          have hv17 : ∀ i, i < 16 → S0 (17 + i) = cpV (k_wi S 17) (k_wi S 1) i := fun i hi => by rw [hS0, sp_in (by omega) (by omega), Nat.add_sub_cancel_left]
          have hvc := vr_copy (W := k_wi S 17) hv0
          obtain ⟨-, -, ⟨w0, w1, w2, w3, w4, w5⟩, hp', hnd', hth', -⟩ := hvc
          have hn6 : ∀ i, nX5_nextOf (k_wi (wrW S0 20 p (i + 1)) 17) (nI k) (nI q) = some (nxF n (T 1) (wrC (T 1) p i) k q) := by
            intro i
            have hw : ∀ c, c < 16 → c ≠ 3 → k_wi (wrW S0 20 p (i + 1)) 17 c = cpV (k_wi S 17) (k_wi S 1) c := by
              intro c hc h3
              rw [wi_at, wrW_o (by omega), hv17 c hc]
            refine X5_nextOf_spec b1 (by omega) hq (by rw [hw 0 (by decide) (by decide)]; exact w0) (fun y hy => by rw [hw 1 (by decide) (by decide)]; exact (hp' y hy).1) (fun y hy => by rw [hw 2 (by decide) (by decide)]; exact (hp' y hy).2.1) (fun y hy => ?_) (fun y hy => by rw [hw 4 (by decide) (by decide)]; exact (hnd' y hy).1) (by rw [hw 5 (by decide) (by decide)]; exact (hth' k hk).1) (by rw [hw 6 (by decide) (by decide)]; exact (hth' k hk).2.1) (by rw [hw 0 (by decide) (by decide), w5, t22]) (fun y hy => (hp y hy).2.2.2.2.1) gs
            show wrW S0 20 p (i + 1) 20 y = wrC (T 1) p i y
            rw [wrW_at]
            unfold wrC
            by_cases qy : y = p
            · rw [if_pos qy, if_pos qy]
            · rw [if_neg qy, if_neg qy, show (20 : Nat) = 17 + 3 from rfl, hv17 3 (by decide)]
              exact (hp' y hy).2.2.1
          have hh6 : ∀ i, wrW S0 20 p (i + 1) 25 k = nI q := by
            intro i
            rw [wrW_o (by decide), show (25 : Nat) = 17 + 8 from rfl, hv17 8 (by decide)]
            exact (hth' k hk).2.2.2.1.trans eq
          have el : ∀ i, wrW (lcF T 1 n) 5 p i 1 = T 1 := fun i => by rw [wrW_o (by decide), lcF_ne (by decide)]
          have hn7 : ∀ i, i < 10 → nX7_comesNow (wrW (lcF T 1 n) 5 p (i + 1)) M (nI k) (nI q) = some (nxF n (T 1) (wrC (T 1) p i) k q) := by
            intro i hi
            have e5' : ∀ y, y < n → wrW (lcF T 1 n) 5 p (i + 1) 5 y = wrC (T 1) p i y := by
              intro y hy
              rw [wrW_at, lcF_5]
              unfold wrC
              by_cases qy : y = p
              · rw [if_pos qy, if_pos qy]
              · rw [if_neg qy, if_neg qy]
                simp only [if_pos hy]
            rw [X7_comesNow_spec b1 (by omega) hq (by rw [el]; exact t0) (fun y hy => by rw [el]; exact (hp y hy).2.2.2.2.1) (fun y hy => by rw [el]; exact (hnd y hy).2) (fun y hy => by
              rw [e5' y hy]
              unfold wrC
              by_cases qy : y = p
              · rw [if_pos qy]; exact z_nI hi
              · rw [if_neg qy]; exact (hp y hy).2.2.2.2.2) (by rw [el]; exact gs), el]
            rw [nxF_congr gs hq e5']
          have hBt : ∀ i, B i = true → (nxF n (T 1) (wrC (T 1) p i) k q = nI p) = (j3 = 1) := fun i h => by rw [hB] at h; exact of_decide_eq_true h
          have hBf : ∀ i, B i = false → ¬ (nxF n (T 1) (wrC (T 1) p i) k q = nI p) = (j3 = 1) := fun i h => by rw [hB] at h; exact of_decide_eq_false h
          have s6 : ∀ i, i < 10 → nX6_wears_l58 (nI p) (nI k) (nI j3) (nI i) (wrW S0 20 p i) L = if B i = true then some (.inr (nI i, wrW S0 20 p (i + 1))) else some (.inl (nI (i + 1), wrW S0 20 p (i + 1))) := by
            intro i hi
            unfold nX6_wears_l58 nX6_wears_i58_j102 nX6_wears_i58_j116
            rw [show (10 : Int32) = nI 10 from rfl, if_leF hi (by decide), if_ok (show p < 7 by omega) (by decide), if_ok (show k < 5 by omega) (by decide), nI_clamp (show p < 2 ^ 31 by omega), nI_clamp (show k < 2 ^ 31 by omega), wrW_s, hh6, hn6, b1_some, nI_1 i]
            rcases (show j3 = 0 ∨ j3 = 1 by omega) with rfl | rfl
            · by_cases cx : nxF n (T 1) (wrC (T 1) p i) k q = nI p
              · have eB : B i = false := by rw [hB]; exact decide_eq_false (fun h => absurd (h ▸ cx) (by decide))
                rw [if_pos cx, if_neg (by decide), if_neg (by decide), if_neg (by rw [eB]; decide)]
              · have eB : B i = true := by rw [hB]; exact decide_eq_true (propext ⟨fun h => absurd h cx, fun h => absurd h (by decide)⟩)
                rw [if_neg cx, if_neg (by decide), if_pos rfl, if_pos eB]; rfl
            · by_cases cx : nxF n (T 1) (wrC (T 1) p i) k q = nI p
              · have eB : B i = true := by rw [hB]; exact decide_eq_true (propext ⟨fun _ => rfl, fun _ => cx⟩)
                rw [if_pos cx, if_pos (by decide), if_pos rfl, if_pos eB]; rfl
              · have eB : B i = false := by rw [hB]; exact decide_eq_false (fun h => cx (h.symm ▸ rfl))
                rw [if_neg cx, if_pos (by decide), if_neg (by decide), if_neg (by rw [eB]; decide)]
          have s7 : ∀ i, i < 10 → nX7_wears_l58 (nI p) (nI k) (nI j3) (nI i) (wrW (lcF T 1 n) 5 p i) M = if B i = true then some (.inr (nI i, wrW (lcF T 1 n) 5 p (i + 1))) else some (.inl (nI (i + 1), wrW (lcF T 1 n) 5 p (i + 1))) := by
            intro i hi
            unfold nX7_wears_l58 nX7_wears_i58_j95 nX7_wears_i58_j109
            rw [show (10 : Int32) = nI 10 from rfl, if_leF hi (by decide), if_ok (show p < 7 by omega) (by decide), e5, if_ok (show 5 + k < 284 by omega) (by decide), nI_clamp (show p < 2 ^ 31 by omega), nI_clamp (show 5 + k < 2 ^ 31 by omega), wrW_s, el, eq, hn7 i hi, b1_some, nI_1 i]
            rcases (show j3 = 0 ∨ j3 = 1 by omega) with rfl | rfl
            · by_cases cx : nxF n (T 1) (wrC (T 1) p i) k q = nI p
              · have eB : B i = false := by rw [hB]; exact decide_eq_false (fun h => absurd (h ▸ cx) (by decide))
                rw [if_pos cx, if_neg (by decide), if_neg (by decide), if_neg (by rw [eB]; decide)]
              · have eB : B i = true := by rw [hB]; exact decide_eq_true (propext ⟨fun h => absurd h cx, fun h => absurd h (by decide)⟩)
                rw [if_neg cx, if_neg (by decide), if_pos rfl, if_pos eB]; rfl
            · by_cases cx : nxF n (T 1) (wrC (T 1) p i) k q = nI p
              · have eB : B i = true := by rw [hB]; exact decide_eq_true (propext ⟨fun _ => rfl, fun _ => cx⟩)
                rw [if_pos cx, if_pos (by decide), if_pos rfl, if_pos eB]; rfl
              · have eB : B i = false := by rw [hB]; exact decide_eq_false (fun h => cx (h.symm ▸ rfl))
                rw [if_neg cx, if_pos (by decide), if_neg (by decide), if_neg (by rw [eB]; decide)]
          refine ⟨if z < 10 then nI z else -1, if z < 10 then wrW S0 20 p (z + 1) else wrW S0 20 p z, if z < 10 then wrW (lcF T 1 n) 5 p (z + 1) else wrW (lcF T 1 n) 5 p z, ?_, ?_, ?_⟩
          · unfold nX6_wears
            rw [isPerson_in v0' b1 (z_nI hpn), b1_some, if_neg (by decide), isThing_in v1' b2 (z_nI hk), b1_some, if_neg (by decide), upTo_inK 2 (by decide) 2 rfl (z_nI hj3), b1_some, if_neg (by decide), if_ok (show k < 5 by omega) (by decide), nI_clamp (by omega), g8', if_neg hne, X5_copyOf_spec, b1_some, ← hS0]
            refine it_for (fun i => (nI i, wrW S0 20 p i)) z (by omega) (fun i hi => ?_) ?_
            · exact (s6 i (by omega)).trans (if_neg (by rw [f3 i (Nat.zero_le i) hi]; decide))
            · show nX6_wears_l58 (nI p) (nI k) (nI j3) (nI z) (wrW S0 20 p z) L = _
              by_cases cz : z < 10
              · rw [s6 z cz, if_pos (f4 (by omega)), if_pos cz, if_pos cz]
              · rw [if_neg cz, if_neg cz]
                unfold nX6_wears_l58
                rw [show (10 : Int32) = nI 10 from rfl, if_leT (by omega) (by omega)]
                rfl
          · unfold nX7_wears
            rw [isOne7_in t0 b1 (z_nI hpn), b1_some, if_neg (by decide), isThing7_in t1 b2 (z_nI hk), b1_some, if_neg (by decide), in_inK 2 (by decide) 1 (by decide) (z_nI hj3), b1_some, if_neg (by decide), e5, if_ok (show 5 + k < 284 by omega) (by decide), nI_clamp (by omega), eq, if_neg (fun e => hne e.symm), X7_layCoats_1_spec b1 t0, b1_some]
            refine it_for (fun i => (nI i, wrW (lcF T 1 n) 5 p i)) z (by omega) (fun i hi => ?_) ?_
            · exact (s7 i (by omega)).trans (if_neg (by rw [f3 i (Nat.zero_le i) hi]; decide))
            · show nX7_wears_l58 (nI p) (nI k) (nI j3) (nI z) (wrW (lcF T 1 n) 5 p z) M = _
              by_cases cz : z < 10
              · rw [s7 z cz, if_pos (f4 (by omega)), if_pos cz, if_pos cz]
              · rw [if_neg cz, if_neg cz]
                unfold nX7_wears_l58
                rw [show (10 : Int32) = nI 10 from rfl, if_leT (by omega) (by omega)]
                rfl
          · have hc : ∀ (y : Nat), k_R (wrW S0 20 p y) L (wrW (lcF T 1 n) 5 p y) M := fun y => R_congr (fun c hc => by rw [wrW_o (by omega), hS0, sp_out (by omega)]) (by rw [wrW_o (by decide), hS0, sp_out (by decide)]) (fun c hc => by rw [wrW_o (by omega), lcF_ne (by omega)]) (by rw [wrW_o (by decide), lcF_ne (by decide)]) ⟨rfl, rfl⟩ ⟨rfl, rfl⟩ hR0
            by_cases cz : z < 10
            · rw [if_pos cz, if_pos cz]; exact hc _
            · rw [if_neg cz, if_neg cz]; exact hc _
      · refine ⟨-2, _, _, ?_, ?_, R_bad 0 (by decide) hR0⟩
        · unfold nX6_wears nX6_wears_j24
          rw [isPerson_in v0' b1 h1, b1_some, if_neg (by decide), isThing_in v1' b2 h2, b1_some, if_neg (by decide), upTo_outK 2 (by decide) 2 rfl h3, b1_some, if_pos rfl, bad6]; rfl
        · unfold nX7_wears nX7_wears_j26
          rw [isOne7_in t0 b1 h1, b1_some, if_neg (by decide), isThing7_in t1 b2 h2, b1_some, if_neg (by decide), in_outK 2 (by decide) 1 (by decide) h3, b1_some, if_pos rfl, bad7]; rfl
    · refine ⟨-2, _, _, ?_, ?_, R_bad 0 (by decide) hR0⟩
      · unfold nX6_wears nX6_wears_j24
        rw [isPerson_in v0' b1 h1, b1_some, if_neg (by decide), isThing_out v1' b2 h2, b1_some, if_pos rfl, bad6]; rfl
      · unfold nX7_wears nX7_wears_j26
        rw [isOne7_in t0 b1 h1, b1_some, if_neg (by decide), isThing7_out t1 b2 h2, b1_some, if_pos rfl, bad7]; rfl
  · refine ⟨-2, _, _, ?_, ?_, R_bad 0 (by decide) hR0⟩
    · unfold nX6_wears nX6_wears_j24
      rw [isPerson_out v0' b1 h1, b1_some, if_pos rfl, bad6]; rfl
    · unfold nX7_wears nX7_wears_j26
      rw [isOne7_out t0 b1 h1, b1_some, if_pos rfl, bad7]; rfl
