/-! where it ends: a ring, or the boundary -/
theorem php : ∀ (n : Nat) (f : Nat → Nat) (k : Nat), (∀ i, i < k → f i < n) → (∀ i j, i < j → j < k → f i ≠ f j) → k ≤ n
  | 0, f, k, h, _ => by
    rcases Nat.eq_zero_or_pos k with q | q
    · omega
    · exact absurd (h 0 q) (Nat.not_lt_zero _)
  | n + 1, f, k, h, hi => by
    rcases (show k = 0 ∨ ∃ k', k = k' + 1 from by cases k with | zero => exact Or.inl rfl | succ u => exact Or.inr ⟨u, rfl⟩) with q | ⟨k', q⟩
    · omega
    · subst q
      have ih := php n (fun i => if f i = n then f k' else f i) k' (fun i hik => by
        show (if f i = n then f k' else f i) < n
        have h1 := h i (by omega)
        have h2 := h k' (by omega)
        have h3 := hi i k' hik (by omega)
        by_cases c : f i = n
        · rw [if_pos c]; omega
        · rw [if_neg c]; omega) (fun i j hij hj => by
        show (if f i = n then f k' else f i) ≠ (if f j = n then f k' else f j)
        have h3 := hi i k' (by omega) (by omega)
        have h4 := hi j k' (by omega) (by omega)
        have h5 := hi i j hij (by omega)
        by_cases c : f i = n
        · rw [if_pos c]
          by_cases c2 : f j = n
          · exact absurd (c.trans c2.symm) h5
          · rw [if_neg c2]; exact fun e => h4 e.symm
        · rw [if_neg c]
          by_cases c2 : f j = n
          · rw [if_pos c2]; exact h3
          · rw [if_neg c2]; exact h5)
      omega
/-- the first place of x among the first i of f, or i -/
def ixF (f : Nat → Int32) (x : Int32) (i : Nat) : Nat := fsF (fun j => decide (f j = x)) i 0
theorem ixF_le (f : Nat → Int32) (x : Int32) (i : Nat) : ixF f x i ≤ i := by
  have := (fsF_spec (fun j => decide (f j = x)) i 0).2.1
  unfold ixF; omega
theorem ixF_hit {f : Nat → Int32} {x : Int32} {i : Nat} (h : ixF f x i < i) : f (ixF f x i) = x := by
  have := (fsF_spec (fun j => decide (f j = x)) i 0).2.2.2
  exact of_decide_eq_true (this (by unfold ixF at h; omega))
theorem ixF_miss {f : Nat → Int32} {x : Int32} {i j : Nat} (h : j < ixF f x i) : ¬ f j = x := by
  have := (fsF_spec (fun j => decide (f j = x)) i 0).2.2.1 j (Nat.zero_le j) h
  exact of_decide_eq_false this
theorem X6_placeIn_spec {V : Nat → Nat → Int32} {i : Nat} (hi : i ≤ 8) (x : Int32) : nX6_placeIn 8 V (nI i) x = some (if ixF (V 0) x i < i then nI (ixF (V 0) x i) else -1) := by
  unfold nX6_placeIn
  have hle := ixF_le (V 0) x i
  refine it_for (fun j => nI j) (ixF (V 0) x i) (by omega) (fun j hj => ?_) ?_
  · show nX6_placeIn_l2 8 (nI i) x (nI j) V = _
    unfold nX6_placeIn_l2
    rw [if_leF (show j < i by omega) (by omega), show (Int32.ofNat 8) = nI 8 from rfl, if_leF (show j < 8 by omega) (by decide), if_ok (show j < 8 by omega) (by decide), nI_clamp (by omega), if_neg (ixF_miss hj), nI_1]
  · show nX6_placeIn_l2 8 (nI i) x (nI (ixF (V 0) x i)) V = _
    unfold nX6_placeIn_l2
    by_cases c : ixF (V 0) x i < i
    · rw [if_leF c (by omega), show (Int32.ofNat 8) = nI 8 from rfl, if_leF (show ixF (V 0) x i < 8 by omega) (by decide), if_ok (show ixF (V 0) x i < 8 by omega) (by decide), nI_clamp (by omega), if_pos (ixF_hit c), if_pos c]
      rfl
    · rw [if_leT (by omega) (by omega), if_neg c]
      rfl
theorem ixF_congr {f g : Nat → Int32} {x : Int32} {i : Nat} (h : ∀ j, j < i → f j = g j) : ixF f x i = ixF g x i := by
  have h1 := ixF_le f x i
  have h2 := ixF_le g x i
  rcases Nat.lt_trichotomy (ixF f x i) (ixF g x i) with q | q | q
  · have a := ixF_hit (f := f) (x := x) (i := i) (by omega)
    exact absurd ((h _ (by omega)).symm.trans a) (ixF_miss q)
  · exact q
  · have a := ixF_hit (f := g) (x := x) (i := i) (by omega)
    exact absurd ((h _ (by omega)).trans a) (ixF_miss q)
/-- the walk goes on at i: somebody who didn't have it yet -/
def rgB (f : Nat → Int32) (i : Nat) : Bool := decide (¬ (f i = -1) ∧ ixF f (f i) i = i)
theorem op_ring : k_op_ring k_R := by
  intro S L T M p1 p2 hR
  have hR0 := hR
  obtain ⟨⟨n, m, un, uc, up, d, hv⟩, -⟩ := hR
  have hv0 := hv
  obtain ⟨⟨t0, t1, t2, t3, t4, t22⟩, ⟨b1, b2, b3, b4, b5, b6⟩, ⟨v0, v1, v2, v3, v4, v5⟩, hp, hnd, hth, -⟩ := hv
  have v1' : S 1 13 = nI m := v1
  by_cases h1 : pz p1 m
  · by_cases h2 : pz p2 2
    · obtain ⟨k, hk, rfl⟩ := h1
      obtain ⟨j2, hj2, rfl⟩ := h2
      obtain ⟨g5, g6, g7, g8, g9, -, gs, -, ⟨q, hq, eq⟩, -⟩ := hth k hk
      have g8' : S 9 k = nI q := g8.trans eq
      have e5 : (5 : Int32) + nI k = nI (5 + k) := nI_add 5 k
      obtain ⟨f, hf⟩ : ∃ f, f = fun i => wkF n (T 1) (fun p => T 1 (15 + p)) k (nI q) i := ⟨_, rfl⟩
      have f0 : f 0 = nI q := by rw [hf]; rfl
      have fin : ∀ i, f i = -1 ∨ ∃ j, j < n ∧ f i = nI j := fun i => by rw [hf]; exact wkF_in b1 hq i
      have fs : ∀ i j, f i = nI j → j < n → f (i + 1) = nxF n (T 1) (fun p => T 1 (15 + p)) k j := by
        intro i j e hj
        have e' : wkF n (T 1) (fun p => T 1 (15 + p)) k (nI q) i = nI j := by rw [hf] at e; exact e
        rw [hf]
        show wkF n (T 1) (fun p => T 1 (15 + p)) k (nI q) (i + 1) = _
        rw [wkF_s, e', if_n1 (by omega), nI_clamp (by omega)]
      obtain ⟨-, z2, z3, z4⟩ := fsF_spec (fun i => !rgB f i) 8 0
      obtain ⟨z, hz⟩ : ∃ z, z = fsF (fun i => !rgB f i) 8 0 := ⟨_, rfl⟩
      rw [← hz] at z2 z3 z4
      have zg : ∀ i, i < z → (¬ f i = -1) ∧ ixF f (f i) i = i := by
        intro i hi
        have := z3 i (Nat.zero_le i) hi
        have h' : rgB f i = true := by
          have t : (!rgB f i) = false := this
          cases hr : rgB f i with
          | true => rfl
          | false => rw [hr] at t; exact absurd t (by decide)
        exact of_decide_eq_true h'
      have zj : ∀ i, i < z → ∃ j, j < n ∧ f i = nI j := fun i hi => (fin i).resolve_left (zg i hi).1
      have z7 : z ≤ 7 := by
        have hk := php n (fun i => (f i).toNatClampNeg) z (fun i hi => by
          obtain ⟨j, hj, e⟩ := zj i hi
          show (f i).toNatClampNeg < n
          rw [e, nI_clamp (by omega)]; exact hj) (fun i j hij hj => by
          obtain ⟨a, ha, ea⟩ := zj i (by omega)
          obtain ⟨b, hb, eb⟩ := zj j hj
          show (f i).toNatClampNeg ≠ (f j).toNatClampNeg
          rw [ea, eb, nI_clamp (by omega), nI_clamp (by omega)]
          intro e
          have hx := (zg j hj).2
          have hm : ¬ f i = f j := ixF_miss (f := f) (x := f j) (i := j) (j := i) (by omega)
          exact hm (by rw [ea, eb, e]))
        omega
      have zend : f z = -1 ∨ ixF f (f z) z < z := by
        have h4 : (!rgB f z) = true := z4 (by omega)
        by_cases c : f z = -1
        · exact Or.inl c
        · right
          by_cases c2 : ixF f (f z) z = z
          · have : rgB f z = true := decide_eq_true ⟨c, c2⟩
            rw [this] at h4; exact absurd h4 (by decide)
          · have := ixF_le f (f z) z
            omega
      -- the class's states
      obtain ⟨G, hG⟩ : ∃ G : Nat → Nat → Nat → Int32, G = fun i => k_r S 77 (fun j => if j < i then f j else S 77 j) := ⟨_, rfl⟩
      have G77 : ∀ i j, G i 77 j = if j < i then f j else S 77 j := fun i j => by rw [hG]; show k_r S 77 _ 77 j = _; rw [r_eq]
      have Go : ∀ i c, c ≠ 77 → G i c = S c := fun i c hc => by rw [hG]; exact r_ne _ hc
      have G0 : G 0 = S := by
        funext c
        by_cases h : c = 77
        · subst h; funext j; rw [G77, if_neg (by omega)]
        · rw [Go 0 c h]
      have Gs : ∀ i, k_w (G i) 77 i (f i) = G (i + 1) := by
        intro i
        funext c
        by_cases h : c = 77
        · subst h
          rw [w_eq]
          funext j
          show (if j = i then f i else G i 77 j) = G (i + 1) 77 j
          rw [G77, G77]
          by_cases q1 : j = i
          · subst q1; rw [if_pos rfl, if_pos (by omega)]
          · rw [if_neg q1]
            by_cases q2 : j < i
            · rw [if_pos q2, if_pos (by omega)]
            · rw [if_neg q2, if_neg (by omega)]
        · rw [w_ne _ _ h, Go i c h, Go (i + 1) c h]
      have hGv : ∀ i, vr (k_wi (G i) 1) (T 1) n m un uc up d 9999 := fun i => vr_congr (fun c hc => by rw [wi_at, wi_at, Go i (1 + c) (by omega)]) (fun _ _ => rfl) hv0
      -- the position told behind step i
      obtain ⟨P, hP⟩ : ∃ P : Nat → Int32, P = fun i => if ixF f (f i) i < i then nI (ixF f (f i) i) else -1 := ⟨_, rfl⟩
      have hPi : ∀ i, P i = if ixF f (f i) i < i then nI (ixF f (f i) i) else -1 := fun i => by rw [hP]
      have P0 : P 0 = -1 := by rw [hPi, if_neg (by omega)]
      have Pg : ∀ i, i < z → P i = -1 := fun i hi => by rw [hPi, if_neg (by rw [(zg i hi).2]; omega)]
      obtain ⟨r, hr⟩ : ∃ r : Int32, r = if j2 = 0 then nI z else if f z = -1 then 0 else nI (z - ixF f (f z) z) := ⟨_, rfl⟩
      have hn1 : ¬ ((-1 : Int32) < 0 → False) := fun h => h (by decide)
      have hm1 : ∀ i, i < z → f i ≠ -1 := fun i hi => (zg i hi).1
      have fzn : f z = -1 → ¬ ixF f (f z) z < z := by
        intro e hlt
        exact hm1 _ hlt ((ixF_hit hlt).trans e)
      -- the reference's states
      obtain ⟨H, hH⟩ : ∃ H : Nat → Nat → Nat → Int32, H = fun i => k_r (lcF T 1 n) 6 (fun j => if j < n then (if ixF f (nI j) i < i then nI (ixF f (nI j) i) else -1) else lcF T 1 n 6 j) := ⟨_, rfl⟩
      have H6 : ∀ i j, j < n → H i 6 j = if ixF f (nI j) i < i then nI (ixF f (nI j) i) else -1 := fun i j hj => by rw [hH]; show k_r (lcF T 1 n) 6 _ 6 j = _; rw [r_eq]; exact if_pos hj
      have H6o : ∀ i j, ¬ j < n → H i 6 j = lcF T 1 n 6 j := fun i j hj => by rw [hH]; show k_r (lcF T 1 n) 6 _ 6 j = _; rw [r_eq]; exact if_neg hj
      have Ho : ∀ i c, c ≠ 6 → H i c = lcF T 1 n c := fun i c hc => by rw [hH]; exact r_ne _ hc
      have ixs : ∀ i (j : Nat), i < z → j < n → (if ixF f (nI j) (i + 1) < i + 1 then nI (ixF f (nI j) (i + 1)) else (-1 : Int32)) = if f i = nI j then nI i else (if ixF f (nI j) i < i then nI (ixF f (nI j) i) else -1) := by
        intro i j hi hj
        have l1 := ixF_le f (nI j) i
        have l2 := ixF_le f (nI j) (i + 1)
        by_cases c : f i = nI j
        · rw [if_pos c]
          have hx := (zg i hi).2
          rw [c] at hx
          have e : ixF f (nI j) (i + 1) = i := by
            rcases Nat.lt_trichotomy (ixF f (nI j) (i + 1)) i with q1 | q1 | q1
            · exact absurd (ixF_hit (f := f) (x := nI j) (i := i + 1) (by omega)) (ixF_miss (f := f) (x := nI j) (i := i) (by omega))
            · exact q1
            · exact absurd c (ixF_miss (f := f) (x := nI j) (i := i + 1) (j := i) (by omega))
          rw [e, if_pos (by omega)]
        · rw [if_neg c]
          by_cases c2 : ixF f (nI j) i < i
          · have e : ixF f (nI j) (i + 1) = ixF f (nI j) i := by
              rcases Nat.lt_trichotomy (ixF f (nI j) (i + 1)) (ixF f (nI j) i) with q1 | q1 | q1
              · exact absurd (ixF_hit (f := f) (x := nI j) (i := i + 1) (by omega)) (ixF_miss q1)
              · exact q1
              · exact absurd (ixF_hit c2) (ixF_miss q1)
            rw [e, if_pos (by omega), if_pos c2]
          · have e : ¬ ixF f (nI j) (i + 1) < i + 1 := by
              intro hlt
              have hh := ixF_hit hlt
              rcases Nat.lt_trichotomy (ixF f (nI j) (i + 1)) i with q1 | q1 | q1
              · exact absurd hh (ixF_miss (f := f) (x := nI j) (i := i) (by omega))
              · rw [q1] at hh; exact c hh
              · omega
            rw [if_neg e, if_neg c2]
      have Hs : ∀ i j, i < z → j < n → f i = nI j → k_w (H i) 6 j (nI i) = H (i + 1) := by
        intro i j hi hj e
        funext c
        by_cases h : c = 6
        · subst h
          rw [w_eq]
          funext y
          show (if y = j then nI i else H i 6 y) = H (i + 1) 6 y
          by_cases hy : y < n
          · rw [H6 i y hy, H6 (i + 1) y hy, ixs i y hi hy]
            by_cases qy : y = j
            · subst qy; rw [if_pos rfl, if_pos e]
            · rw [if_neg qy, if_neg (show ¬ f i = nI y from fun e2 => qy ((nI_eq (show y < 2 ^ 31 by omega) (show j < 2 ^ 31 by omega)).mp (e2.symm.trans e)))]
          · rw [H6o i y hy, H6o (i + 1) y hy, if_neg (by omega)]
        · rw [w_ne _ _ h, Ho i c h, Ho (i + 1) c h]
      have hHv : ∀ i j, j < n → nX7_comesNow (H i) M (nI k) (nI j) = some (nxF n (T 1) (fun p => T 1 (15 + p)) k j) := by
        intro i j hj
        have e1 : H i 1 = T 1 := by rw [Ho i 1 (by decide), lcF_ne (by decide)]
        have e5' : H i 5 = lcF T 1 n 5 := Ho i 5 (by decide)
        rw [X7_comesNow_spec b1 (by omega) hj (by rw [e1]; exact t0) (fun y hy => by rw [e1]; exact (hp y hy).2.2.2.2.1) (fun y hy => by rw [e1]; exact (hnd y hy).2) (fun y hy => by rw [e5', lcF_5]; simp only [if_pos hy]; exact (hp y hy).2.2.2.2.2) (by rw [e1]; exact gs), e1, e5', lcF_5]
        rw [nxF_congr (ct' := fun p => T 1 (15 + p)) gs hj (fun p hp' => by simp only [if_pos hp'])]
      refine ⟨r, G z, H z, ?_, ?_, ?_⟩
      · unfold nX6_ring
        rw [isThing_in v1' b2 (z_nI hk), b1_some, if_neg (by decide), upTo_inK 2 (by decide) 2 rfl (z_nI hj2), b1_some, if_neg (by decide), if_ok (show k < 5 by omega) (by decide), nI_clamp (by omega), g8', show ((0 : Int32), nI q, (-1 : Int32), S) = (nI 0, f 0, P 0, G 0) from by rw [f0, P0, G0]; rfl]
        have hend : nX6_ring_j93 (nI j2) (nI z) (P z) (G z) L = some (r, G z) := by
          unfold nX6_ring_j93
          rw [hr, hPi]
          rcases (show j2 = 0 ∨ j2 = 1 by omega) with rfl | rfl
          · rw [if_pos (by decide), if_pos rfl]
          · rw [if_neg (show ¬ nI 1 = 0 by decide), if_neg (show ¬ (1 : Nat) = 0 by decide)]
            by_cases c : f z = -1
            · rw [if_pos c, if_neg (fzn c), if_pos rfl]
            · have hlt := zend.resolve_left c
              rw [if_neg c, if_pos hlt, if_n1 (by omega), pk_sub (by omega)]
        refine it_for (fun i => (nI i, f i, P i, G i)) z (by omega) (fun i hi => ?_) ?_
        · show nX6_ring_l37 (nI k) (nI j2) (nI i) (f i) (P i) (G i) L = _
          obtain ⟨j, hj, ej⟩ := zj i hi
          unfold nX6_ring_l37
          rw [show (7 : Int32) = nI 7 from rfl, if_leF (show i < 7 by omega) (by decide), if_neg (hm1 i hi), if_pos (Pg i hi), if_ok (show i < 8 by omega) (by decide), nI_clamp (by omega), Gs, ej, next6 (hGv (i + 1)) hk hj, b1_some, nI_1, ← fs i j ej hj, X6_placeIn_spec (V := k_wi (G (i + 1)) 77) (show i + 1 ≤ 8 by omega), b1_some, hPi (i + 1)]
          rw [ixF_congr (f := k_wi (G (i + 1)) 77 0) (g := f) (i := i + 1) (fun y hy => (G77 (i + 1) y).trans (if_pos hy))]
        · show nX6_ring_l37 (nI k) (nI j2) (nI z) (f z) (P z) (G z) L = _
          unfold nX6_ring_l37
          rw [hend]
          by_cases c7 : 7 ≤ z
          · rw [show (7 : Int32) = nI 7 from rfl, if_leT c7 (by omega)]; rfl
          · rw [show (7 : Int32) = nI 7 from rfl, if_leF (show z < 7 by omega) (by decide)]
            by_cases c : f z = -1
            · rw [if_pos c]; rfl
            · have hlt := zend.resolve_left c
              rw [if_neg c, if_neg (show ¬ P z = -1 from by rw [hPi, if_pos hlt]; exact fun e => by rw [e_ne1 (by omega)] at e; exact e)]; rfl
      · unfold nX7_ring
        rw [isThing7_in t1 b2 (z_nI hk), b1_some, if_neg (by decide), in_inK 2 (by decide) 1 (by decide) (z_nI hj2), b1_some, if_neg (by decide), e5, if_ok (show 5 + k < 284 by omega) (by decide), nI_clamp (by omega), eq, X7_layCoats_1_spec b1 t0, b1_some]
        -- the first loop lays -1
        obtain ⟨A, hA⟩ : ∃ A : Nat → Nat → Nat → Int32, A = fun i => k_r (lcF T 1 n) 6 (fun j => if j < i then -1 else lcF T 1 n 6 j) := ⟨_, rfl⟩
        have A6 : ∀ i j, A i 6 j = if j < i then -1 else lcF T 1 n 6 j := fun i j => by rw [hA]; show k_r (lcF T 1 n) 6 _ 6 j = _; rw [r_eq]
        have Ao : ∀ i c, c ≠ 6 → A i c = lcF T 1 n c := fun i c hc => by rw [hA]; exact r_ne _ hc
        have A0 : A 0 = lcF T 1 n := by
          funext c
          by_cases h : c = 6
          · subst h; funext j; rw [A6, if_neg (by omega)]
          · rw [Ao 0 c h]
        have As : ∀ i, k_w (A i) 6 i (-1) = A (i + 1) := by
          intro i
          funext c
          by_cases h : c = 6
          · subst h
            rw [w_eq]
            funext j
            show (if j = i then -1 else A i 6 j) = A (i + 1) 6 j
            rw [A6, A6]
            by_cases q1 : j = i
            · subst q1; rw [if_pos rfl, if_pos (by omega)]
            · rw [if_neg q1]
              by_cases q2 : j < i
              · rw [if_pos q2, if_pos (by omega)]
              · rw [if_neg q2, if_neg (by omega)]
          · rw [w_ne _ _ h, Ao i c h, Ao (i + 1) c h]
        have An : A n = H 0 := by
          funext c
          by_cases h : c = 6
          · subst h
            funext j
            rw [A6]
            by_cases hj : j < n
            · rw [if_pos hj, H6 0 j hj, if_neg (by omega)]
            · rw [if_neg hj, H6o 0 j hj]
          · rw [Ao n c h, Ho 0 c h]
        have hend : nX7_ring_j107 (nI j2) (f z) (nI z) (H z) M = some (r, H z) := by
          unfold nX7_ring_j107
          rw [hr]
          rcases (show j2 = 0 ∨ j2 = 1 by omega) with rfl | rfl
          · rw [if_pos (by decide), if_pos rfl]
          · rw [if_neg (show ¬ nI 1 = 0 by decide), if_neg (show ¬ (1 : Nat) = 0 by decide)]
            by_cases c : f z = -1
            · rw [if_pos c, if_pos c]
            · have hlt := zend.resolve_left c
              obtain ⟨j, hj, ej⟩ := (fin z).resolve_left c
              rw [if_neg c, if_neg c, ej, if_ok (show j < 7 by omega) (by decide), nI_clamp (by omega), H6 z j hj]
              rw [ej] at hlt
              rw [if_pos hlt, pk_sub (by omega)]
        have hin : k_it (fun st => nX7_ring_l71 (nI k) (nI j2) st.1 st.2.1 st.2.2 M) 1000 (nI q, (0 : Int32), A n) = some (r, H z) := by
          rw [An, show (nI q, (0 : Int32), H 0) = (f 0, nI 0, H 0) from by rw [f0]; rfl]
          refine it_for (fun i => (f i, nI i, H i)) z (by omega) (fun i hi => ?_) ?_
          · show nX7_ring_l71 (nI k) (nI j2) (f i) (nI i) (H i) M = _
            obtain ⟨j, hj, ej⟩ := zj i hi
            have hx := (zg i hi).2
            rw [ej] at hx
            unfold nX7_ring_l71
            rw [if_neg (hm1 i hi), ej, if_ok (show j < 7 by omega) (by decide), nI_clamp (by omega), if_pos (show H i 6 j = -1 from by rw [H6 i j hj, if_neg (by omega)]), Hs i j hi hj ej, hHv (i + 1) j hj, b1_some, if_neg (show ¬ (nI j < 0 ∨ 7 ≤ j) from fun c => by rcases c with c | c; exact nI_pos (show j < 2 ^ 31 by omega) c; omega), ← fs i j ej hj, nI_1]
          · show nX7_ring_l71 (nI k) (nI j2) (f z) (nI z) (H z) M = _
            unfold nX7_ring_l71
            rw [hend]
            by_cases c : f z = -1
            · rw [if_pos c]; rfl
            · have hlt := zend.resolve_left c
              obtain ⟨j, hj, ej⟩ := (fin z).resolve_left c
              rw [if_neg c, ej, if_ok (show j < 7 by omega) (by decide), nI_clamp (by omega)]
              rw [ej] at hlt
              rw [if_neg (show ¬ H z 6 j = -1 from by rw [H6 z j hj, if_pos hlt]; exact fun e => by rw [e_ne1 (by omega)] at e; exact e)]; rfl
        rw [show ((0 : Int32), lcF T 1 n) = (nI 0, A 0) from by rw [A0]; rfl]
        refine it_for (fun i => (nI i, A i)) n (by omega) (fun i hi => ?_) ?_
        · show nX7_ring_l48 (nI k) (nI j2) (nI q) 0 (nI i) (A i) M = _
          unfold nX7_ring_l48 nX7_many
          rw [b1_some, Ao i 1 (by decide), lcF_ne (by decide), t0, if_leF hi (by omega), if_ok (show i < 7 by omega) (by decide), nI_clamp (by omega), As, nI_1]
        · show nX7_ring_l48 (nI k) (nI j2) (nI q) 0 (nI n) (A n) M = _
          unfold nX7_ring_l48 nX7_many
          rw [b1_some, Ao n 1 (by decide), lcF_ne (by decide), t0, if_leT (Nat.le_refl n) (by omega), hin]
          rfl
      · exact R_congr (fun c hc => Go z c (by omega)) (by rw [Go z 67 (by decide)]) (fun c hc => by rw [Ho z c (by omega), lcF_ne (by omega)]) (by rw [Ho z 0 (by decide), lcF_ne (by decide)]) ⟨rfl, rfl⟩ ⟨rfl, rfl⟩ hR0
    · refine ⟨-2, _, _, ?_, ?_, R_bad 0 (by decide) hR0⟩
      · unfold nX6_ring nX6_ring_j16
        rw [isThing_in v1' b2 h1, b1_some, if_neg (by decide), upTo_outK 2 (by decide) 2 rfl h2, b1_some, if_pos rfl, bad6]; rfl
      · unfold nX7_ring nX7_ring_j18
        rw [isThing7_in t1 b2 h1, b1_some, if_neg (by decide), in_outK 2 (by decide) 1 (by decide) h2, b1_some, if_pos rfl, bad7]; rfl
  · refine ⟨-2, _, _, ?_, ?_, R_bad 0 (by decide) hR0⟩
    · unfold nX6_ring nX6_ring_j16
      rw [isThing_out v1' b2 h1, b1_some, if_pos rfl, bad6]; rfl
    · unfold nX7_ring nX7_ring_j18
      rw [isThing7_out t1 b2 h1, b1_some, if_pos rfl, bad7]; rfl
