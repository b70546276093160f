/-! what was before comes again -/
theorem cell_spec {S : Nat → Nat → Int32} {u x : Nat} (hu : u < 8) (hx : x < 18) : nX3_cell 144 (18 : Int32) (8 : Int32) (k_wi S 14) (nI u) (nI x) = some (S 15 (18 * u + x)) := by
  have e : (nI u * (18 : Int32)) + nI x = nI (18 * u + x) := by
    rw [show (18 : Int32) = nI 18 from rfl, pk_mul, nI_add, Nat.mul_comm u 18]
  unfold nX3_cell
  rw [e, if_neg (nI_pos (by omega)), show (Int32.ofNat 144) = nI 144 from rfl, if_leF (by omega) (by decide), if_ok (show 18 * u + x < 144 by omega) (by decide), nI_clamp (by omega)]
  rfl
def tpA (V : Nat → Nat → Int32) (u i : Nat) : Nat → Nat → Int32 := fun c => if c = 3 then (fun p => if p < i then V 15 (18 * u + 1 + p) else V 3 p) else if c = 0 then upd (V 0) 14 (V 15 (18 * u)) else V c
def tpB (V : Nat → Nat → Int32) (u i : Nat) : Nat → Nat → Int32 := fun c => if c = 8 then (fun k => if k < i then V 15 (18 * u + 8 + 2 * k) else V 8 k) else if c = 9 then (fun k => if k < i then V 15 (18 * u + 9 + 2 * k) else V 9 k) else tpA V u 7 c
theorem tpA_3 (V : Nat → Nat → Int32) (u i : Nat) : tpA V u i 3 = fun p => if p < i then V 15 (18 * u + 1 + p) else V 3 p := rfl
theorem tpA_o {V : Nat → Nat → Int32} {u i c : Nat} (h1 : c ≠ 3) (h2 : c ≠ 0) : tpA V u i c = V c := by unfold tpA; rw [if_neg h1, if_neg h2]
theorem tpA_0 (V : Nat → Nat → Int32) (u : Nat) : k_w V 0 14 (V 15 (18 * u)) = tpA V u 0 := by
  funext c
  unfold tpA
  by_cases h : c = 0
  · subst h; rw [w_eq]; rfl
  · rw [w_ne _ _ h]
    by_cases h3 : c = 3
    · rw [if_pos h3, h3]; funext p; rw [if_neg (by omega)]
    · rw [if_neg h3, if_neg h]
theorem tpA_step (V : Nat → Nat → Int32) (u i : Nat) : k_w (tpA V u i) 3 i (V 15 (18 * u + 1 + i)) = tpA V u (i + 1) := by
  funext c
  by_cases h : c = 3
  · subst h
    rw [w_eq, tpA_3, tpA_3]
    funext p
    show (if p = i then _ else if p < i then _ else _) = _
    by_cases q : p = i
    · subst q; rw [if_pos rfl, if_pos (by omega)]
    · rw [if_neg q]
      by_cases q2 : p < i
      · rw [if_pos q2, if_pos (by omega)]
      · rw [if_neg q2, if_neg (by omega)]
  · rw [w_ne _ _ h]
    unfold tpA
    rw [if_neg h, if_neg h]
theorem tpB_8 (V : Nat → Nat → Int32) (u i : Nat) : tpB V u i 8 = fun k => if k < i then V 15 (18 * u + 8 + 2 * k) else V 8 k := rfl
theorem tpB_9 (V : Nat → Nat → Int32) (u i : Nat) : tpB V u i 9 = fun k => if k < i then V 15 (18 * u + 9 + 2 * k) else V 9 k := rfl
theorem tpB_o {V : Nat → Nat → Int32} {u i c : Nat} (h1 : c ≠ 8) (h2 : c ≠ 9) : tpB V u i c = tpA V u 7 c := by unfold tpB; rw [if_neg h1, if_neg h2]
theorem tpB_0 (V : Nat → Nat → Int32) (u : Nat) : tpA V u 7 = tpB V u 0 := by
  funext c
  unfold tpB
  by_cases h : c = 8
  · rw [if_pos h, h]; funext p; rw [if_neg (by omega), tpA_o (by decide) (by decide)]
  · rw [if_neg h]
    by_cases h9 : c = 9
    · rw [if_pos h9, h9]; funext p; rw [if_neg (by omega), tpA_o (by decide) (by decide)]
    · rw [if_neg h9]
theorem tpB_step (V : Nat → Nat → Int32) (u i : Nat) : k_w (k_w (tpB V u i) 8 i (V 15 (18 * u + 8 + 2 * i))) 9 i (V 15 (18 * u + 9 + 2 * i)) = tpB V u (i + 1) := by
  funext c
  by_cases h : c = 9
  · subst h
    rw [w_eq, w_ne _ _ (by decide), tpB_9, tpB_9]
    funext p
    show (if p = i then _ else if p < i then _ else _) = _
    by_cases q : p = i
    · subst q; rw [if_pos rfl, if_pos (by omega)]
    · rw [if_neg q]
      by_cases q2 : p < i
      · rw [if_pos q2, if_pos (by omega)]
      · rw [if_neg q2, if_neg (by omega)]
  · rw [w_ne _ _ h]
    by_cases h8 : c = 8
    · subst h8
      rw [w_eq, tpB_8, tpB_8]
      funext p
      show (if p = i then _ else if p < i then _ else _) = _
      by_cases q : p = i
      · subst q; rw [if_pos rfl, if_pos (by omega)]
      · rw [if_neg q]
        by_cases q2 : p < i
        · rw [if_pos q2, if_pos (by omega)]
        · rw [if_neg q2, if_neg (by omega)]
    · rw [w_ne _ _ h8, tpB_o h8 h, tpB_o h8 h]
theorem X5_takePast_spec {V : Nat → Nat → Int32} {u : Nat} (hu : u < 8) (h14 : V 14 3 = nI (u + 1)) : nX5_takePast V = some (k_w (tpB V u 5) 14 3 (nI u)) := by
  have e1 : V 14 3 - 1 = nI u := by rw [h14, show (1 : Int32) = nI 1 from rfl, pk_sub (by omega), Nat.add_sub_cancel]
  unfold nX5_takePast
  rw [if_neg (show ¬ V 14 3 = 0 from by rw [h14]; exact fun q => by rw [e_eq0 (by omega)] at q; omega), e1, show (0 : Int32) = nI 0 from rfl, cell_spec hu (by decide), b1_some, Nat.add_zero, tpA_0]
  refine it_for (fun i => (nI i, tpA V u i)) 7 (by decide) (fun i hi => ?_) ?_
  · show nX5_takePast_l36 (nI u) (nI i) (tpA V u i) = _
    unfold nX5_takePast_l36
    rw [show (7 : Int32) = nI 7 from rfl, if_leF hi (by decide), show (1 : Int32) + nI i = nI (1 + i) from nI_add 1 i, cell_spec hu (by omega), b1_some, if_ok hi (by decide), nI_clamp (by omega), tpA_o (by decide) (by decide), show 18 * u + (1 + i) = 18 * u + 1 + i by omega, tpA_step, nI_1]
  · show nX5_takePast_l36 (nI u) (nI 7) (tpA V u 7) = _
    unfold nX5_takePast_l36
    rw [if_pos (by decide)]
    have hl : k_it (fun st => nX5_takePast_l67 (nI u) st.1 st.2) 1000 ((0 : Int32), tpA V u 7) = some (k_w (tpB V u 5) 14 3 (nI u)) := by
      rw [show ((0 : Int32), tpA V u 7) = (nI 0, tpB V u 0) from by rw [tpB_0]; rfl]
      refine it_for (fun i => (nI i, tpB V u i)) 5 (by decide) (fun i hi => ?_) ?_
      · show nX5_takePast_l67 (nI u) (nI i) (tpB V u i) = _
        unfold nX5_takePast_l67
        have e2 : (2 : Int32) * nI i = nI (2 * i) := by rw [show (2 : Int32) = nI 2 from rfl, pk_mul]
        rw [show (5 : Int32) = nI 5 from rfl, if_leF hi (by decide), e2, show (8 : Int32) + nI (2 * i) = nI (8 + 2 * i) from nI_add 8 (2 * i), show (9 : Int32) + nI (2 * i) = nI (9 + 2 * i) from nI_add 9 (2 * i), cell_spec hu (by omega), b1_some, if_ok hi (by decide), nI_clamp (by omega), cell_spec hu (by omega), b1_some, if_neg (show ¬ (nI i < 0 ∨ 5 ≤ i) from fun q => by rcases q with q | q; exact nI_pos (show i < 2 ^ 31 by omega) q; omega), w_ne _ _ (by decide), tpB_o (by decide) (by decide), tpA_o (by decide) (by decide), show 18 * u + (8 + 2 * i) = 18 * u + 8 + 2 * i by omega, show 18 * u + (9 + 2 * i) = 18 * u + 9 + 2 * i by omega, tpB_step, nI_1]
      · show nX5_takePast_l67 (nI u) (nI 5) (tpB V u 5) = _
        unfold nX5_takePast_l67
        rw [if_pos (by decide)]
        rfl
    rw [hl]; rfl
def unC (T : Nat → Nat → Int32) (u i : Nat) : Nat → Nat → Int32 := k_r T 1 (fun j => if 5 ≤ j ∧ j < 5 + i then T 1 (140 + 18 * u + (j - 5)) else T 1 j)
theorem unC_0 (T : Nat → Nat → Int32) (u : Nat) : unC T u 0 = T := by
  funext c
  unfold unC k_r
  by_cases h : c = 1
  · rw [if_pos h, h]; funext p; rw [if_neg (by omega)]
  · rw [if_neg h]
theorem unC_1 (T : Nat → Nat → Int32) (u i j : Nat) : unC T u i 1 j = if 5 ≤ j ∧ j < 5 + i then T 1 (140 + 18 * u + (j - 5)) else T 1 j := by unfold unC; rw [r_eq]
theorem unC_step (T : Nat → Nat → Int32) (u i : Nat) : k_w (unC T u i) 1 (5 + i) (T 1 (140 + 18 * u + i)) = unC T u (i + 1) := by
  funext c
  by_cases h : c = 1
  · subst h
    rw [w_eq]
    funext j
    show (if j = 5 + i then _ else unC T u i 1 j) = unC T u (i + 1) 1 j
    rw [unC_1, unC_1]
    by_cases q : j = 5 + i
    · subst q; rw [if_pos rfl, if_pos (by omega), Nat.add_sub_cancel_left]
    · rw [if_neg q]
      by_cases q2 : 5 ≤ j ∧ j < 5 + i
      · rw [if_pos q2, if_pos (by omega)]
      · rw [if_neg q2, if_neg (by omega)]
  · unfold unC
    rw [w_ne _ _ h, r_ne _ h, r_ne _ h]
theorem vr_undo {V : Nat → Nat → Int32} {t t' : Nat → Int32} {n m un uc u d : Nat} (h : vr V t n m un uc (u + 1) d 9999) (ht : ∀ j, t' j = if j = 4 then nI u else if 5 ≤ j ∧ j < 23 then t (140 + 18 * u + (j - 5)) else t j) : ∃ d' : Nat, vr (k_w (tpB V u 5) 14 3 (nI u)) t' n m un uc u d' 9999 := by
  have h' := h
  obtain ⟨⟨t0, t1, t2, t3, t4, t22⟩, ⟨b1, b2, b3, b4, b5, b6⟩, ⟨v0, v1, v2, v3, v4, v5⟩, hp, hnd, hth, hno, hca, hcq, hpa⟩ := h'
  obtain ⟨q1, ⟨d', hd', ed⟩, q3, q4⟩ := hpa u (by omega)
  refine ⟨d', vr_set h (fun c h0 h3 h8 h9 h14 => by rw [w_ne _ _ h14, tpB_o h8 h9, tpA_o h3 h0]) ⟨rfl, rfl⟩ (fun j hj => ?_) ⟨?_, ?_, by omega⟩ ⟨rfl, by rw [ht, if_pos rfl], by omega⟩ (fun p hpn => ?_) (fun k hk => ?_)⟩
  · rw [ht, if_neg (by omega), if_neg (by omega)]
  · show V 15 (18 * u) = nI d'
    rw [q1, ed]
  · rw [ht, if_neg (by decide), if_pos (by decide), show 140 + 18 * u + (22 - 5) = 140 + 18 * u + 17 from rfl, ed]
  · obtain ⟨e1, e2⟩ := q3 p hpn
    have f : t' (15 + p) = t (140 + 18 * u + 10 + p) := by
      rw [ht, if_neg (by omega), if_pos (by omega), show 140 + 18 * u + (15 + p - 5) = 140 + 18 * u + 10 + p by omega]
    rw [f, w_ne _ _ (by decide), tpB_o (by decide) (by decide), tpA_3]
    refine ⟨?_, e2⟩
    show (if p < 7 then _ else _) = _
    rw [if_pos (by omega), e1]
  · obtain ⟨e1, e2, e3, e4⟩ := q4 k hk
    have f1 : t' (5 + k) = t (140 + 18 * u + k) := by
      rw [ht, if_neg (by omega), if_pos (by omega), show 140 + 18 * u + (5 + k - 5) = 140 + 18 * u + k by omega]
    have f2 : t' (10 + k) = t (140 + 18 * u + 5 + k) := by
      rw [ht, if_neg (by omega), if_pos (by omega), show 140 + 18 * u + (10 + k - 5) = 140 + 18 * u + 5 + k by omega]
    rw [f1, f2, w_ne (i := 8) _ _ (by decide), w_ne (i := 9) _ _ (by decide), tpB_8, tpB_9]
    refine ⟨?_, ?_, e3, e4⟩
    · show (if k < 5 then _ else _) = _
      rw [if_pos (by omega), e1]
    · show (if k < 5 then _ else _) = _
      rw [if_pos (by omega), e2]
theorem op_undo : k_op_undo k_R := by
  intro S L T M hR
  have hR0 := hR
  obtain ⟨⟨n, m, un, uc, up, d, hv⟩, -⟩ := hR
  have hv0 := hv
  obtain ⟨⟨t0, t1, t2, t3, t4, t22⟩, ⟨b1, b2, b3, b4, b5, b6⟩, ⟨v0, v1, v2, v3, v4, v5⟩, hp, hnd, hth, -⟩ := hv
  have v4' : S 15 3 = nI up := v4
  rcases (show up = 0 ∨ ∃ u, up = u + 1 from by cases up with | zero => exact Or.inl rfl | succ u => exact Or.inr ⟨u, rfl⟩) with rfl | ⟨u, rfl⟩
  · refine ⟨-3, _, _, ?_, ?_, R_bad 1 (by decide) hR0⟩
    · unfold nX6_undo
      rw [if_pos (show S 15 3 = 0 from v4'), no6]; rfl
    · unfold nX7_undo
      rw [if_pos (show T 1 4 = 0 from t4), no7]; rfl
  · have hne : ¬ nI (u + 1) = 0 := fun q => by rw [e_eq0 (by omega)] at q; omega
    have ht : ∀ j, unC (k_w T 1 4 (nI u)) u 18 1 j = if j = 4 then nI u else if 5 ≤ j ∧ j < 23 then T 1 (140 + 18 * u + (j - 5)) else T 1 j := by
      intro j
      rw [unC_1]
      by_cases q : 5 ≤ j ∧ j < 5 + 18
      · rw [if_pos q, if_neg (by omega), if_pos (by omega), w_off _ (by omega)]
      · rw [if_neg q]
        by_cases q4 : j = 4
        · rw [if_pos q4, q4, w_at]
        · rw [if_neg q4, if_neg (by omega), w_off _ q4]
    obtain ⟨d', hvn⟩ := vr_undo hv0 ht
    have hd' : unC (k_w T 1 4 (nI u)) u 18 1 22 = nI d' := hvn.1.2.2.2.2.2
    have hdv : k_w (tpB (k_wi S 1) u 5) 14 3 (nI u) 0 14 = nI d' := hvn.2.2.1.2.2.2.2.2
    refine ⟨nI d', k_sp S 1 16 (k_w (tpB (k_wi S 1) u 5) 14 3 (nI u)), unC (k_w T 1 4 (nI u)) u 18, ?_, ?_, R_sp hvn (fun c hc => by unfold unC; rw [r_ne _ (by omega), w_ne _ _ (by omega)]) (by unfold unC; rw [r_ne _ (by decide), w_ne _ _ (by decide)]) hR0⟩
    · unfold nX6_undo
      rw [if_neg (show ¬ S 15 3 = 0 from by rw [v4']; exact hne), X5_takePast_spec (show u < 8 by omega) v4, b1_some]
      rw [show k_sp S 1 16 (k_w (tpB (k_wi S 1) u 5) 14 3 (nI u)) 1 14 = nI d' from by rw [show (1 : Nat) = 1 + 0 from rfl, sp_r (c := 0) (by decide)]; exact hdv]
    · unfold nX7_undo
      rw [if_neg (show ¬ T 1 4 = 0 from by rw [t4]; exact hne), t4, show (1 : Int32) = nI 1 from rfl, pk_sub (by omega), Nat.add_sub_cancel, show ((0 : Int32), k_w T 1 4 (nI u)) = (nI 0, unC (k_w T 1 4 (nI u)) u 0) from by rw [unC_0]; rfl]
      refine it_for (fun i => (nI i, unC (k_w T 1 4 (nI u)) u i)) 18 (by decide) (fun i hi => ?_) ?_
      · show nX7_undo_l26 (nI i) (unC (k_w T 1 4 (nI u)) u i) M = _
        unfold nX7_undo_l26
        have e4 : unC (k_w T 1 4 (nI u)) u i 1 4 = nI u := by rw [unC_1, if_neg (by omega), w_at]
        have e2 : ((140 : Int32) + ((18 : Int32) * nI u)) + nI i = nI (140 + 18 * u + i) := by
          rw [show (18 : Int32) = nI 18 from rfl, pk_mul, show (140 : Int32) = nI 140 from rfl, nI_add, nI_add]
        rw [e4, e2, show (5 : Int32) + nI i = nI (5 + i) from nI_add 5 i, show (18 : Int32) = nI 18 from rfl, if_leF hi (by decide), if_ok (show 140 + 18 * u + i < 284 by omega) (by decide), if_ok (show 5 + i < 284 by omega) (by decide), nI_clamp (by omega), nI_clamp (by omega), unC_1, if_neg (by omega), unC_step, nI_1]
      · show nX7_undo_l26 (nI 18) (unC (k_w T 1 4 (nI u)) u 18) M = _
        unfold nX7_undo_l26
        rw [if_pos (by decide), hd']
        rfl
/-! how many there are -/
def cnF (P : Nat → Bool) : Nat → Nat
  | 0 => 0
  | i + 1 => if P i = true then cnF P i + 1 else cnF P i
theorem cnF_le (P : Nat → Bool) : ∀ i, cnF P i ≤ i
  | 0 => Nat.le_refl 0
  | i + 1 => by
    have := cnF_le P i
    show (if P i = true then cnF P i + 1 else cnF P i) ≤ i + 1
    by_cases h : P i = true
    · rw [if_pos h]; omega
    · rw [if_neg h]; omega
theorem cnF_s (P : Nat → Bool) (i : Nat) : cnF P (i + 1) = if P i = true then cnF P i + 1 else cnF P i := rfl
