/-! what one is, by notes; what a thing is, by its comings -/
theorem it_ind2 {σ ρ : Type} {f : σ → Option (σ ⊕ ρ)} (st : Nat → σ) (N : Nat) {x : ρ} (hs : ∀ i, i < N → f (st i) = some (.inl (st (i + 1))) ∨ f (st i) = some (.inr x)) (hx : (∀ i, i < N → f (st i) = some (.inl (st (i + 1)))) → f (st N) = some (.inr x)) (hN : N < 1000) : k_it f 1000 (st 0) = some x := by
  by_cases h : ∀ i, i < N → f (st i) = some (.inl (st (i + 1)))
  · exact it_ind st N hs (hx h) hN
  · obtain ⟨i, hi⟩ := Classical.not_forall.mp h
    obtain ⟨h1, h2⟩ := Classical.not_imp.mp hi
    exact it_ind st i (fun j hj => hs j (by omega)) ((hs i h1).resolve_left h2) (by omega)
def mkF (P : Nat → Bool) : Nat → Int32
  | 0 => 0
  | k + 1 => if P k = true then mkF P k ||| ((1 : Int32) <<< (nI k &&& 31)) else mkF P k
theorem mkF_s (P : Nat → Bool) (k : Nat) : mkF P (k + 1) = if P k = true then mkF P k ||| ((1 : Int32) <<< (nI k &&& 31)) else mkF P k := rfl
theorem mkF_congr {P Q : Nat → Bool} : ∀ N, (∀ k, k < N → P k = Q k) → mkF P N = mkF Q N
  | 0, _ => rfl
  | N + 1, h => by rw [mkF_s, mkF_s, h N (by omega), mkF_congr N (fun k hk => h k (by omega))]
def ntB (t : Nat → Int32) (p : Int32) (kd : Nat) : Nat → Bool
  | 0 => true
  | i + 1 => ntB t p kd i && (!decide (t (80 + 6 * i) = p) || decide (shF (nI kd) (t (80 + 6 * i + 1)) (t (80 + 6 * i + 2)) (t (80 + 6 * i + 3)) (t (80 + 6 * i + 4)) = t (80 + 6 * i + 5)))
theorem ntB_s (t : Nat → Int32) (p : Int32) (kd i : Nat) : ntB t p kd (i + 1) = (ntB t p kd i && (!decide (t (80 + 6 * i) = p) || decide (shF (nI kd) (t (80 + 6 * i + 1)) (t (80 + 6 * i + 2)) (t (80 + 6 * i + 3)) (t (80 + 6 * i + 4)) = t (80 + 6 * i + 5)))) := rfl
theorem ntB_false {t : Nat → Int32} {p : Int32} {kd i : Nat} (h : ntB t p kd i = false) : ∀ j, ntB t p kd (i + j) = false
  | 0 => h
  | j + 1 => by rw [show i + (j + 1) = (i + j) + 1 from rfl, ntB_s, ntB_false h j, Bool.false_and]
theorem cellN {V : Nat → Nat → Int32} {u x : Nat} (hu : u < 6) (hx : x < 6) : nX3_cell 36 (6 : Int32) (6 : Int32) (k_wi V 10) (nI u) (nI x) = some (V 11 (6 * u + x)) := by
  have e : (nI u * (6 : Int32)) + nI x = nI (6 * u + x) := by
    rw [show (6 : Int32) = nI 6 from rfl, pk_mul, nI_add, Nat.mul_comm u 6]
  unfold nX3_cell
  rw [e, if_neg (nI_pos (by omega)), show (Int32.ofNat 36) = nI 36 from rfl, if_leF (by omega) (by decide), if_ok (show 6 * u + x < 36 by omega) (by decide), nI_clamp (by omega)]
  rfl
theorem cellC {V : Nat → Nat → Int32} {u x : Nat} (hu : u < 6) (hx : x < 4) : nX3_cell 24 (4 : Int32) (6 : Int32) (k_wi V 12) (nI u) (nI x) = some (V 13 (4 * u + x)) := by
  have e : (nI u * (4 : Int32)) + nI x = nI (4 * u + x) := by
    rw [show (4 : Int32) = nI 4 from rfl, pk_mul, nI_add, Nat.mul_comm u 4]
  unfold nX3_cell
  rw [e, if_neg (nI_pos (by omega)), show (Int32.ofNat 24) = nI 24 from rfl, if_leF (by omega) (by decide), if_ok (show 4 * u + x < 24 by omega) (by decide), nI_clamp (by omega)]
  rfl
theorem X5_notesAreSo_spec {V : Nat → Nat → Int32} {t : Nat → Int32} {n m un uc up d dm : Nat} (h : vr V t n m un uc up d dm) (p : Int32) (kd : Nat) : nX5_notesAreSo V p (nI kd) = some (if ntB t p kd un = true then 1 else 0) := by
  obtain ⟨-, ⟨b1, b2, b3, b4, b5, b6⟩, ⟨v0, v1, v2, v3, v4, v5⟩, hp, hnd, hth, hno, hca, hcq, hpa⟩ := h
  have hno' : ∀ i x, i < un → x < 6 → V 11 (6 * i + x) = t (80 + 6 * i + x) := by
    intro i x hi hx
    rw [hno (6 * i + x) (by omega), Nat.add_assoc]
  have hb : ∀ i, i < un → nX5_notesAreSo_l2 p (nI kd) (nI i) V = (if !decide (t (80 + 6 * i) = p) || decide (shF (nI kd) (t (80 + 6 * i + 1)) (t (80 + 6 * i + 2)) (t (80 + 6 * i + 3)) (t (80 + 6 * i + 4)) = t (80 + 6 * i + 5)) then some (.inl (nI (i + 1))) else some (.inr 0)) := by
    intro i hi
    unfold nX5_notesAreSo_l2
    have c0 := cellN (V := V) (u := i) (x := 0) (by omega) (by decide)
    have c1 := cellN (V := V) (u := i) (x := 1) (by omega) (by decide)
    have c2 := cellN (V := V) (u := i) (x := 2) (by omega) (by decide)
    have c3 := cellN (V := V) (u := i) (x := 3) (by omega) (by decide)
    have c4 := cellN (V := V) (u := i) (x := 4) (by omega) (by decide)
    have c5 := cellN (V := V) (u := i) (x := 5) (by omega) (by decide)
    rw [show nI 0 = (0 : Int32) from rfl, hno' i 0 hi (by decide), Nat.add_zero] at c0
    rw [show nI 1 = (1 : Int32) from rfl, hno' i 1 hi (by decide)] at c1
    rw [show nI 2 = (2 : Int32) from rfl, hno' i 2 hi (by decide)] at c2
    rw [show nI 3 = (3 : Int32) from rfl, hno' i 3 hi (by decide)] at c3
    rw [show nI 4 = (4 : Int32) from rfl, hno' i 4 hi (by decide)] at c4
    rw [show nI 5 = (5 : Int32) from rfl, hno' i 5 hi (by decide)] at c5
    rw [v2, if_leF hi (by omega), c0, b1_some, c1, b1_some, c2, b1_some, c3, b1_some, c4, b1_some, shown_spec, b1_some, c5, b1_some, nI_1]
    by_cases e1 : t (80 + 6 * i) = p
    · rw [if_pos e1, decide_eq_true e1]
      by_cases e2 : shF (nI kd) (t (80 + 6 * i + 1)) (t (80 + 6 * i + 2)) (t (80 + 6 * i + 3)) (t (80 + 6 * i + 4)) = t (80 + 6 * i + 5)
      · rw [if_pos e2, decide_eq_true e2]; rfl
      · rw [if_neg e2, decide_eq_false e2]; rfl
    · rw [if_neg e1, decide_eq_false e1]; rfl
  unfold nX5_notesAreSo
  refine it_ind2 (fun i => nI i) un (fun i hi => ?_) (fun hall => ?_) (by omega)
  · show nX5_notesAreSo_l2 p (nI kd) (nI i) V = _ ∨ nX5_notesAreSo_l2 p (nI kd) (nI i) V = _
    rw [hb i hi]
    by_cases c : (!decide (t (80 + 6 * i) = p) || decide (shF (nI kd) (t (80 + 6 * i + 1)) (t (80 + 6 * i + 2)) (t (80 + 6 * i + 3)) (t (80 + 6 * i + 4)) = t (80 + 6 * i + 5))) = true
    · rw [if_pos c]; exact Or.inl rfl
    · right
      rw [if_neg c]
      have e : ntB t p kd (i + 1) = false := by rw [ntB_s, Bool.eq_false_iff.mpr c, Bool.and_false]
      have e2 := ntB_false e (un - (i + 1))
      rw [show i + 1 + (un - (i + 1)) = un by omega] at e2
      rw [e2]; rfl
  · show nX5_notesAreSo_l2 p (nI kd) (nI un) V = _
    have e : ∀ i, i ≤ un → ntB t p kd i = true := by
      intro i
      induction i with
      | zero => intro _; rfl
      | succ i ih =>
        intro hi
        have h1 := hall i (by omega)
        have h1 : nX5_notesAreSo_l2 p (nI kd) (nI i) V = some (.inl (nI (i + 1))) := h1
        rw [hb i (by omega)] at h1
        rw [ntB_s, ih (by omega), Bool.true_and]
        by_cases c : (!decide (t (80 + 6 * i) = p) || decide (shF (nI kd) (t (80 + 6 * i + 1)) (t (80 + 6 * i + 2)) (t (80 + 6 * i + 3)) (t (80 + 6 * i + 4)) = t (80 + 6 * i + 5))) = true
        · exact c
        · rw [if_neg c] at h1
          cases h1
    unfold nX5_notesAreSo_l2
    rw [v2, if_pos (by rw [e_le (by omega) (by omega)]; exact Nat.le_refl un), e un (Nat.le_refl un)]
    rfl
theorem X5_kindsByNotes_spec {V : Nat → Nat → Int32} {t : Nat → Int32} {n m un uc up d dm : Nat} (h : vr V t n m un uc up d dm) (p : Int32) : nX5_kindsByNotes V p = some (mkF (fun kd => ntB t p kd un) 6) := by
  unfold nX5_kindsByNotes
  refine it_for (fun i => (mkF (fun kd => ntB t p kd un) i, nI i)) 6 (by decide) (fun i hi => ?_) ?_
  · show nX5_kindsByNotes_l4 p (mkF (fun kd => ntB t p kd un) i) (nI i) V = _
    unfold nX5_kindsByNotes_l4
    rw [show (6 : Int32) = nI 6 from rfl, if_leF hi (by decide), X5_notesAreSo_spec h, b1_some, mkF_s, nI_1]
    by_cases c : ntB t p i un = true
    · rw [if_pos c, if_neg (by decide), if_pos c]
    · rw [if_neg c, if_pos rfl, if_neg c]
  · show nX5_kindsByNotes_l4 p (mkF (fun kd => ntB t p kd un) 6) (nI 6) V = _
    unfold nX5_kindsByNotes_l4
    rw [if_pos (by decide)]
    rfl
theorem X7_kindsOf_spec {V T : Nat → Nat → Int32} {M : Nat → Nat → Int64} {n m un uc up d dm : Nat} (h : vr V (T 1) n m un uc up d dm) (p : Int32) : nX7_kindsOf T M p = some (mkF (fun kd => ntB (T 1) p kd un) 6) := by
  obtain ⟨⟨t0, t1, t2, t3, t4, t22⟩, ⟨b1, b2, b3, b4, b5, b6⟩, -⟩ := h
  unfold nX7_kindsOf
  refine it_for (fun i => (mkF (fun kd => ntB (T 1) p kd un) i, nI i)) 6 (by decide) (fun kd hkd => ?_) ?_
  · show nX7_kindsOf_l4 p (mkF (fun kd => ntB (T 1) p kd un) kd) (nI kd) T M = _
    unfold nX7_kindsOf_l4
    rw [show (6 : Int32) = nI 6 from rfl, if_leF hkd (by decide)]
    refine it_for (fun i => ((if ntB (T 1) p kd i = true then (1 : Int32) else 0), nI i)) un (by omega) (fun i hi => ?_) ?_
    · show nX7_kindsOf_i4_l16 p (mkF (fun kd => ntB (T 1) p kd un) kd) (nI kd) (if ntB (T 1) p kd i = true then (1 : Int32) else 0) (nI i) T M = _
      unfold nX7_kindsOf_i4_l16 nX7_kindsOf_i4_i16_j109 nX7_kindsOf_i4_i16_j105
      have e6 : (80 : Int32) + ((6 : Int32) * nI i) = nI (80 + 6 * i) := by
        rw [show (6 : Int32) = nI 6 from rfl, pk_mul]; exact nI_add 80 (6 * i)
      have hx : ∀ x y : Nat, nI x + nI y = nI (x + y) := nI_add
      rw [t2, if_leF hi (by omega), e6, show nI (80 + 6 * i) + 1 = nI (80 + 6 * i + 1) from hx _ 1, show nI (80 + 6 * i) + 2 = nI (80 + 6 * i + 2) from hx _ 2, show nI (80 + 6 * i) + 3 = nI (80 + 6 * i + 3) from hx _ 3, show nI (80 + 6 * i) + 4 = nI (80 + 6 * i + 4) from hx _ 4, show nI (80 + 6 * i) + 5 = nI (80 + 6 * i + 5) from hx _ 5, nI_1 i, ntB_s]
      by_cases c : ntB (T 1) p kd i = true
      · rw [if_pos c, if_neg (by decide), c, Bool.true_and, if_ok (show 80 + 6 * i < 284 by omega) (by decide), nI_clamp (show 80 + 6 * i < 2 ^ 31 by omega)]
        by_cases e1 : T 1 (80 + 6 * i) = p
        · rw [if_pos e1, decide_eq_true e1, if_ok (show 80 + 6 * i + 3 < 284 by omega) (by decide), if_ok (show 80 + 6 * i + 4 < 284 by omega) (by decide), if_ok (show 80 + 6 * i + 1 < 284 by omega) (by decide), if_ok (show 80 + 6 * i + 2 < 284 by omega) (by decide), nI_clamp (show 80 + 6 * i + 1 < 2 ^ 31 by omega), nI_clamp (show 80 + 6 * i + 2 < 2 ^ 31 by omega), nI_clamp (show 80 + 6 * i + 3 < 2 ^ 31 by omega), nI_clamp (show 80 + 6 * i + 4 < 2 ^ 31 by omega), showsAs_spec, b1_some, if_ok (show 80 + 6 * i + 5 < 284 by omega) (by decide), nI_clamp (show 80 + 6 * i + 5 < 2 ^ 31 by omega)]
          by_cases e2 : shF (nI kd) (T 1 (80 + 6 * i + 1)) (T 1 (80 + 6 * i + 2)) (T 1 (80 + 6 * i + 3)) (T 1 (80 + 6 * i + 4)) = T 1 (80 + 6 * i + 5)
          · rw [if_pos e2, decide_eq_true e2]; rfl
          · rw [if_neg e2, decide_eq_false e2]; rfl
        · rw [if_neg e1, decide_eq_false e1]; rfl
      · rw [if_neg c, if_pos rfl, Bool.eq_false_iff.mpr c, Bool.false_and]; rfl
    · show nX7_kindsOf_i4_l16 p (mkF (fun kd => ntB (T 1) p kd un) kd) (nI kd) (if ntB (T 1) p kd un = true then (1 : Int32) else 0) (nI un) T M = _
      unfold nX7_kindsOf_i4_l16 nX7_kindsOf_i4_j131
      rw [t2, if_pos (by rw [e_le (by omega) (by omega)]; exact Nat.le_refl un), mkF_s, nI_1]
      by_cases c : ntB (T 1) p kd un = true
      · rw [if_pos c, if_neg (by decide), if_pos c]; rfl
      · rw [if_neg c, if_pos rfl, if_neg c, Int32.or_zero]; rfl
  · show nX7_kindsOf_l4 p (mkF (fun kd => ntB (T 1) p kd un) 6) (nI 6) T M = _
    unfold nX7_kindsOf_l4
    rw [if_pos (by decide)]
    rfl
theorem op_is : k_op_is k_R := by
  intro S L T M p1 hR
  have hR0 := hR
  obtain ⟨⟨n, m, un, uc, up, d, hv⟩, -⟩ := hR
  have hv0 := hv
  obtain ⟨⟨t0, t1, t2, t3, t4, t22⟩, ⟨b1, b2, b3, b4, b5, b6⟩, ⟨v0, v1, v2, v3, v4, v5⟩, -⟩ := hv
  have v0' : S 1 12 = nI n := v0
  by_cases h1 : pz p1 n
  · refine ⟨mkF (fun kd => ntB (T 1) p1 kd un) 6, S, T, ?_, ?_, hR0⟩
    · unfold nX6_is
      rw [isPerson_in v0' b1 h1, b1_some, if_neg (by decide), X5_kindsByNotes_spec hv0, b1_some]
    · unfold nX7_is
      rw [isOne7_in t0 b1 h1, b1_some, if_neg (by decide), X7_kindsOf_spec hv0, b1_some]
  · refine ⟨-2, _, _, ?_, ?_, R_bad 0 (by decide) hR0⟩
    · unfold nX6_is
      rw [isPerson_out v0' b1 h1, b1_some, if_pos rfl, bad6]; rfl
    · unfold nX7_is
      rw [isOne7_out t0 b1 h1, b1_some, if_pos rfl, bad7]; rfl
def cmB (t : Nat → Int32) (n k kd : Nat) : Nat → Bool
  | 0 => true
  | i + 1 => cmB t n k kd i && (!decide (t (116 + 4 * i) = nI k) || decide (cmF n (fun p => t (23 + p)) (fun p => t (30 + p)) (fun j => t (37 + j)) (fun p => t (15 + p)) (nI kd) (t (70 + k)).toNatClampNeg (t (116 + 4 * i + 1)).toNatClampNeg (t (116 + 4 * i + 2)) = t (116 + 4 * i + 3)))
theorem cmB_s (t : Nat → Int32) (n k kd i : Nat) : cmB t n k kd (i + 1) = (cmB t n k kd i && (!decide (t (116 + 4 * i) = nI k) || decide (cmF n (fun p => t (23 + p)) (fun p => t (30 + p)) (fun j => t (37 + j)) (fun p => t (15 + p)) (nI kd) (t (70 + k)).toNatClampNeg (t (116 + 4 * i + 1)).toNatClampNeg (t (116 + 4 * i + 2)) = t (116 + 4 * i + 3)))) := rfl
theorem cmB_false {t : Nat → Int32} {n k kd i : Nat} (h : cmB t n k kd i = false) : ∀ j, cmB t n k kd (i + j) = false
  | 0 => h
  | j + 1 => by rw [show i + (j + 1) = (i + j) + 1 from rfl, cmB_s, cmB_false h j, Bool.false_and]
theorem X5_comingsAreSo_spec {V : Nat → Nat → Int32} {t : Nat → Int32} {n m un uc up d dm k : Nat} (h : vr V t n m un uc up d dm) (hk : k < m) (kd : Nat) : nX5_comingsAreSo V (nI k) (nI kd) = some (if cmB t n k kd uc = true then 1 else 0) := by
  obtain ⟨-, ⟨b1, b2, b3, b4, b5, b6⟩, ⟨v0, v1, v2, v3, v4, v5⟩, hp, hnd, hth, hno, hca, hcq, hpa⟩ := h
  obtain ⟨-, g6, -, -, -, -, ⟨s, hs, es⟩, -⟩ := hth k hk
  have hca' : ∀ i x, i < uc → x < 4 → V 13 (4 * i + x) = t (116 + 4 * i + x) := by
    intro i x hi hx
    rw [hca (4 * i + x) (by omega), Nat.add_assoc]
  have hb : ∀ i, i < uc → nX5_comingsAreSo_l2 (nI k) (nI kd) (nI i) V = (if !decide (t (116 + 4 * i) = nI k) || decide (cmF n (fun p => t (23 + p)) (fun p => t (30 + p)) (fun j => t (37 + j)) (fun p => t (15 + p)) (nI kd) (t (70 + k)).toNatClampNeg (t (116 + 4 * i + 1)).toNatClampNeg (t (116 + 4 * i + 2)) = t (116 + 4 * i + 3)) then some (.inl (nI (i + 1))) else some (.inr 0)) := by
    intro i hi
    unfold nX5_comingsAreSo_l2
    obtain ⟨q, hq, eq⟩ := hcq i hi
    have c0 := cellC (V := V) (u := i) (x := 0) (by omega) (by decide)
    have c1 := cellC (V := V) (u := i) (x := 1) (by omega) (by decide)
    have c2 := cellC (V := V) (u := i) (x := 2) (by omega) (by decide)
    have c3 := cellC (V := V) (u := i) (x := 3) (by omega) (by decide)
    rw [show nI 0 = (0 : Int32) from rfl, hca' i 0 hi (by decide), Nat.add_zero] at c0
    rw [show nI 1 = (1 : Int32) from rfl, hca' i 1 hi (by decide)] at c1
    rw [show nI 2 = (2 : Int32) from rfl, hca' i 2 hi (by decide)] at c2
    rw [show nI 3 = (3 : Int32) from rfl, hca' i 3 hi (by decide)] at c3
    rw [v3, if_leF hi (by omega), c0, b1_some, c1, b1_some, c2, b1_some, nI_clamp (show k < 2 ^ 31 by omega), g6, es, eq, X5_goesTo_spec b1 v0 hq hs (fun j hj => by rw [(hp j hj).2.1]; exact (hp j hj).2.2.2.2.1), b1_some, c3, b1_some, nI_1, nI_clamp (show s < 2 ^ 31 by omega), nI_clamp (show q < 2 ^ 31 by omega), cmF_congr (n := n) (kd' := fun p => t (23 + p)) (hs' := fun p => t (30 + p)) (nd' := fun j => t (37 + j)) (ct' := fun p => t (15 + p)) (fun p hp' => (hp p hp').1) (fun p hp' => (hp p hp').2.1) (fun j hj => (hnd j hj).1) (fun p hp' => (hp p hp').2.2.1) _ hs hq _]
    by_cases e1 : t (116 + 4 * i) = nI k
    · rw [if_pos e1, decide_eq_true e1, if_neg (show ¬ (nI k < 0 ∨ 5 ≤ k) from fun c => by rcases c with c | c; exact nI_pos (show k < 2 ^ 31 by omega) c; omega)]
      by_cases e2 : cmF n (fun p => t (23 + p)) (fun p => t (30 + p)) (fun j => t (37 + j)) (fun p => t (15 + p)) (nI kd) s q (t (116 + 4 * i + 2)) = t (116 + 4 * i + 3)
      · rw [if_pos e2, decide_eq_true e2]; rfl
      · rw [if_neg e2, decide_eq_false e2]; rfl
    · rw [if_neg e1, decide_eq_false e1]; rfl
  unfold nX5_comingsAreSo
  refine it_ind2 (fun i => nI i) uc (fun i hi => ?_) (fun hall => ?_) (by omega)
  · show nX5_comingsAreSo_l2 (nI k) (nI kd) (nI i) V = _ ∨ nX5_comingsAreSo_l2 (nI k) (nI kd) (nI i) V = _
    rw [hb i hi]
    by_cases c : (!decide (t (116 + 4 * i) = nI k) || decide (cmF n (fun p => t (23 + p)) (fun p => t (30 + p)) (fun j => t (37 + j)) (fun p => t (15 + p)) (nI kd) (t (70 + k)).toNatClampNeg (t (116 + 4 * i + 1)).toNatClampNeg (t (116 + 4 * i + 2)) = t (116 + 4 * i + 3))) = true
    · rw [if_pos c]; exact Or.inl rfl
    · right
      rw [if_neg c]
      have e : cmB t n k kd (i + 1) = false := by rw [cmB_s, Bool.eq_false_iff.mpr c, Bool.and_false]
      have e2 := cmB_false e (uc - (i + 1))
      rw [show i + 1 + (uc - (i + 1)) = uc by omega] at e2
      rw [e2]; rfl
  · show nX5_comingsAreSo_l2 (nI k) (nI kd) (nI uc) V = _
    have e : ∀ i, i ≤ uc → cmB t n k kd i = true := by
      intro i
      induction i with
      | zero => intro _; rfl
      | succ i ih =>
        intro hi
        have h1 := hall i (by omega)
        have h1 : nX5_comingsAreSo_l2 (nI k) (nI kd) (nI i) V = some (.inl (nI (i + 1))) := h1
        rw [hb i (by omega)] at h1
        rw [cmB_s, ih (by omega), Bool.true_and]
        by_cases c : (!decide (t (116 + 4 * i) = nI k) || decide (cmF n (fun p => t (23 + p)) (fun p => t (30 + p)) (fun j => t (37 + j)) (fun p => t (15 + p)) (nI kd) (t (70 + k)).toNatClampNeg (t (116 + 4 * i + 1)).toNatClampNeg (t (116 + 4 * i + 2)) = t (116 + 4 * i + 3))) = true
        · exact c
        · rw [if_neg c] at h1
          cases h1
    unfold nX5_comingsAreSo_l2
    rw [v3, if_pos (by rw [e_le (by omega) (by omega)]; exact Nat.le_refl uc), e uc (Nat.le_refl uc)]
    rfl
theorem X5_kindsByComings_spec {V : Nat → Nat → Int32} {t : Nat → Int32} {n m un uc up d dm k : Nat} (h : vr V t n m un uc up d dm) (hk : k < m) : nX5_kindsByComings V (nI k) = some (mkF (fun kd => cmB t n k kd uc) 6) := by
  unfold nX5_kindsByComings
  refine it_for (fun i => (mkF (fun kd => cmB t n k kd uc) i, nI i)) 6 (by decide) (fun i hi => ?_) ?_
  · show nX5_kindsByComings_l4 (nI k) (mkF (fun kd => cmB t n k kd uc) i) (nI i) V = _
    unfold nX5_kindsByComings_l4
    rw [show (6 : Int32) = nI 6 from rfl, if_leF hi (by decide), X5_comingsAreSo_spec h hk, b1_some, mkF_s, nI_1]
    by_cases c : cmB t n k i uc = true
    · rw [if_pos c, if_neg (by decide), if_pos c]
    · rw [if_neg c, if_pos rfl, if_neg c]
  · show nX5_kindsByComings_l4 (nI k) (mkF (fun kd => cmB t n k kd uc) 6) (nI 6) V = _
    unfold nX5_kindsByComings_l4
    rw [if_pos (by decide)]
    rfl
theorem X7_kindsOfThing_spec {V T : Nat → Nat → Int32} {M : Nat → Nat → Int64} {n m un uc up d dm k : Nat} (h : vr V (T 1) n m un uc up d dm) (hk : k < m) : nX7_kindsOfThing T M (nI k) = some (mkF (fun kd => cmB (T 1) n k kd uc) 6, lcF T 1 n) := by
  obtain ⟨⟨t0, t1, t2, t3, t4, t22⟩, ⟨b1, b2, b3, b4, b5, b6⟩, -, hp, hnd, hth, hno, hca, hcq, hpa⟩ := h
  obtain ⟨-, g6, -, -, -, -, ⟨s, hs, es⟩, -⟩ := hth k hk
  have el : lcF T 1 n 1 = T 1 := lcF_ne (by decide)
  unfold nX7_kindsOfThing
  rw [X7_layCoats_1_spec b1 t0, b1_some]
  refine it_for (fun i => (mkF (fun kd => cmB (T 1) n k kd uc) i, nI i)) 6 (by decide) (fun kd hkd => ?_) ?_
  · show nX7_kindsOfThing_l12 (nI k) (mkF (fun kd => cmB (T 1) n k kd uc) kd) (nI kd) (lcF T 1 n) M = _
    unfold nX7_kindsOfThing_l12
    rw [show (6 : Int32) = nI 6 from rfl, if_leF hkd (by decide)]
    refine it_for (fun i => ((if cmB (T 1) n k kd i = true then (1 : Int32) else 0), nI i)) uc (by omega) (fun i hi => ?_) ?_
    · show nX7_kindsOfThing_i12_l24 (nI k) (mkF (fun kd => cmB (T 1) n k kd uc) kd) (nI kd) (if cmB (T 1) n k kd i = true then (1 : Int32) else 0) (nI i) (lcF T 1 n) M = _
      unfold nX7_kindsOfThing_i12_l24 nX7_kindsOfThing_i12_i24_j112 nX7_kindsOfThing_i12_i24_j108
      obtain ⟨q, hq, eq⟩ := hcq i hi
      have e4 : (116 : Int32) + ((4 : Int32) * nI i) = nI (116 + 4 * i) := by
        rw [show (4 : Int32) = nI 4 from rfl, pk_mul]; exact nI_add 116 (4 * i)
      have hx : ∀ x y : Nat, nI x + nI y = nI (x + y) := nI_add
      rw [el, t3, if_leF hi (by omega), e4, show nI (116 + 4 * i) + 1 = nI (116 + 4 * i + 1) from hx _ 1, show nI (116 + 4 * i) + 2 = nI (116 + 4 * i + 2) from hx _ 2, show nI (116 + 4 * i) + 3 = nI (116 + 4 * i + 3) from hx _ 3, show (70 : Int32) + nI k = nI (70 + k) from nI_add 70 k, nI_1 i, cmB_s]
      by_cases c : cmB (T 1) n k kd i = true
      · rw [if_pos c, if_neg (by decide), c, Bool.true_and, if_ok (show 116 + 4 * i < 284 by omega) (by decide), nI_clamp (show 116 + 4 * i < 2 ^ 31 by omega)]
        by_cases e1 : T 1 (116 + 4 * i) = nI k
        · rw [if_pos e1, decide_eq_true e1, if_ok (show 70 + k < 284 by omega) (by decide), if_ok (show 116 + 4 * i + 2 < 284 by omega) (by decide), if_ok (show 116 + 4 * i + 1 < 284 by omega) (by decide), nI_clamp (show 116 + 4 * i + 1 < 2 ^ 31 by omega), nI_clamp (show 116 + 4 * i + 2 < 2 ^ 31 by omega), nI_clamp (show 70 + k < 2 ^ 31 by omega), es, eq]
          rw [X7_comesTo_1_spec (n := n) b1 (by rw [el]; exact t0) hq hs (fun j hj => by rw [el]; exact (hp j hj).2.2.2.2.1) (fun j hj => by rw [el]; exact (hnd j hj).2) (fun j hj => by rw [lcF_5]; simp only [if_pos hj]; exact (hp j hj).2.2.2.2.2), b1_some, if_ok (show 116 + 4 * i + 3 < 284 by omega) (by decide), nI_clamp (show 116 + 4 * i + 3 < 2 ^ 31 by omega), nI_clamp (show s < 2 ^ 31 by omega), nI_clamp (show q < 2 ^ 31 by omega), el]
          rw [cmF_congr (n := n) (kd' := fun p => T 1 (23 + p)) (hs' := fun p => T 1 (30 + p)) (nd' := fun j => T 1 (37 + j)) (ct := lcF T 1 n 5) (ct' := fun p => T 1 (15 + p)) (fun p hp' => rfl) (fun p hp' => rfl) (fun j hj => rfl) (fun p hp' => by rw [lcF_5]; simp only [if_pos hp']) _ hs hq _]
          by_cases e2 : cmF n (fun p => T 1 (23 + p)) (fun p => T 1 (30 + p)) (fun j => T 1 (37 + j)) (fun p => T 1 (15 + p)) (nI kd) s q (T 1 (116 + 4 * i + 2)) = T 1 (116 + 4 * i + 3)
          · rw [if_pos e2, decide_eq_true e2]; rfl
          · rw [if_neg e2, decide_eq_false e2]; rfl
        · rw [if_neg e1, decide_eq_false e1]; rfl
      · rw [if_neg c, if_pos rfl, Bool.eq_false_iff.mpr c, Bool.false_and]; rfl
    · show nX7_kindsOfThing_i12_l24 (nI k) (mkF (fun kd => cmB (T 1) n k kd uc) kd) (nI kd) (if cmB (T 1) n k kd uc = true then (1 : Int32) else 0) (nI uc) (lcF T 1 n) M = _
      unfold nX7_kindsOfThing_i12_l24 nX7_kindsOfThing_i12_j134
      rw [el, t3, if_pos (by rw [e_le (by omega) (by omega)]; exact Nat.le_refl uc), mkF_s, nI_1]
      by_cases c : cmB (T 1) n k kd uc = true
      · rw [if_pos c, if_neg (by decide), if_pos c]; rfl
      · rw [if_neg c, if_pos rfl, if_neg c, Int32.or_zero]; rfl
  · show nX7_kindsOfThing_l12 (nI k) (mkF (fun kd => cmB (T 1) n k kd uc) 6) (nI 6) (lcF T 1 n) M = _
    unfold nX7_kindsOfThing_l12
    rw [if_pos (by decide)]
    rfl
theorem op_kinds : k_op_kinds k_R := by
  intro S L T M p1 hR
  have hR0 := hR
  obtain ⟨⟨n, m, un, uc, up, d, hv⟩, -⟩ := hR
  have hv0 := hv
  obtain ⟨⟨t0, t1, t2, t3, t4, t22⟩, ⟨b1, b2, b3, b4, b5, b6⟩, ⟨v0, v1, v2, v3, v4, v5⟩, -⟩ := hv
  have v1' : S 1 13 = nI m := v1
  by_cases h1 : pz p1 m
  · obtain ⟨k, hk, rfl⟩ := h1
    refine ⟨mkF (fun kd => cmB (T 1) n k kd uc) 6, S, lcF T 1 n, ?_, ?_, R_lc 1 n hR0⟩
    · unfold nX6_kinds
      rw [isThing_in v1' b2 (z_nI hk), b1_some, if_neg (by decide), X5_kindsByComings_spec hv0 hk, b1_some]
    · unfold nX7_kinds
      rw [isThing7_in t1 b2 (z_nI hk), b1_some, if_neg (by decide), X7_kindsOfThing_spec hv0 hk, b2_some]
  · refine ⟨-2, _, _, ?_, ?_, R_bad 0 (by decide) hR0⟩
    · unfold nX6_kinds
      rw [isThing_out v1' b2 h1, b1_some, if_pos rfl, bad6]; rfl
    · unfold nX7_kinds
      rw [isThing7_out t1 b2 h1, b1_some, if_pos rfl, bad7]; rfl
