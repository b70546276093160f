/-! the reference tries all choices -/
def fwF (l : List Nat) (j : Nat) : Nat := l.getD j 0
def fwB (l : List Nat) (P : Nat) : Nat → Nat
  | 0 => 0
  | x + 1 => if chS (fwF l) (btF (nI x)) l.length ≤ P then (if cnF (btF (nI x)) 5 ≤ fwB l P x then fwB l P x else cnF (btF (nI x)) 5) else fwB l P x
theorem fwB_s (l : List Nat) (P x : Nat) : fwB l P (x + 1) = if chS (fwF l) (btF (nI x)) l.length ≤ P then (if cnF (btF (nI x)) 5 ≤ fwB l P x then fwB l P x else cnF (btF (nI x)) 5) else fwB l P x := rfl
theorem fwB_le (l : List Nat) (P : Nat) : ∀ x, fwB l P x ≤ 5
  | 0 => Nat.zero_le 5
  | x + 1 => by
    have h1 := fwB_le l P x
    have h2 := cnF_le (btF (nI x)) 5
    rw [fwB_s]
    by_cases c : chS (fwF l) (btF (nI x)) l.length ≤ P
    · rw [if_pos c]
      by_cases c2 : cnF (btF (nI x)) 5 ≤ fwB l P x
      · rw [if_pos c2]; exact h1
      · rw [if_neg c2]; exact h2
    · rw [if_neg c]; exact h1
theorem chS_small {f : Nat → Nat} (B : Nat → Bool) (h : ∀ j, f j ≤ 22) : ∀ i, chS f B i ≤ 22 * i
  | 0 => Nat.le_refl 0
  | i + 1 => by
    have h1 := chS_small B h i
    have h2 := h i
    rw [chS_s]
    by_cases c : B i = true
    · rw [if_pos c]; omega
    · rw [if_neg c]; omega
theorem prL_small {V : Nat → Nat → Int32} {t : Nat → Int32} {n m un uc up d dm : Nat} (h : vr V t n m un uc up d dm) : ∀ i, i ≤ m → ∀ z, z ∈ prL t i → z ≤ 22
  | 0, _, z, hz => absurd hz (by show ¬ z ∈ ([] : List Nat); simp)
  | i + 1, hi, z, hz => by
    rw [prL_s] at hz
    by_cases c : awF t i = 0
    · rw [if_pos c] at hz; exact prL_small h i (by omega) z hz
    · rw [if_neg c] at hz
      rcases List.mem_append.mp hz with q | q
      · exact prL_small h i (by omega) z q
      · have := (akN_eq h (show i < m by omega)).2
        rw [List.mem_singleton.mp q]; omega
theorem fwF_small {l : List Nat} (h : ∀ z, z ∈ l → z ≤ 22) (j : Nat) : fwF l j ≤ 22 := by
  unfold fwF
  rw [List.getD_eq_getElem?_getD]
  cases hj : l[j]? with
  | none => exact Nat.zero_le _
  | some z => exact h z (List.mem_of_getElem? hj)
theorem X7_few_spec {V T : Nat → Nat → Int32} {M : Nat → Nat → Int64} {n m un uc up d dm P : Nat} (h : vr V (T 1) n m un uc up d dm) (hP : P < 201) : nX7_few T M (nI P) = some (nI (fwB (prL (T 1) m) P (2 ^ (prL (T 1) m).length)), prS (lcF T 1 n) (T 1) m) := by
  have b2 : m ≤ 5 := h.2.1.2.1
  have hl5 : (prL (T 1) m).length ≤ 5 := Nat.le_trans (prL_len (T 1) m) b2
  have hsm := fwF_small (prL_small h m (Nat.le_refl m))
  obtain ⟨l, hl⟩ : ∃ l, l = prL (T 1) m := ⟨_, rfl⟩
  obtain ⟨Z, hZ⟩ : ∃ Z, Z = prS (lcF T 1 n) (T 1) m := ⟨_, rfl⟩
  have hz9 : ∀ j, j < l.length → Z 9 j = nI (fwF l j) := fun j hj => by rw [hZ, prS_9, ← hl, if_pos hj]; rfl
  unfold nX7_few
  rw [in_inK 201 (by decide) 200 (by decide) (z_nI hP), b1_some, if_neg (by decide), X7_layPrices_spec h, b2_some, ← hl, ← hZ]
  rw [← hl] at hl5 hsm
  have hpow : 2 ^ l.length ≤ 32 := Nat.pow_le_pow_right (by decide) hl5
  refine it_for (fun x => (nI (fwB l P x), nI x)) (2 ^ l.length) (by omega) (fun x hx => ?_) ?_
  · show nX7_few_l29 (nI P) (nI l.length) (nI (fwB l P x)) (nI x) Z M = _
    unfold nX7_few_l29
    have hfb := fwB_le l P x
    have hc5 := cnF_le (btF (nI x)) 5
    rw [shl_spec hl5, if_leF hx (by omega)]
    refine it_for (fun j => (nI (chS (fwF l) (btF (nI x)) j), nI j)) l.length (by omega) (fun j hj => ?_) ?_
    · show nX7_few_i29_l43 (nI P) (nI l.length) (nI (fwB l P x)) (nI x) (nI (chS (fwF l) (btF (nI x)) j)) (nI j) Z M = _
      unfold nX7_few_i29_l43 nX7_few_i29_i43_j72
      have hz : ∀ x : Nat, nI x + 0 = nI x := fun x => by rw [show (0 : Int32) = nI 0 from rfl, nI_add, Nat.add_zero]
      rw [if_leF hj (by omega), X7_has_spec, b1_some, chS_s, nI_1 j, hz]
      by_cases c : btF (nI x) j = true
      · rw [if_pos c, if_neg (by decide), if_ok (show j < 5 by omega) (by decide), nI_clamp (by omega), hz9 j hj, nI_add, if_pos c]
      · rw [if_neg c, if_pos rfl, if_neg c]
        rfl
    · show nX7_few_i29_l43 (nI P) (nI l.length) (nI (fwB l P x)) (nI x) (nI (chS (fwF l) (btF (nI x)) l.length)) (nI l.length) Z M = _
      unfold nX7_few_i29_l43 nX7_few_i29_j104
      have hch := chS_small (btF (nI x)) hsm l.length
      rw [if_leT (Nat.le_refl _) (by omega), bits_spec (show x < 32 by omega), b1_some, b1_some, fwB_s, nI_1 x]
      by_cases c : chS (fwF l) (btF (nI x)) l.length ≤ P
      · rw [if_ltF c (by omega), if_pos c]
        by_cases c2 : cnF (btF (nI x)) 5 ≤ fwB l P x
        · rw [if_leT c2 (by omega), if_pos c2]; rfl
        · rw [if_leF (by omega) (by omega), if_neg c2]; rfl
      · rw [if_ltT (by omega) (by omega), if_neg c]; rfl
  · show nX7_few_l29 (nI P) (nI l.length) (nI (fwB l P (2 ^ l.length))) (nI (2 ^ l.length)) Z M = _
    unfold nX7_few_l29
    rw [shl_spec hl5, if_leT (Nat.le_refl _) (by omega)]
    rfl
