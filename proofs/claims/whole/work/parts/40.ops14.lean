/-! images -/
def imC (T : Nat → Nat → Int32) (p i : Nat) : Nat → Nat → Int32 := k_r T 2 (fun j => if 284 * p ≤ j ∧ j < 284 * p + i then T 1 (j - 284 * p) else T 2 j)
theorem imC_0 (T : Nat → Nat → Int32) (p : Nat) : imC T p 0 = T := by
  funext c
  unfold imC k_r
  by_cases h : c = 2
  · rw [if_pos h, h]; funext j; rw [if_neg (by omega)]
  · rw [if_neg h]
theorem imC_2 (T : Nat → Nat → Int32) (p i j : Nat) : imC T p i 2 j = if 284 * p ≤ j ∧ j < 284 * p + i then T 1 (j - 284 * p) else T 2 j := by unfold imC; rw [r_eq]
theorem imC_o {T : Nat → Nat → Int32} {p i c : Nat} (h : c ≠ 2) : imC T p i c = T c := r_ne _ h
theorem imC_step (T : Nat → Nat → Int32) (p i : Nat) : k_w (imC T p i) 2 (284 * p + i) (T 1 i) = imC T p (i + 1) := by
  funext c
  by_cases h : c = 2
  · subst h
    rw [w_eq]
    funext j
    show (if j = 284 * p + i then T 1 i else imC T p i 2 j) = imC T p (i + 1) 2 j
    rw [imC_2, imC_2]
    by_cases q : j = 284 * p + i
    · subst q; rw [if_pos rfl, if_pos (by omega), Nat.add_sub_cancel_left]
    · rw [if_neg q]
      by_cases q2 : 284 * p ≤ j ∧ j < 284 * p + i
      · rw [if_pos q2, if_pos (by omega)]
      · rw [if_neg q2, if_neg (by omega)]
  · rw [w_ne _ _ h, imC_o h, imC_o h]
theorem nar1 : vp_nar .boolean (1 : Int32) = 1 := by decide
theorem X7_image_ok {T : Nat → Nat → Int32} {M : Nat → Nat → Int64} {p : Nat} (hp : p < 2) : nX7_image T M (nI p) = some (1, k_w (imC T p 284) 3 p 1) := by
  unfold nX7_image
  rw [in_inK 2 (by decide) 1 (by decide) (z_nI hp), b1_some, if_neg (by decide), show ((0 : Int32), T) = (nI 0, imC T p 0) from by rw [imC_0]; rfl]
  have e : ∀ i, ((284 : Int32) * nI p) + nI i = nI (284 * p + i) := fun i => by rw [show (284 : Int32) = nI 284 from rfl, pk_mul, nI_add]
  refine it_for (fun i => (nI i, imC T p i)) 284 (by decide) (fun i hi => ?_) ?_
  · show nX7_image_l19 (nI p) (nI i) (imC T p i) M = _
    unfold nX7_image_l19
    rw [show (284 : Int32) = nI 284 from rfl, if_leF hi (by decide), if_ok hi (by decide), show (nI 284 * nI p) + nI i = nI (284 * p + i) from e i, if_ok (show 284 * p + i < 568 by omega) (by decide), nI_clamp (by omega), nI_clamp (by omega), imC_o (by decide), imC_step, nI_1]
  · show nX7_image_l19 (nI p) (nI 284) (imC T p 284) M = _
    unfold nX7_image_l19
    rw [if_pos (by decide), if_ok hp (by decide), nI_clamp (by omega), nar1]
    rfl
theorem R_image {S S' T T' : Nat → Nat → Int32} {L M : Nat → Nat → Int64} (h : k_R S L T M) {p : Nat} (hp : p < 2) (hS : ∀ c, (1 ≤ c ∧ c < 17 ∨ 33 ≤ c ∧ c < 65 ∨ c = 67 ∨ c = 68 ∨ c = 75) → (c < 33 + 16 * p ∨ 33 + 16 * p + 16 ≤ c) → S' c = S c) (hS6 : S' 66 = upd (S 66) p 1) (hT : ∀ c, c ≠ 2 → c ≠ 3 → T' c = T c) (hT3 : T' 3 = upd (T 3) p 1) (hT2 : ∀ j, T' 2 j = if 284 * p ≤ j ∧ j < 284 * p + 284 then T 1 (j - 284 * p) else T 2 j)
    (hv : ∃ n m un uc up d : Nat, vr (k_wi S' (33 + 16 * p)) (T 1) n m un uc up d 9999) : k_R S' L T' M := by
  obtain ⟨⟨n, m, un, uc, up, d, g1⟩, g2, g3, g4, g5⟩ := h
  refine ⟨⟨n, m, un, uc, up, d, vr_congr (fun c hc => ?_) (fun k _ => ?_) g1⟩, fun i hi => ?_, ?_, g4, ?_⟩
  · rw [wi_at, wi_at, hS (1 + c) (by omega) (by omega)]
  · rw [hT 1 (by decide) (by decide)]
  · by_cases q : i = p
    · subst q
      rw [hS6, hT3, upd_at, upd_at]
      obtain ⟨n', m', un', uc', up', d', q3⟩ := hv
      refine ⟨rfl, Or.inr ⟨rfl, n', m', un', uc', up', d', vr_congr (fun _ _ => rfl) (fun k hk => ?_) q3⟩⟩
      rw [hT2, if_pos (by omega), Nat.add_sub_cancel_left]
    · obtain ⟨q1, q2⟩ := g2 i hi
      rw [hS6, hT3, upd_off _ q, upd_off _ q]
      refine ⟨q1, ?_⟩
      rcases q2 with q2 | ⟨q2, n', m', un', uc', up', d', q3⟩
      · exact Or.inl q2
      · refine Or.inr ⟨q2, n', m', un', uc', up', d', vr_congr (fun c hc => ?_) (fun k hk => ?_) q3⟩
        · rw [wi_at, wi_at, hS (33 + 16 * i + c) (by omega) (by omega)]
        · rw [hT2, if_neg (by omega)]
  · rw [hS 75 (by decide) (by omega), hT 4 (by decide) (by decide)]; exact g3
  · rw [hS 67 (by decide) (by omega), hS 68 (by decide) (by omega), hT 0 (by decide) (by decide), hT 16 (by decide) (by decide)]; exact g5
theorem op_image : k_op_image k_R := by
  intro S L T M p1 hR
  have hR0 := hR
  obtain ⟨⟨n, m, un, uc, up, d, hv⟩, -⟩ := hR
  by_cases h : pz p1 2
  · obtain ⟨j, hj, rfl⟩ := h
    have hz3 : k_w (imC T j 284) 3 j 1 3 = upd (T 3) j 1 := by rw [w_eq, imC_o (by decide)]
    have hz2 : ∀ i, k_w (imC T j 284) 3 j 1 2 i = if 284 * j ≤ i ∧ i < 284 * j + 284 then T 1 (i - 284 * j) else T 2 i := fun i => by rw [w_ne _ _ (by decide), imC_2]
    have hzo : ∀ c, c ≠ 2 → c ≠ 3 → k_w (imC T j 284) 3 j 1 c = T c := fun c h2 h3 => by rw [w_ne _ _ h3, imC_o h2]
    rcases (show j = 0 ∨ j = 1 by omega) with rfl | rfl
    · refine ⟨1, k_w (k_sp S 33 16 (cpV (k_wi S 33) (k_wi S 1))) 66 0 1, k_w (imC T 0 284) 3 0 1, ?_, X7_image_ok hj, R_image hR0 hj (fun c hc h1 => ?_) ?_ hzo hz3 hz2 ⟨n, m, un, uc, up, d, vr_congr (fun c hc => ?_) (fun _ _ => rfl) (vr_copy (W := k_wi S 33) hv)⟩⟩
      · unfold nX6_image
        rw [upTo_inK 2 (by decide) 2 rfl (z_nI hj), b1_some, if_neg (by decide), if_pos (by decide), X5_copyOf_spec, b1_some, if_ok hj (by decide), nI_clamp (by decide), nar1]
      · rw [w_ne _ _ (by omega), sp_out (by omega)]
      · rw [w_eq, sp_out (by decide)]
      · rw [wi_at, w_ne _ _ (by omega), sp_in (by omega) (by omega)]
        exact congrArg _ (by omega)
    · refine ⟨1, k_w (k_sp S 49 16 (cpV (k_wi S 49) (k_wi S 1))) 66 1 1, k_w (imC T 1 284) 3 1 1, ?_, X7_image_ok hj, R_image hR0 hj (fun c hc h1 => ?_) ?_ hzo hz3 hz2 ⟨n, m, un, uc, up, d, vr_congr (fun c hc => ?_) (fun _ _ => rfl) (vr_copy (W := k_wi S 49) hv)⟩⟩
      · unfold nX6_image
        rw [upTo_inK 2 (by decide) 2 rfl (z_nI hj), b1_some, if_neg (by decide), if_neg (by decide), if_pos (by decide), X5_copyOf_spec, b1_some, if_ok hj (by decide), nI_clamp (by decide), nar1]
      · rw [w_ne _ _ (by omega), sp_out (by omega)]
      · rw [w_eq, sp_out (by decide)]
      · rw [wi_at, w_ne _ _ (by omega), sp_in (by omega) (by omega)]
        exact congrArg _ (by omega)
  · refine ⟨-2, _, _, ?_, ?_, R_bad 0 (by decide) hR0⟩
    · unfold nX6_image
      rw [upTo_outK 2 (by decide) 2 rfl h, b1_some, if_pos rfl, bad6]; rfl
    · unfold nX7_image
      rw [in_outK 2 (by decide) 1 (by decide) h, b1_some, if_pos rfl, bad7]; rfl
def frC (T : Nat → Nat → Int32) (p i : Nat) : Nat → Nat → Int32 := k_r T 1 (fun j => if j < i then T 2 (284 * p + j) else T 1 j)
theorem frC_0 (T : Nat → Nat → Int32) (p : Nat) : frC T p 0 = T := by
  funext c
  unfold frC k_r
  by_cases h : c = 1
  · rw [if_pos h, h]; funext j; rw [if_neg (by omega)]
  · rw [if_neg h]
theorem frC_1 (T : Nat → Nat → Int32) (p i j : Nat) : frC T p i 1 j = if j < i then T 2 (284 * p + j) else T 1 j := by unfold frC; rw [r_eq]
theorem frC_o {T : Nat → Nat → Int32} {p i c : Nat} (h : c ≠ 1) : frC T p i c = T c := r_ne _ h
theorem frC_step (T : Nat → Nat → Int32) (p i : Nat) : k_w (frC T p i) 1 i (T 2 (284 * p + i)) = frC T p (i + 1) := by
  funext c
  by_cases h : c = 1
  · subst h
    rw [w_eq]
    funext j
    show (if j = i then T 2 (284 * p + i) else frC T p i 1 j) = frC T p (i + 1) 1 j
    rw [frC_1, frC_1]
    by_cases q : j = i
    · subst q; rw [if_pos rfl, if_pos (by omega)]
    · rw [if_neg q]
      by_cases q2 : j < i
      · rw [if_pos q2, if_pos (by omega)]
      · rw [if_neg q2, if_neg (by omega)]
  · rw [w_ne _ _ h, frC_o h, frC_o h]
theorem op_from : k_op_from k_R := by
  intro S L T M p1 hR
  have hR0 := hR
  obtain ⟨⟨n, m, un, uc, up, d, hv⟩, hi2, -⟩ := hR
  by_cases h : pz p1 2
  · obtain ⟨j, hj, rfl⟩ := h
    obtain ⟨q1, q2⟩ := hi2 j hj
    by_cases c0 : T 3 j = 0
    · refine ⟨-3, _, _, ?_, ?_, R_bad 1 (by decide) hR0⟩
      · unfold nX6_from
        rw [upTo_inK 2 (by decide) 2 rfl (z_nI hj), b1_some, if_neg (by decide), if_ok hj (by decide), nI_clamp (by omega), if_pos (q1.trans c0), no6]; rfl
      · unfold nX7_from
        rw [in_inK 2 (by decide) 1 (by decide) (z_nI hj), b1_some, if_neg (by decide), if_ok hj (by decide), nI_clamp (by omega), if_pos c0, no7]; rfl
    · have c6 : ¬ S 66 j = 0 := fun q => c0 (q1.symm.trans q)
      obtain ⟨-, n', m', un', uc', up', d', q3⟩ := q2.resolve_left c6
      have hv' : vr (cpV (k_wi S 1) (k_wi S (33 + 16 * j))) (frC T j 284 1) n' m' un' uc' up' d' 9999 := vr_congr (fun _ _ => rfl) (fun k hk => by rw [frC_1, if_pos hk]) (vr_copy (W := k_wi S 1) q3)
      refine ⟨1, k_sp S 1 16 (cpV (k_wi S 1) (k_wi S (33 + 16 * j))), frC T j 284, ?_, ?_, R_sp hv' (fun c hc => frC_o (by omega)) (by rw [frC_o (by decide)]) hR0⟩
      · unfold nX6_from
        rw [upTo_inK 2 (by decide) 2 rfl (z_nI hj), b1_some, if_neg (by decide), if_ok hj (by decide), nI_clamp (by omega), if_neg c6]
        rcases (show j = 0 ∨ j = 1 by omega) with rfl | rfl
        · rw [if_pos (by decide), X5_copyOf_spec, b1_some]
        · rw [if_neg (by decide), if_pos (by decide), X5_copyOf_spec, b1_some]
      · unfold nX7_from
        have e : ∀ i, ((284 : Int32) * nI j) + nI i = nI (284 * j + i) := fun i => by rw [show (284 : Int32) = nI 284 from rfl, pk_mul, nI_add]
        rw [in_inK 2 (by decide) 1 (by decide) (z_nI hj), b1_some, if_neg (by decide), if_ok hj (by decide), nI_clamp (by omega), if_neg c0, show ((0 : Int32), T) = (nI 0, frC T j 0) from by rw [frC_0]; rfl]
        refine it_for (fun i => (nI i, frC T j i)) 284 (by decide) (fun i hi => ?_) ?_
        · show nX7_from_l33 (nI j) (nI i) (frC T j i) M = _
          unfold nX7_from_l33
          rw [show (284 : Int32) = nI 284 from rfl, if_leF hi (by decide), show (nI 284 * nI j) + nI i = nI (284 * j + i) from e i, if_ok (show 284 * j + i < 568 by omega) (by decide), if_ok hi (by decide), nI_clamp (by omega), nI_clamp (by omega), frC_o (by decide), frC_step, nI_1]
        · show nX7_from_l33 (nI j) (nI 284) (frC T j 284) M = _
          unfold nX7_from_l33
          rw [if_pos (by decide)]
          rfl
  · refine ⟨-2, _, _, ?_, ?_, R_bad 0 (by decide) hR0⟩
    · unfold nX6_from
      rw [upTo_outK 2 (by decide) 2 rfl h, b1_some, if_pos rfl, bad6]; rfl
    · unfold nX7_from
      rw [in_outK 2 (by decide) 1 (by decide) h, b1_some, if_pos rfl, bad7]; rfl
