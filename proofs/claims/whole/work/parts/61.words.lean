/-! words and numbers -/
def wdC (wi i : Nat) : Int32 := (k_byt.getD wi []).getD i 0
def mmF (C : Nat → Int32) (a wi : Nat) : Nat := fsF (fun i => !decide (C (a + i) = wdC wi i)) (k_len.getD wi 0) 0
def wdF (C : Nat → Int32) (len p wi : Nat) : Bool := decide (tkF C len p = 1 ∧ enF C len p - atF C len p = k_len.getD wi 0 ∧ mmF C (atF C len p) wi = k_len.getD wi 0)
theorem len_6 {wi : Nat} (h : wi < 6) : 0 < k_len.getD wi 0 ∧ k_len.getD wi 0 ≤ 6 := by
  have hh : ∀ w : Fin 6, 0 < k_len.getD w.val 0 ∧ k_len.getD w.val 0 ≤ 6 := by decide
  exact hh ⟨wi, h⟩
theorem ckT (C : Nat → Int32) (len p : Nat) : ((nI (ckF (tkF C len p)) = 0) ↔ tkF C len p = 1) ∧ ((nI (ckF (tkF C len p)) = 1) ↔ tkF C len p = 2) ∧ ((nI (ckF (tkF C len p)) = 2) ↔ tkF C len p = 3) ∧ ((nI (ckF (tkF C len p)) = 3) ↔ tkF C len p = 0) := ck_all (tk_le C len (atF C len p))
theorem X2_isWord_spec {S : Nat → Nat → Int32} {C : Nat → Int32} {len p wi : Nat} (hl : len ≤ 150) (hp : p ≤ len) (hw : wi < 6) (h : cT S C len p) : nX2_isWord wi S = some (if wdF C len p wi = true then 1 else 0) := by
  obtain ⟨h1, h2, h3, h4, h5⟩ := h
  obtain ⟨K, hK⟩ : ∃ K, K = k_len.getD wi 0 := ⟨_, rfl⟩
  have hk6 := len_6 hw
  rw [← hK] at hk6
  obtain ⟨b1, b2⟩ := at_le C hp
  have b3 := enF_le C hp
  have b4 := en_le C b2
  have hen : atF C len p ≤ enF C len p := b4.1
  unfold nX2_isWord wdF
  rw [h3, h4, h5, pk_sub hen, ← hK, show Int32.ofNat K = nI K from rfl]
  have hck := ckT C len p
  by_cases c1 : tkF C len p = 1
  · rw [if_pos (hck.1.mpr c1)]
    by_cases c2 : enF C len p - atF C len p = K
    · rw [if_eqT c2]
      obtain ⟨-, a2, a3, a4⟩ := fsF_spec (fun i => !decide (C (atF C len p + i) = wdC wi i)) (k_len.getD wi 0) 0
      obtain ⟨mm, hmm⟩ : ∃ mm, mm = mmF C (atF C len p) wi := ⟨_, rfl⟩
      have hmm' : mm = fsF (fun i => !decide (C (atF C len p + i) = wdC wi i)) (k_len.getD wi 0) 0 := hmm
      rw [← hmm'] at a2 a3 a4
      rw [← hmm]
      rw [← hK] at a2 a4
      have key : ∃ x, k_it (fun st => nX2_isWord_l27 wi st S) 1000 (0 : Int32) = some x ∧ x = if decide (tkF C len p = 1 ∧ enF C len p - atF C len p = K ∧ mm = K) = true then 1 else 0 := by
        refine it_inv (fun i st => st = nI i ∧ i ≤ mm) K (by omega) (fun i st hi hv => ?_) (fun st hv => ?_) ⟨rfl, Nat.zero_le mm⟩
        · obtain ⟨q1, q2⟩ := hv
          have hun : nX2_isWord_l27 wi st S = if C (atF C len p + i) = wdC wi i then some (.inl (nI (i + 1))) else k_up (some 0) := by
            unfold nX2_isWord_l27
            rw [q1, ← hK, show Int32.ofNat K = nI K from rfl, if_leF hi (by omega), h4, nI_add, if_ok (show atF C len p + i < 150 by omega) (by decide), nI_clamp (show atF C len p + i < 2 ^ 31 by omega), if_ok hi (by omega), nI_clamp (show i < 2 ^ 31 by omega), h1, nI_1]
            rfl
          by_cases c3 : C (atF C len p + i) = wdC wi i
          · left
            refine ⟨nI (i + 1), by show nX2_isWord_l27 wi st S = _; rw [hun, if_pos c3], rfl, ?_⟩
            rcases Nat.lt_or_ge i mm with q | q
            · exact q
            · have : i = mm := by omega
              have h6 := nb_t (a4 (by omega))
              rw [← this] at h6
              exact absurd c3 h6
          · right
            refine ⟨0, by show nX2_isWord_l27 wi st S = _; rw [hun, if_neg c3]; rfl, ?_⟩
            have : i = mm := by
              rcases Nat.lt_or_ge i mm with q | q
              · exact absurd (nb_f (a3 i (Nat.zero_le i) q)) c3
              · omega
            rw [decide_eq_false (fun q => by have := q.2.2; omega)]
            rfl
        · obtain ⟨q1, q2⟩ := hv
          refine ⟨1, ?_, ?_⟩
          · show nX2_isWord_l27 wi st S = _
            unfold nX2_isWord_l27
            rw [q1, ← hK, show Int32.ofNat K = nI K from rfl, if_leT (Nat.le_refl K) (by omega)]
            rfl
          · rw [decide_eq_true ⟨c1, c2, by omega⟩]
            rfl
      obtain ⟨x, e1, e2⟩ := key
      rw [e1, e2]
    · rw [if_eqF c2 (by omega) (by omega), decide_eq_false (fun q => c2 q.2.1)]
      rfl
  · rw [if_neg (fun q => c1 (hck.1.mp q)), decide_eq_false (fun q => c1 q.1)]
    rfl
def pkF (q0 q1 q2 q3 q4 q5 : Int32) (i : Nat) : Int32 := if i = 0 then q0 else if i = 1 then q1 else if i = 2 then q2 else if i = 3 then q3 else if i = 4 then q4 else q5
theorem spells_pick {α : Type} (F : Int32 → α) (q0 q1 q2 q3 q4 q5 : Int32) {i : Nat} (hi : i < 6) : (if nI i = 0 then F q0 else if nI i = 1 then F q1 else if nI i = 2 then F q2 else if nI i = 3 then F q3 else if nI i = 4 then F q4 else F q5) = F (pkF q0 q1 q2 q3 q4 q5 i) := by
  have e : ∀ k : Nat, k < 6 → (nI i = nI k) = (i = k) := fun k hk => e_eq (by omega) (by omega)
  unfold pkF
  have e0 : (nI i = 0) = (i = 0) := e 0 (by decide)
  have e1 : (nI i = 1) = (i = 1) := e 1 (by decide)
  have e2 : (nI i = 2) = (i = 2) := e 2 (by decide)
  have e3 : (nI i = 3) = (i = 3) := e 3 (by decide)
  have e4 : (nI i = 4) = (i = 4) := e 4 (by decide)
  simp only [e0, e1, e2, e3, e4]
  by_cases c0 : i = 0
  · rw [if_pos c0, if_pos c0]
  · rw [if_neg c0, if_neg c0]
    by_cases c1 : i = 1
    · rw [if_pos c1, if_pos c1]
    · rw [if_neg c1, if_neg c1]
      by_cases c2 : i = 2
      · rw [if_pos c2, if_pos c2]
      · rw [if_neg c2, if_neg c2]
        by_cases c3 : i = 3
        · rw [if_pos c3, if_pos c3]
        · rw [if_neg c3, if_neg c3]
          by_cases c4 : i = 4
          · rw [if_pos c4, if_pos c4]
          · rw [if_neg c4, if_neg c4]
theorem X7_spells_spec {T : Nat → Nat → Int32} {M : Nat → Nat → Int64} {C : Nat → Int32} {len p : Nat} (wi K : Nat) {p1 q0 q1 q2 q3 q4 q5 : Int32} (hl : len ≤ 150) (hp : p ≤ len) (hw : wi < 6) (h : rT T C len p) (hK : K = k_len.getD wi 0) (hp1 : p1 = nI K) (hq : ∀ i, i < K → pkF q0 q1 q2 q3 q4 q5 i = wdC wi i) : nX7_spells T M p1 q0 q1 q2 q3 q4 q5 = some (if wdF C len p wi = true then 1 else 0) := by
  obtain ⟨h18, hC, h19, h20, h21, -⟩ := h
  subst hp1
  have hk6 := len_6 hw
  rw [← hK] at hk6
  obtain ⟨b1, b2⟩ := at_le C hp
  have b3 := enF_le C hp
  have b4 := en_le C b2
  have hen : atF C len p ≤ enF C len p := b4.1
  have h4 := tk_le C len (atF C len p)
  have h4 : tkF C len p ≤ 4 := h4
  have no : ∀ (hf : ¬ (tkF C len p = 1 ∧ enF C len p - atF C len p = K)), k_it (fun st => nX7_spells_l26 (nI K) q0 q1 q2 q3 q4 q5 st.1 st.2 T M) 1000 ((0 : Int32), (0 : Int32)) = some (if wdF C len p wi = true then 1 else 0) := by
    intro hf
    have e1 : wdF C len p wi = false := by
      unfold wdF
      exact decide_eq_false (fun q => hf ⟨q.1, by rw [hK]; exact q.2.1⟩)
    have e2 : nX7_spells_l26 (nI K) q0 q1 q2 q3 q4 q5 0 0 T M = some (.inr 0) := by
      unfold nX7_spells_l26
      rw [if_le0F hk6.1 (by omega), if_pos rfl, if_neg (by decide)]
      rfl
    rw [e1]
    show k_it _ (999 + 1) _ = _
    rw [it_one (f := fun st => nX7_spells_l26 (nI K) q0 q1 q2 q3 q4 q5 st.1 st.2 T M) e2]
    rfl
  have yes : ∀ (c1 : tkF C len p = 1) (c2 : enF C len p - atF C len p = K), k_it (fun st => nX7_spells_l26 (nI K) q0 q1 q2 q3 q4 q5 st.1 st.2 T M) 1000 ((1 : Int32), (0 : Int32)) = some (if wdF C len p wi = true then 1 else 0) := by
    intro c1 c2
    obtain ⟨-, a2, a3, a4⟩ := fsF_spec (fun i => !decide (C (atF C len p + i) = wdC wi i)) (k_len.getD wi 0) 0
    obtain ⟨mm, hmm⟩ : ∃ mm, mm = mmF C (atF C len p) wi := ⟨_, rfl⟩
    have hmm' : mm = fsF (fun i => !decide (C (atF C len p + i) = wdC wi i)) (k_len.getD wi 0) 0 := hmm
    rw [← hmm'] at a2 a3 a4
    unfold wdF
    rw [← hmm, ← hK]
    rw [← hK] at a2 a4
    have key : ∃ x, k_it (fun st => nX7_spells_l26 (nI K) q0 q1 q2 q3 q4 q5 st.1 st.2 T M) 1000 ((1 : Int32), (0 : Int32)) = some x ∧ x = if decide (tkF C len p = 1 ∧ enF C len p - atF C len p = K ∧ mm = K) = true then 1 else 0 := by
      refine it_inv (fun i st => st.2 = nI i ∧ ((st.1 = 1 ∧ i ≤ mm) ∨ (st.1 = 0 ∧ mm < K))) K (by omega) (fun i st hi hv => ?_) (fun st hv => ?_) ⟨rfl, Or.inl ⟨rfl, Nat.zero_le mm⟩⟩
      · obtain ⟨x, y⟩ := st
        obtain ⟨g1, g2⟩ := hv
        have g1 : y = nI i := g1
        rcases g2 with ⟨f1, f2⟩ | ⟨f1, f2⟩
        · left
          have f1 : x = 1 := f1
          have hz : T 16 (atF C len p + i) = C (atF C len p + i) := hC _ (by omega)
          have hun : nX7_spells_l26 (nI K) q0 q1 q2 q3 q4 q5 x y T M = nX7_spells_i26_j103 (nI K) q0 q1 q2 q3 q4 q5 (nI i) (wdC wi i) (C (atF C len p + i)) T M := by
            unfold nX7_spells_l26
            rw [f1, g1, if_leF hi (by omega), if_neg (by decide), h19, nI_add, if_ok (show atF C len p + i < 150 by omega) (by decide), nI_clamp (show atF C len p + i < 2 ^ 31 by omega), hz, ← hq i hi]
            exact spells_pick (fun w => nX7_spells_i26_j103 (nI K) q0 q1 q2 q3 q4 q5 (nI i) w (C (atF C len p + i)) T M) q0 q1 q2 q3 q4 q5 (by omega)
          show ∃ st', nX7_spells_l26 (nI K) q0 q1 q2 q3 q4 q5 x y T M = _ ∧ _
          rw [hun]
          unfold nX7_spells_i26_j103
          rw [nI_1]
          by_cases c3 : C (atF C len p + i) = wdC wi i
          · rw [if_pos c3]
            refine ⟨_, rfl, rfl, Or.inl ⟨rfl, ?_⟩⟩
            rcases Nat.lt_or_ge i mm with q | q
            · exact q
            · have : i = mm := by omega
              have h6 := nb_t (a4 (by omega))
              rw [← this] at h6
              exact absurd c3 h6
          · rw [if_neg c3]
            refine ⟨_, rfl, rfl, Or.inr ⟨rfl, ?_⟩⟩
            have : i = mm := by
              rcases Nat.lt_or_ge i mm with q | q
              · exact absurd (nb_f (a3 i (Nat.zero_le i) q)) c3
              · omega
            omega
        · right
          have f1 : x = 0 := f1
          refine ⟨0, ?_, ?_⟩
          · show nX7_spells_l26 (nI K) q0 q1 q2 q3 q4 q5 x y T M = _
            unfold nX7_spells_l26
            rw [f1, g1, if_leF hi (by omega), if_pos rfl, if_neg (by decide)]
            rfl
          · rw [decide_eq_false (fun q => by have := q.2.2; omega)]
            rfl
      · obtain ⟨x, y⟩ := st
        obtain ⟨g1, g2⟩ := hv
        have g1 : y = nI K := g1
        rcases g2 with ⟨f1, f2⟩ | ⟨f1, f2⟩
        · have f1 : x = 1 := f1
          refine ⟨1, ?_, ?_⟩
          · show nX7_spells_l26 (nI K) q0 q1 q2 q3 q4 q5 x y T M = _
            unfold nX7_spells_l26
            rw [f1, g1, if_leT (Nat.le_refl K) (by omega), if_neg (by decide)]
            rfl
          · rw [decide_eq_true ⟨c1, c2, by omega⟩]
            rfl
        · have f1 : x = 0 := f1
          refine ⟨0, ?_, ?_⟩
          · show nX7_spells_l26 (nI K) q0 q1 q2 q3 q4 q5 x y T M = _
            unfold nX7_spells_l26
            rw [f1, g1, if_leT (Nat.le_refl K) (by omega), if_neg (by decide)]
            rfl
          · rw [decide_eq_false (fun q => by have := q.2.2; omega)]
            rfl
    obtain ⟨x, e1, e2⟩ := key
    rw [e1, e2]
  unfold nX7_spells
  rw [h21, h20]
  by_cases c1 : tkF C len p = 1
  · rw [if_pos (show nI (tkF C len p) = 1 by rw [c1]; rfl)]
    by_cases c2 : enF C len p - atF C len p = K
    · rw [if_eqT c2]; exact yes c1 c2
    · rw [if_eqF c2 (by omega) (by omega)]; exact no (fun q => c2 q.2)
  · rw [if_neg (show ¬ nI (tkF C len p) = 1 from fun q => c1 ((nI_eq (show tkF C len p < 2 ^ 31 by omega) (show 1 < 2 ^ 31 by decide)).mp q))]
    exact no (fun q => c1 q.1)
def okN (C : Nat → Int32) (len q : Nat) (lo hi : Int32) : Prop := tkF C len q = 2 ∧ ¬ vaF C len q < lo ∧ ¬ hi < vaF C len q
theorem at_lt {C : Nat → Int32} {len p : Nat} (hp : p ≤ len) (h : tkF C len p ≠ 0) : atF C len p < len := by
  rcases Nat.eq_or_lt_of_le (at_le C hp).2 with q | q
  · exact absurd (show tkF C len p = 0 by unfold tkF tkA; rw [kd_0 q, if_neg (by omega)]) h
  · exact q
theorem cT_congr {S S' : Nat → Nat → Int32} {C : Nat → Int32} {len p : Nat} (h1 : S' 1 = S 1) (h0 : S' 0 = S 0) (h : cT S C len p) : cT S' C len p := by
  obtain ⟨g1, g2, g3, g4, g5⟩ := h
  exact ⟨h1.trans g1, by rw [h0]; exact g2, by rw [h0]; exact g3, by rw [h0]; exact g4, by rw [h0]; exact g5⟩
theorem rT_congr {T T' : Nat → Nat → Int32} {C : Nat → Int32} {len p : Nat} (h16 : T' 16 = T 16) (h0 : T' 0 = T 0) (h : rT T C len p) : rT T' C len p := by
  obtain ⟨g1, g2, g3, g4, g5, g6⟩ := h
  exact ⟨by rw [h0]; exact g1, by rw [h16]; exact g2, by rw [h0]; exact g3, by rw [h0]; exact g4, by rw [h0]; exact g5, by rw [h0]; exact g6⟩
theorem X2_number_spec {S : Nat → Nat → Int32} {C : Nat → Int32} {len p i : Nat} (hl : len ≤ 150) (hp : p ≤ len) (h : cT S C len p) (hi : i < 6) (lo hb : Int32) : (okN C len (enF C len p) lo hb ∧ ∃ S', nX2_number S (nI i) lo hb = some (1, S') ∧ cT S' C len (enF C len p) ∧ ∀ j, S' 2 j = if j = i then vaF C len (enF C len p) else S 2 j) ∨ (¬ okN C len (enF C len p) lo hb ∧ ∃ S', nX2_number S (nI i) lo hb = some (0, S') ∧ cT S' C len (enF C len p)) := by
  obtain ⟨S1, e1, e2, e3⟩ := X2_next_spec hl hp h
  have hq := (enF_le C hp).2.1
  obtain ⟨q, hqq⟩ : ∃ q, q = enF C len p := ⟨_, rfl⟩
  rw [← hqq] at e3 hq ⊢
  have e3' := e3
  obtain ⟨g1, g2, g3, g4, g5⟩ := e3
  have hck := ckT C len q
  have hel := en_le C (at_le C hq).2
  have hen : atF C len q ≤ enF C len q := hel.1
  have hen2 : enF C len q ≤ len := hel.2.1
  have j63 : ∀ x, x = vaF C len q → tkF C len q = 2 → (okN C len q lo hb ∧ ∃ S', nX2_number_j63 (nI i) lo hb x S1 = some (1, S') ∧ cT S' C len q ∧ ∀ j, S' 2 j = if j = i then vaF C len q else S 2 j) ∨ (¬ okN C len q lo hb ∧ ∃ S', nX2_number_j63 (nI i) lo hb x S1 = some (0, S') ∧ cT S' C len q) := by
    intro x hx c
    have hc : cT (k_w S1 2 i x) C len q := cT_congr (w_ne _ _ (by decide)) (w_ne _ _ (by decide)) e3'
    unfold nX2_number_j63
    rw [if_ok hi (by decide), nI_clamp (by omega)]
    by_cases c1 : x < lo
    · rw [if_pos c1]
      exact Or.inr ⟨fun k => k.2.1 (hx ▸ c1), _, rfl, hc⟩
    · rw [if_neg c1]
      by_cases c2 : hb < x
      · rw [if_pos c2]
        exact Or.inr ⟨fun k => k.2.2 (hx ▸ c2), _, rfl, hc⟩
      · rw [if_neg c2]
        refine Or.inl ⟨⟨c, hx ▸ c1, hx ▸ c2⟩, _, rfl, hc, fun j => ?_⟩
        rw [w_eq, e2 2 (by decide)]
        show (if j = i then x else S 2 j) = _
        rw [hx]
  unfold nX2_number
  rw [e1, b1_some, g3]
  by_cases c : tkF C len q = 2
  · have hat := at_lt hq (show tkF C len q ≠ 0 by omega)
    rw [if_pos (hck.2.1.mpr c), g4, g5, if_ok (show atF C len q < 150 by omega) (by decide), nI_clamp (show atF C len q < 2 ^ 31 by omega), pk_sub hen, show (2 : Int32) = nI 2 from rfl, nI_1, g1]
    by_cases c2 : enF C len q - atF C len q = 2
    · rw [if_eqT c2, if_ok (show atF C len q + 1 < 150 by omega) (by decide), nI_clamp (show atF C len q + 1 < 2 ^ 31 by omega)]
      exact j63 _ (by unfold vaF vaA; exact (if_pos c2).symm) c
    · rw [if_eqF c2 (by omega) (by decide)]
      exact j63 _ (by unfold vaF vaA; exact (if_neg c2).symm) c
  · rw [if_neg (fun k => c (hck.2.1.mp k))]
    exact Or.inr ⟨fun k => c k.1, _, rfl, e3'⟩
theorem X7_takes_spec {T : Nat → Nat → Int32} {M : Nat → Nat → Int64} {C : Nat → Int32} {len q i : Nat} (hl : len ≤ 150) (hq : q ≤ len) (h : rT T C len q) (hi : i < 6) (lo hb : Int32) : (okN C len q lo hb → ∃ T', nX7_takes T M (nI i) lo hb = some (1, T') ∧ rT T' C len (enF C len q) ∧ (∀ c, c ≠ 0 → c ≠ 18 → T' c = T c) ∧ ∀ j, T' 18 j = if j = i then vaF C len q else T 18 j) ∧ (¬ okN C len q lo hb → nX7_takes T M (nI i) lo hb = some (0, T)) := by
  have h' := h
  obtain ⟨g1, g2, g3, g4, g5, g6⟩ := h
  have h4 : tkF C len q ≤ 4 := tk_le C len (atF C len q)
  unfold nX7_takes
  rw [g5]
  by_cases c : tkF C len q = 2
  · rw [if_pos (show nI (tkF C len q) = 2 by rw [c]; rfl), g6 c, in_gen, b1_some]
    refine ⟨fun k => ?_, fun k => ?_⟩
    · rw [if_neg k.2.1, if_neg k.2.2, if_neg (by decide), if_ok hi (by decide), nI_clamp (by omega)]
      obtain ⟨T', e1, e2, e3⟩ := X7_goBehind_spec (M := M) hl hq (rT_congr (T' := k_w T 18 i (vaF C len q)) (w_ne _ _ (by decide)) (w_ne _ _ (by decide)) h')
      rw [e1, b1_some]
      refine ⟨T', rfl, e3, fun c c0 c18 => (e2 c c0).trans (w_ne _ _ c18), fun j => ?_⟩
      rw [e2 18 (by decide), w_eq]
      rfl
    · by_cases c1 : vaF C len q < lo
      · rw [if_pos c1, if_pos rfl]
      · rw [if_neg c1]
        by_cases c2 : hb < vaF C len q
        · rw [if_pos c2, if_pos rfl]
        · exact absurd ⟨c, c1, c2⟩ k
  · have hne : ¬ nI (tkF C len q) = 2 := fun k => c ((nI_eq (show tkF C len q < 2 ^ 31 by omega) (show 2 < 2 ^ 31 by decide)).mp k)
    rw [if_neg hne]
    exact ⟨fun k => absurd k.1 c, fun _ => rfl⟩
theorem num_both {S T : Nat → Nat → Int32} {M : Nat → Nat → Int64} {C : Nat → Int32} {len p : Nat} (G : Nat → Int32 → Prop) (hl : len ≤ 150) (hp : p ≤ len) (hc : cT S C len p) (hr : rT T C len (enF C len p)) (i : Nat) (hi : i < 6) (lo hb : Int32) (hG : ∀ x, ¬ x < lo → ¬ hb < x → G i x) (hn : ∀ j, j < i → S 2 j = T 18 j ∧ G j (T 18 j)) : (∃ S', nX2_number S (nI i) lo hb = some (0, S') ∧ nX7_takes T M (nI i) lo hb = some (0, T) ∧ cT S' C len (enF C len p)) ∨ (∃ S' T', nX2_number S (nI i) lo hb = some (1, S') ∧ nX7_takes T M (nI i) lo hb = some (1, T') ∧ cT S' C len (enF C len p) ∧ rT T' C len (enF C len (enF C len p)) ∧ (∀ c, c ≠ 0 → c ≠ 18 → T' c = T c) ∧ ∀ j, j < i + 1 → S' 2 j = T' 18 j ∧ G j (T' 18 j)) := by
  have hq := (enF_le C hp).2.1
  obtain ⟨t1, t2⟩ := X7_takes_spec (M := M) hl hq hr hi lo hb
  rcases X2_number_spec hl hp hc hi lo hb with ⟨k, S', e1, e2, e3⟩ | ⟨k, S', e1, e2⟩
  · obtain ⟨T', f1, f2, f3, f4⟩ := t1 k
    refine Or.inr ⟨S', T', e1, f1, e2, f2, f3, fun j hj => ?_⟩
    rw [e3 j, f4 j]
    by_cases c : j = i
    · rw [if_pos c, if_pos c]
      exact ⟨rfl, by rw [c]; exact hG _ k.2.1 k.2.2⟩
    · rw [if_neg c, if_neg c]
      exact hn j (by omega)
  · exact Or.inl ⟨S', e1, t2 k, e2⟩
theorem end_both {S T : Nat → Nat → Int32} {C : Nat → Int32} {len p : Nat} (hl : len ≤ 150) (hp : p ≤ len) (hc : cT S C len p) (hr : rT T C len (enF C len p)) : (∃ S', nX2_itemEnds S = some (0, S') ∧ cT S' C len (enF C len p) ∧ ¬ T 0 21 = 3) ∨ (∃ S', nX2_itemEnds S = some (1, S') ∧ cT S' C len (enF C len (enF C len p)) ∧ S' 2 = S 2 ∧ T 0 21 = 3 ∧ tkF C len (enF C len p) = 3) := by
  obtain ⟨S1, e1, e2, e3⟩ := X2_next_spec hl hp hc
  have hq := (enF_le C hp).2.1
  have hck := ckT C len (enF C len p)
  have h4 : tkF C len (enF C len p) ≤ 4 := tk_le C len (atF C len (enF C len p))
  obtain ⟨-, -, -, -, g5, -⟩ := hr
  unfold nX2_itemEnds
  rw [e1, b1_some, e3.2.2.1, g5]
  by_cases c : tkF C len (enF C len p) = 3
  · obtain ⟨S2, f1, f2, f3⟩ := X2_next_spec hl hq e3
    rw [if_pos (hck.2.2.1.mpr c), f1, b1_some]
    exact Or.inr ⟨S2, rfl, f3, (f2 2 (by decide)).trans (e2 2 (by decide)), by rw [c]; rfl, c⟩
  · rw [if_neg (fun k => c (hck.2.2.1.mp k))]
    exact Or.inl ⟨S1, rfl, e3, fun k => c ((nI_eq (show tkF C len (enF C len p) < 2 ^ 31 by omega) (show 3 < 2 ^ 31 by decide)).mp k)⟩
theorem rg_pz {x hb : Int32} (N : Nat) (hN : N < 2 ^ 31) (hhb : hb = nI N - 1) (h1 : ¬ x < 0) (h2 : ¬ hb < x) : pz x N := by
  by_cases c : pz x N
  · exact c
  · have e1 := in_out (x := x) (hi := hb) hN hhb c
    rw [in_spec, if_neg h1, if_neg h2] at e1
    exact absurd e1 (by decide)
