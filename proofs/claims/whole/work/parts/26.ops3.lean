/-! what a call changes in the valley alone; what is read behind a write -/
theorem kw_get (S : Nat → Nat → Int32) (c k : Nat) (x : Int32) (i j : Nat) : k_w S c k x i j = if i = c then (if j = k then x else S c j) else S i j := by
  unfold k_w upd
  by_cases h : i = c
  · rw [if_pos h, if_pos h]
  · rw [if_neg h, if_neg h]
theorem ks_get {α : Type} (S V : Nat → α) (b n i : Nat) : k_sp S b n V i = if b ≤ i ∧ i < b + n then V (i - b) else S i := rfl
theorem kl_get (S : Nat → Nat → Int64) (c k : Nat) (x : Int64) (i j : Nat) : k_wl S c k x i j = if i = c then (if j = k then x else S c j) else S i j := by
  unfold k_wl vp_updL
  by_cases h : i = c
  · rw [if_pos h, if_pos h]
  · rw [if_neg h, if_neg h]
theorem R_now {S S' T T' : Nat → Nat → Int32} {L L' M M' : Nat → Nat → Int64} {n m un uc up d : Nat} (hv : vr (k_wi S' 1) (T' 1) n m un uc up d 9999) (hS : ∀ c, (33 ≤ c ∧ c < 65 ∨ c = 66 ∨ c = 68 ∨ c = 75) → S' c = S c) (hS2 : S' 67 2 = S 67 2) (hT : ∀ c, (2 ≤ c ∧ c < 5 ∨ c = 16) → T' c = T c) (hT2 : T' 0 18 = T 0 18) (hL : L' 0 10 = L 0 10 ∧ L' 0 11 = L 0 11) (hM : M' 0 4 = M 0 4 ∧ M' 0 5 = M 0 5) (h : k_R S L T M) : k_R S' L' T' M' := by
  obtain ⟨-, h2, h3, h4, h5⟩ := h
  refine ⟨⟨n, m, un, uc, up, d, hv⟩, fun i hi => ?_, ?_, ?_, ?_⟩
  · obtain ⟨q1, q2⟩ := h2 i hi
    rw [hS 66 (by omega), hT 3 (by omega)]
    refine ⟨q1, ?_⟩
    rcases q2 with q2 | ⟨q2, n', m', un', uc', up', d', q3⟩
    · exact Or.inl q2
    · refine Or.inr ⟨q2, n', m', un', uc', up', d', vr_congr (fun c hc => ?_) (fun k _ => ?_) q3⟩
      · rw [wi_at, wi_at, hS (33 + 16 * i + c) (by omega)]
      · show T' 2 (284 * i + k) = T 2 (284 * i + k)
        rw [hT 2 (by omega)]
  · rw [hS 75 (by omega), hT 4 (by omega)]; exact h3
  · rw [hL.1, hL.2, hM.1, hM.2]; exact h4
  · rw [hS2, hT2, hS 68 (by omega), hT 16 (by omega)]; exact h5
/-- the valley's window alone is another -/
theorem R_sp {S T T' : Nat → Nat → Int32} {L M : Nat → Nat → Int64} {V : Nat → Nat → Int32} {n m un uc up d : Nat} (hv : vr V (T' 1) n m un uc up d 9999) (hT : ∀ c, (2 ≤ c ∧ c < 5 ∨ c = 16) → T' c = T c) (hT2 : T' 0 18 = T 0 18) (h : k_R S L T M) : k_R (k_sp S 1 16 V) L T' M := by
  refine R_now (S := S) (T := T) (L := L) (M := M) (n := n) (m := m) (un := un) (uc := uc) (up := up) (d := d) ?_ (fun c hc => sp_out (by omega)) (by rw [sp_out (by omega)]) hT hT2 ⟨rfl, rfl⟩ ⟨rfl, rfl⟩ h
  exact vr_congr (fun c hc => sp_wi c hc) (fun _ _ => rfl) hv
/-! a walk from hand to hand -/
def wkF (n : Nat) (t ct : Nat → Int32) (k : Nat) (x : Int32) : Nat → Int32
  | 0 => x
  | i + 1 => if wkF n t ct k x i = -1 then -1 else nxF n t ct k (wkF n t ct k x i).toNatClampNeg
theorem wkF_s (n : Nat) (t ct : Nat → Int32) (k : Nat) (x : Int32) (i : Nat) : wkF n t ct k x (i + 1) = if wkF n t ct k x i = -1 then -1 else nxF n t ct k (wkF n t ct k x i).toNatClampNeg := rfl
theorem wkF_in {n q : Nat} {t ct : Nat → Int32} {k : Nat} (hn : n ≤ 7) (hq : q < n) : ∀ i, wkF n t ct k (nI q) i = -1 ∨ ∃ j, j < n ∧ wkF n t ct k (nI q) i = nI j
  | 0 => Or.inr ⟨q, hq, rfl⟩
  | i + 1 => by
    rw [wkF_s]
    rcases wkF_in (t := t) (ct := ct) (k := k) hn hq i with h | ⟨j, hj, h⟩
    · rw [if_pos h]; exact Or.inl rfl
    · rw [h, if_n1 (by omega), nI_clamp (by omega)]
      rcases nxF_who n t ct k j with h2 | ⟨j2, h3, -, h4⟩
      · exact Or.inl h2
      · exact Or.inr ⟨j2, h3, h4⟩
theorem wkF_stop {n : Nat} {t ct : Nat → Int32} {k : Nat} {x : Int32} {i : Nat} (h : wkF n t ct k x i = -1) : ∀ j, wkF n t ct k x (i + j) = -1
  | 0 => h
  | j + 1 => by
    rw [show i + (j + 1) = (i + j) + 1 from rfl, wkF_s, if_pos (wkF_stop h j)]
theorem op_chain : k_op_chain k_R := by
  intro S L T M p1 p2 hR
  have hR0 := hR
  obtain ⟨⟨n, m, un, uc, up, d, hv⟩, -⟩ := hR
  have hv0 := hv
  obtain ⟨⟨t0, t1, t2, t3, t4, t22⟩, ⟨b1, b2, b3, b4, b5, b6⟩, ⟨v0, v1, v2, v3, v4, v5⟩, hp, hnd, hth, -⟩ := hv
  have v1 : S 1 13 = nI m := v1
  by_cases h1 : pz p1 m
  · by_cases h2 : pz p2 51
    · obtain ⟨k, hk, rfl⟩ := h1
      obtain ⟨N, hN, rfl⟩ := h2
      obtain ⟨g5, g6, g7, g8, g9, -, -, -, ⟨q, hq, eq⟩, -⟩ := hth k hk
      have g8 : S 9 k = T 1 (5 + k) := g8
      refine ⟨wkF n (T 1) (fun p => T 1 (15 + p)) k (nI q) N, S, lcF T 1 n, ?_, ?_, R_lc 1 n hR0⟩
      · unfold nX6_chain
        rw [isThing_in v1 b2 (z_nI hk), b1_some, if_neg (by decide), upTo_inK 51 (by decide) 51 rfl (z_nI hN), b1_some, if_neg (by decide), if_ok (show k < 5 by omega) (by decide), nI_clamp (by omega), g8, eq]
        refine it_ind (fun i => (wkF n (T 1) (fun p => T 1 (15 + p)) k (nI q) i, nI i)) N (fun i hi => ?_) ?_ (by omega)
        · show nX6_chain_l35 (nI k) (nI N) (wkF n (T 1) (fun p => T 1 (15 + p)) k (nI q) i) (nI i) S L = _ ∨ _
          unfold nX6_chain_l35
          rw [if_leF (by omega) (by omega)]
          rcases wkF_in (t := T 1) (ct := fun p => T 1 (15 + p)) (k := k) b1 hq i with h | ⟨j, hj, h⟩
          · refine Or.inr ?_
            rw [if_pos h, h, show N = i + (N - i) by omega, wkF_stop h]
            rfl
          · refine Or.inl ?_
            rw [wkF_s, h, if_n1 (by omega), if_n1 (by omega), next6 hv0 hk hj, b1_some, nI_clamp (by omega), nI_1]
        · show nX6_chain_l35 (nI k) (nI N) (wkF n (T 1) (fun p => T 1 (15 + p)) k (nI q) N) (nI N) S L = _
          unfold nX6_chain_l35
          rw [if_leT (Nat.le_refl N) (by omega)]
          rfl
      · unfold nX7_chain
        rw [isThing7_in t1 b2 (z_nI hk), b1_some, if_neg (by decide), in_inK 51 (by decide) 50 (by decide) (z_nI hN), b1_some, if_neg (by decide), X7_layCoats_1_spec b1 t0, b1_some, show (5 : Int32) + nI k = nI (5 + k) from nI_add 5 k, if_ok (show 5 + k < 284 by omega) (by decide), nI_clamp (by omega), lcF_ne (by decide), eq]
        refine it_ind (fun i => (wkF n (T 1) (fun p => T 1 (15 + p)) k (nI q) i, nI i)) N (fun i hi => ?_) ?_ (by omega)
        · show nX7_chain_l47 (nI k) (nI N) (wkF n (T 1) (fun p => T 1 (15 + p)) k (nI q) i) (nI i) (lcF T 1 n) M = _ ∨ _
          unfold nX7_chain_l47
          rw [if_leF (by omega) (by omega)]
          rcases wkF_in (t := T 1) (ct := fun p => T 1 (15 + p)) (k := k) b1 hq i with h | ⟨j, hj, h⟩
          · refine Or.inr ?_
            rw [if_pos h, h, show N = i + (N - i) by omega, wkF_stop h]
            rfl
          · refine Or.inl ?_
            rw [wkF_s, h, if_n1 (by omega), if_n1 (by omega), next7 hv0 hk hj, b1_some, nI_clamp (by omega), nI_1]
        · show nX7_chain_l47 (nI k) (nI N) (wkF n (T 1) (fun p => T 1 (15 + p)) k (nI q) N) (nI N) (lcF T 1 n) M = _
          unfold nX7_chain_l47
          rw [if_leT (Nat.le_refl N) (by omega)]
          rfl
    · refine ⟨-2, _, _, ?_, ?_, R_bad 0 (by decide) hR0⟩
      · unfold nX6_chain nX6_chain_j17 nX6_refusedAsBad
        rw [isThing_in v1 b2 h1, b1_some, if_neg (by decide), upTo_outK 51 (by decide) 51 rfl h2, b1_some, if_pos rfl]; rfl
      · unfold nX7_chain nX7_chain_j20 nX7_bad
        rw [isThing7_in t1 b2 h1, b1_some, if_neg (by decide), in_outK 51 (by decide) 50 (by decide) h2, b1_some, if_pos rfl]; rfl
  · refine ⟨-2, _, _, ?_, ?_, R_bad 0 (by decide) hR0⟩
    · unfold nX6_chain nX6_chain_j17 nX6_refusedAsBad
      rw [isThing_out v1 b2 h1, b1_some, if_pos rfl]; rfl
    · unfold nX7_chain nX7_chain_j20 nX7_bad
      rw [isThing7_out t1 b2 h1, b1_some, if_pos rfl]; rfl
theorem op_loser : k_op_loser k_R := by
  intro S L T M p1 p2 hR
  have hR0 := hR
  obtain ⟨⟨n, m, un, uc, up, d, hv⟩, -⟩ := hR
  have hv0 := hv
  obtain ⟨⟨t0, t1, t2, t3, t4, t22⟩, ⟨b1, b2, b3, b4, b5, b6⟩, ⟨v0, v1, v2, v3, v4, v5⟩, hp, hnd, hth, -⟩ := hv
  have v1 : S 1 13 = nI m := v1
  have v0 : S 1 12 = nI n := v0
  by_cases h1 : pz p1 m
  · by_cases h2 : pz p2 n
    · obtain ⟨k, hk, rfl⟩ := h1
      obtain ⟨q, hq, rfl⟩ := h2
      obtain ⟨st, hst0, hst⟩ : ∃ st : Nat → Int32, st 0 = 0 ∧ ∀ i, st (i + 1) = if nxF n (T 1) (fun p => T 1 (15 + p)) k i = nI q then st i ||| ((1 : Int32) <<< (nI i &&& 31)) else st i :=
        ⟨fun i => Nat.rec (motive := fun _ => Int32) 0 (fun i r => if nxF n (T 1) (fun p => T 1 (15 + p)) k i = nI q then r ||| ((1 : Int32) <<< (nI i &&& 31)) else r) i, rfl, fun _ => rfl⟩
      refine ⟨st n, S, lcF T 1 n, ?_, ?_, R_lc 1 n hR0⟩
      · unfold nX6_loser
        rw [isThing_in v1 b2 (z_nI hk), b1_some, if_neg (by decide), isPerson_in v0 b1 (z_nI hq), b1_some, if_neg (by decide), show ((0 : Int32), (0 : Int32)) = (st 0, nI 0) from by rw [hst0]; rfl]
        refine it_for (fun i => (st i, nI i)) n (by omega) (fun i hi => ?_) ?_
        · show nX6_loser_l26 (nI k) (nI q) (st i) (nI i) S L = _
          unfold nX6_loser_l26
          rw [v0, if_leF (by omega) (by omega), next6 hv0 hk hi, b1_some, hst, nI_1]
          by_cases c : nxF n (T 1) (fun p => T 1 (15 + p)) k i = nI q
          · rw [if_pos c, if_pos c]
          · rw [if_neg c, if_neg c]
        · show nX6_loser_l26 (nI k) (nI q) (st n) (nI n) S L = _
          unfold nX6_loser_l26
          rw [v0, if_pos (by rw [e_le (by omega) (by omega)]; exact Nat.le_refl n)]
          rfl
      · unfold nX7_loser
        rw [isThing7_in t1 b2 (z_nI hk), b1_some, if_neg (by decide), isOne7_in t0 b1 (z_nI hq), b1_some, if_neg (by decide), X7_layCoats_1_spec b1 t0, b1_some, show ((0 : Int32), (0 : Int32)) = (st 0, nI 0) from by rw [hst0]; rfl]
        refine it_for (fun i => (st i, nI i)) n (by omega) (fun i hi => ?_) ?_
        · show nX7_loser_l36 (nI k) (nI q) (st i) (nI i) (lcF T 1 n) M = _
          unfold nX7_loser_l36 nX7_many nX7_loser_i36_j70 nX7_loser_i36_j71
          rw [b1_some, lcF_ne (by decide), t0, if_leF (by omega) (by omega), next7 hv0 hk hi, b1_some, hst, nI_1]
          have hz : st i ||| 0 = st i := by rw [Int32.or_zero]
          by_cases c0 : i = q
          · subst c0
            have hne : ¬ nxF n (T 1) (fun p => T 1 (15 + p)) k i = nI i := by
              intro e
              rcases nxF_who n (T 1) (fun p => T 1 (15 + p)) k i with h2 | ⟨j2, h3, h5, h4⟩
              · rw [e] at h2; rw [e_ne1 (by omega)] at h2; exact h2
              · rw [e, e_eq (by omega) (by omega)] at h4; exact h5 h4.symm
            rw [if_pos rfl, if_neg hne, hz]
          · rw [if_eqF c0 (by omega) (by omega)]
            by_cases c : nxF n (T 1) (fun p => T 1 (15 + p)) k i = nI q
            · rw [if_pos c, if_pos c]
            · rw [if_neg c, if_neg c, hz]
        · show nX7_loser_l36 (nI k) (nI q) (st n) (nI n) (lcF T 1 n) M = _
          unfold nX7_loser_l36 nX7_many
          rw [b1_some, lcF_ne (by decide), t0, if_pos (by rw [e_le (by omega) (by omega)]; exact Nat.le_refl n)]
          rfl
    · refine ⟨-2, _, _, ?_, ?_, R_bad 0 (by decide) hR0⟩
      · unfold nX6_loser nX6_loser_j16 nX6_refusedAsBad
        rw [isThing_in v1 b2 h1, b1_some, if_neg (by decide), isPerson_out v0 b1 h2, b1_some, if_pos rfl]; rfl
      · unfold nX7_loser nX7_loser_j16 nX7_bad
        rw [isThing7_in t1 b2 h1, b1_some, if_neg (by decide), isOne7_out t0 b1 h2, b1_some, if_pos rfl]; rfl
  · refine ⟨-2, _, _, ?_, ?_, R_bad 0 (by decide) hR0⟩
    · unfold nX6_loser nX6_loser_j16 nX6_refusedAsBad
      rw [isThing_out v1 b2 h1, b1_some, if_pos rfl]; rfl
    · unfold nX7_loser nX7_loser_j16 nX7_bad
      rw [isThing7_out t1 b2 h1, b1_some, if_pos rfl]; rfl
