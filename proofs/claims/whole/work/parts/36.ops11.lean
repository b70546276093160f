/-! a row more in the notes, in the comings -/
theorem putN_spec {S : Nat → Nat → Int32} {u x : Nat} (h : S 11 3 = nI (u + 1)) (hu : u < 6) (hx : x < 6) (v : Int32) : nX3_put 36 (6 : Int32) (6 : Int32) (k_wi S 11) (nI x) v = some (k_w (k_wi S 11) 1 (6 * u + x) v) := by
  have e0 : k_wi S 11 0 3 = nI (u + 1) := h
  have e : ((k_wi S 11 0 3 - (1 : Int32)) * (6 : Int32)) + nI x = nI (6 * u + x) := by
    rw [e0, show (1 : Int32) = nI 1 from rfl, pk_sub (by omega), Nat.add_sub_cancel, show (6 : Int32) = nI 6 from rfl, pk_mul, nI_add, Nat.mul_comm u 6]
  unfold nX3_put
  rw [e, if_neg (nI_pos (by omega)), show (Int32.ofNat 36) = nI 36 from rfl, if_leF (by omega) (by decide), if_ok (show 6 * u + x < 36 by omega) (by decide), nI_clamp (by omega)]
theorem putC_spec {S : Nat → Nat → Int32} {u x : Nat} (h : S 13 3 = nI (u + 1)) (hu : u < 6) (hx : x < 4) (v : Int32) : nX3_put 24 (4 : Int32) (6 : Int32) (k_wi S 13) (nI x) v = some (k_w (k_wi S 13) 1 (4 * u + x) v) := by
  have e0 : k_wi S 13 0 3 = nI (u + 1) := h
  have e : ((k_wi S 13 0 3 - (1 : Int32)) * (4 : Int32)) + nI x = nI (4 * u + x) := by
    rw [e0, show (1 : Int32) = nI 1 from rfl, pk_sub (by omega), Nat.add_sub_cancel, show (4 : Int32) = nI 4 from rfl, pk_mul, nI_add, Nat.mul_comm u 4]
  unfold nX3_put
  rw [e, if_neg (nI_pos (by omega)), show (Int32.ofNat 24) = nI 24 from rfl, if_leF (by omega) (by decide), if_ok (show 4 * u + x < 24 by omega) (by decide), nI_clamp (by omega)]
theorem sp_one (S : Nat → Nat → Int32) (b j : Nat) (v : Int32) : k_sp S b 2 (k_w (k_wi S b) 1 j v) = k_w S (b + 1) j v := by
  funext c
  by_cases h : b ≤ c ∧ c < b + 2
  · rw [sp_in h.1 h.2]
    rcases (show c = b ∨ c = b + 1 by omega) with rfl | rfl
    · rw [Nat.sub_self]
      exact (w_ne (S := k_wi S c) (c := 1) (i := 0) j v (by decide)).trans (w_ne (S := S) (c := c + 1) (i := c) j v (by omega)).symm
    · rw [Nat.add_sub_cancel_left]
      exact (w_eq (k_wi S b) 1 j v).trans (w_eq S (b + 1) j v).symm
  · rw [sp_out (by omega), w_ne _ _ (by omega)]
theorem sp_zero (S : Nat → Nat → Int32) (b j : Nat) (v : Int32) : k_sp S b 2 (k_w (k_wi S b) 0 j v) = k_w S b j v := by
  funext c
  by_cases h : b ≤ c ∧ c < b + 2
  · rw [sp_in h.1 h.2]
    rcases (show c = b ∨ c = b + 1 by omega) with rfl | rfl
    · rw [Nat.sub_self]
      exact (w_eq (k_wi S c) 0 j v).trans (w_eq S c j v).symm
    · rw [Nat.add_sub_cancel_left]
      exact (w_ne (S := k_wi S b) (c := 0) (i := 1) j v (by decide)).trans (w_ne (S := S) (c := b) (i := b + 1) j v (by omega)).symm
  · rw [sp_out (by omega), w_ne _ _ (by omega)]
theorem X6_note_put {S : Nat → Nat → Int32} {L : Nat → Nat → Int64} {un : Nat} (hu : S 11 3 = nI un) (hun : un < 6) {p1 p2 p3 p4 p5 p6 : Int32} (h4 : pz p4 4) (h5 : pz p5 100) (h6 : pz p6 31) : nX6_note_j31 p1 p2 p3 p4 p5 p6 1 S L = some (nI (un + 1), k_w (k_w (k_w (k_w (k_w (k_w (k_w S 11 3 (nI (un + 1))) 12 (6 * un) p1) 12 (6 * un + 1) p2) 12 (6 * un + 2) p3) 12 (6 * un + 3) p4) 12 (6 * un + 4) p5) 12 (6 * un + 5) p6) := by
  have e0 : k_wi S 11 0 3 = nI un := hu
  have ebeg : nX3_begin 36 (6 : Int32) (6 : Int32) (k_wi S 11) = some (k_w (k_wi S 11) 0 3 (nI (un + 1))) := by
    unfold nX3_begin
    rw [e0, show (6 : Int32) = nI 6 from rfl, if_leF hun (by decide), nI_1]
  have hp : ∀ (Z : Nat → Nat → Int32) (x : Nat) (y : Int32) (v : Int32), Z 11 3 = nI (un + 1) → x < 6 → y = nI x → nX3_put 36 (6 : Int32) (6 : Int32) (k_wi Z 11) y v = some (k_w (k_wi Z 11) 1 (6 * un + x) v) := fun Z x y v hz hx hy => by rw [hy]; exact putN_spec hz hun hx v
  unfold nX6_note_j31 nX3_isFull
  rw [if_neg (by decide), upTo_inK 4 (by decide) 4 rfl h4, b1_some, if_neg (by decide), upTo_inK 100 (by decide) 100 rfl h5, b1_some, if_neg (by decide), upTo_inK 31 (by decide) 31 rfl h6, b1_some, if_neg (by decide), if_pos (show k_wi S 11 0 3 < (6 : Int32) from by rw [e0]; exact (nI_ltI (show un < 2 ^ 31 by omega) (show 6 < 2 ^ 31 by decide)).mpr hun), b1_some, if_pos rfl, ebeg, b1_some, sp_zero]
  rw [hp _ 0 0 p1 (by rw [w_at]) (by decide) rfl, b1_some, sp_one, hp _ 1 1 p2 (by rw [w_ne _ _ (by decide), w_at]) (by decide) rfl, b1_some, sp_one, hp _ 2 2 p3 (by rw [w_ne _ _ (by decide), w_ne _ _ (by decide), w_at]) (by decide) rfl, b1_some, sp_one, hp _ 3 3 p4 (by rw [w_ne _ _ (by decide), w_ne _ _ (by decide), w_ne _ _ (by decide), w_at]) (by decide) rfl, b1_some, sp_one, hp _ 4 4 p5 (by rw [w_ne _ _ (by decide), w_ne _ _ (by decide), w_ne _ _ (by decide), w_ne _ _ (by decide), w_at]) (by decide) rfl, b1_some, sp_one, hp _ 5 5 p6 (by rw [w_ne _ _ (by decide), w_ne _ _ (by decide), w_ne _ _ (by decide), w_ne _ _ (by decide), w_ne _ _ (by decide), w_at]) (by decide) rfl, b1_some, sp_one]
  rw [w_ne (i := 11) _ _ (by decide), w_ne (i := 11) _ _ (by decide), w_ne (i := 11) _ _ (by decide), w_ne (i := 11) _ _ (by decide), w_ne (i := 11) _ _ (by decide), w_ne (i := 11) _ _ (by decide), w_at]
  rfl
theorem six_if {α : Type} {f : Nat → α} {j u : Nat} {a0 a1 a2 a3 a4 a5 : α} {b : Nat} : (if b + j = b + 6 * u + 5 then a5 else if b + j = b + 6 * u + 4 then a4 else if b + j = b + 6 * u + 3 then a3 else if b + j = b + 6 * u + 2 then a2 else if b + j = b + 6 * u + 1 then a1 else if b + j = b + 6 * u then a0 else f (b + j)) = if j = 6 * u + 5 then a5 else if j = 6 * u + 4 then a4 else if j = 6 * u + 3 then a3 else if j = 6 * u + 2 then a2 else if j = 6 * u + 1 then a1 else if j = 6 * u then a0 else f (b + j) := by
  by_cases c5 : j = 6 * u + 5
  · rw [if_pos c5, if_pos (by omega)]
  · rw [if_neg c5, if_neg (by omega)]
    by_cases c4 : j = 6 * u + 4
    · rw [if_pos c4, if_pos (by omega)]
    · rw [if_neg c4, if_neg (by omega)]
      by_cases c3 : j = 6 * u + 3
      · rw [if_pos c3, if_pos (by omega)]
      · rw [if_neg c3, if_neg (by omega)]
        by_cases c2 : j = 6 * u + 2
        · rw [if_pos c2, if_pos (by omega)]
        · rw [if_neg c2, if_neg (by omega)]
          by_cases c1 : j = 6 * u + 1
          · rw [if_pos c1, if_pos (by omega)]
          · rw [if_neg c1, if_neg (by omega)]
            by_cases c0 : j = 6 * u
            · rw [if_pos c0, if_pos (by omega)]
            · rw [if_neg c0, if_neg (by omega)]
theorem op_note : k_op_note k_R := by
  intro S L T M p1 p2 p3 p4 p5 p6 hR
  have hR0 := hR
  obtain ⟨⟨n, m, un, uc, up, d, hv⟩, -⟩ := hR
  have hv0 := hv
  obtain ⟨⟨t0, t1, t2, t3, t4, t22⟩, ⟨b1, b2, b3, b4, b5, b6⟩, ⟨v0, v1, v2, v3, v4, v5⟩, hp, hnd, hth, hno, hca, hcq, hpa⟩ := hv
  have v0' : S 1 12 = nI n := v0
  have v2' : S 11 3 = nI un := v2
  by_cases g : pz p1 n ∧ pz p2 10 ∧ pz p3 10 ∧ pz p4 4 ∧ pz p5 100 ∧ pz p6 31
  · obtain ⟨g1, g2, g3, g4, g5, g6⟩ := g
    have x6 : ∀ w, nX6_note_j31 p1 p2 p3 p4 p5 p6 1 S L = w → nX6_note S L p1 p2 p3 p4 p5 p6 = w := by
      intro w hw
      unfold nX6_note
      rw [isPerson_in v0' b1 g1, b1_some, if_neg (by decide), upTo_inK 10 (by decide) 10 rfl g2, b1_some, if_neg (by decide), upTo_inK 10 (by decide) 10 rfl g3, b1_some, if_neg (by decide)]
      exact hw
    by_cases c : un < 6
    · obtain ⟨S', hS'⟩ : ∃ S', S' = k_w (k_w (k_w (k_w (k_w (k_w (k_w S 11 3 (nI (un + 1))) 12 (6 * un) p1) 12 (6 * un + 1) p2) 12 (6 * un + 2) p3) 12 (6 * un + 3) p4) 12 (6 * un + 4) p5) 12 (6 * un + 5) p6 := ⟨_, rfl⟩
      obtain ⟨Z, hZ⟩ : ∃ Z, Z = k_w (k_w (k_w (k_w (k_w (k_w (k_w T 1 (80 + 6 * un) p1) 1 (80 + 6 * un + 1) p2) 1 (80 + 6 * un + 2) p3) 1 (80 + 6 * un + 3) p4) 1 (80 + 6 * un + 4) p5) 1 (80 + 6 * un + 5) p6) 1 2 (nI (un + 1)) := ⟨_, rfl⟩
      have hz : ∀ j, Z 1 j = if j = 2 then nI (un + 1) else if j = 80 + 6 * un + 5 then p6 else if j = 80 + 6 * un + 4 then p5 else if j = 80 + 6 * un + 3 then p4 else if j = 80 + 6 * un + 2 then p3 else if j = 80 + 6 * un + 1 then p2 else if j = 80 + 6 * un then p1 else T 1 j := fun j => by rw [hZ]; rfl
      have hs : ∀ j, S' 12 j = if j = 6 * un + 5 then p6 else if j = 6 * un + 4 then p5 else if j = 6 * un + 3 then p4 else if j = 6 * un + 2 then p3 else if j = 6 * un + 1 then p2 else if j = 6 * un then p1 else S 12 j := fun j => by rw [hS']; rfl
      have hs11 : S' 11 3 = nI (un + 1) := by rw [hS']; rfl
      have hso : ∀ i, i ≠ 11 → i ≠ 12 → S' i = S i := by
        intro i h1 h2
        rw [hS', w_ne _ _ h2, w_ne _ _ h2, w_ne _ _ h2, w_ne _ _ h2, w_ne _ _ h2, w_ne _ _ h2, w_ne _ _ h1]
      have hzo : ∀ i, i ≠ 1 → Z i = T i := by
        intro i h1
        rw [hZ, w_ne _ _ h1, w_ne _ _ h1, w_ne _ _ h1, w_ne _ _ h1, w_ne _ _ h1, w_ne _ _ h1, w_ne _ _ h1]
      have hzj : ∀ j, j ≠ 2 → (j < 80 ∨ 116 ≤ j) → Z 1 j = T 1 j := by
        intro j h1 h2
        rw [hz, if_neg h1, if_neg (by omega), if_neg (by omega), if_neg (by omega), if_neg (by omega), if_neg (by omega), if_neg (by omega)]
      refine ⟨nI (un + 1), S', Z, ?_, ?_, R_now (S := S) (T := T) (L := L) (M := M) (n := n) (m := m) (un := un + 1) (uc := uc) (up := up) (d := d) (vr_notes hv0 (fun i hi => hso (1 + i) (by omega) (by omega)) ⟨hs11, ?_, by rw [hz, if_pos rfl], by rw [hzj 3 (by decide) (by decide)]; exact t3, by omega, b4⟩ (fun j h2 h3 hj => hzj j h2 (by omega)) (fun j hj => ?_) (fun j hj => ?_) (fun i hi => ?_)) (fun i hi => hso i (by omega) (by omega)) (by rw [hso 67 (by decide) (by decide)]) (fun i hi => hzo i (by omega)) (by rw [hzo 0 (by decide)]) ⟨rfl, rfl⟩ ⟨rfl, rfl⟩ hR0⟩
      · rw [hS']
        exact x6 _ (X6_note_put v2' c g4 g5 g6)
      · unfold nX7_note
        have e6 : (6 : Int32) * nI un = nI (6 * un) := by rw [show (6 : Int32) = nI 6 from rfl, pk_mul]
        have e80 : (80 : Int32) + nI (6 * un) = nI (80 + 6 * un) := nI_add 80 (6 * un)
        have hx : ∀ x y : Nat, nI x + nI y = nI (x + y) := nI_add
        rw [isOne7_in t0 b1 g1, b1_some, if_neg (by decide), isNeed_in g2, b1_some, if_neg (by decide), isNeed_in g3, b1_some, if_neg (by decide), isSort_in g4, b1_some, if_neg (by decide), in_inK 100 (by decide) 99 (by decide) g5, b1_some, if_neg (by decide), in_inK 31 (by decide) 30 (by decide) g6, b1_some, if_neg (by decide), t2, if_neg (show ¬ nI un = 6 from fun q => absurd ((nI_eq (show un < 2 ^ 31 by omega) (show 6 < 2 ^ 31 by decide)).mp q) (by omega)), e6, e80, show nI (80 + 6 * un) + 1 = nI (80 + 6 * un + 1) from hx _ 1, show nI (80 + 6 * un) + 2 = nI (80 + 6 * un + 2) from hx _ 2, show nI (80 + 6 * un) + 3 = nI (80 + 6 * un + 3) from hx _ 3, show nI (80 + 6 * un) + 4 = nI (80 + 6 * un + 4) from hx _ 4, show nI (80 + 6 * un) + 5 = nI (80 + 6 * un + 5) from hx _ 5, if_ok (show 80 + 6 * un < 284 by omega) (by decide), if_ok (show 80 + 6 * un + 1 < 284 by omega) (by decide), if_ok (show 80 + 6 * un + 2 < 284 by omega) (by decide), if_ok (show 80 + 6 * un + 3 < 284 by omega) (by decide), if_ok (show 80 + 6 * un + 4 < 284 by omega) (by decide), if_ok (show 80 + 6 * un + 5 < 284 by omega) (by decide)]
        rw [nI_clamp (show 80 + 6 * un < 2 ^ 31 by omega), nI_clamp (show 80 + 6 * un + 1 < 2 ^ 31 by omega), nI_clamp (show 80 + 6 * un + 2 < 2 ^ 31 by omega), nI_clamp (show 80 + 6 * un + 3 < 2 ^ 31 by omega), nI_clamp (show 80 + 6 * un + 4 < 2 ^ 31 by omega), nI_clamp (show 80 + 6 * un + 5 < 2 ^ 31 by omega)]
        have e2 : k_w (k_w (k_w (k_w (k_w (k_w T 1 (80 + 6 * un) p1) 1 (80 + 6 * un + 1) p2) 1 (80 + 6 * un + 2) p3) 1 (80 + 6 * un + 3) p4) 1 (80 + 6 * un + 4) p5) 1 (80 + 6 * un + 5) p6 1 2 = nI un := by
          rw [w_off _ (by omega), w_off _ (by omega), w_off _ (by omega), w_off _ (by omega), w_off _ (by omega), w_off _ (by omega), t2]
        rw [e2, nI_1, ← hZ, hz 2, if_pos rfl]
      · exact (congrFun (hso 13 (by decide) (by decide)) 3).trans v3
      · rw [hz, if_neg (by omega), six_if]
        refine (hs j).trans ?_
        by_cases q : j < 6 * un
        · rw [if_neg (by omega), if_neg (by omega), if_neg (by omega), if_neg (by omega), if_neg (by omega), if_neg (by omega), if_neg (by omega), if_neg (by omega), if_neg (by omega), if_neg (by omega), if_neg (by omega), if_neg (by omega)]
          exact hno j q
        · rcases (show j = 6 * un ∨ j = 6 * un + 1 ∨ j = 6 * un + 2 ∨ j = 6 * un + 3 ∨ j = 6 * un + 4 ∨ j = 6 * un + 5 by omega) with rfl | rfl | rfl | rfl | rfl | rfl
          · rw [if_neg (by omega), if_neg (by omega), if_neg (by omega), if_neg (by omega), if_neg (by omega), if_pos rfl, if_neg (by omega), if_neg (by omega), if_neg (by omega), if_neg (by omega), if_neg (by omega), if_pos rfl]
          · rw [if_neg (by omega), if_neg (by omega), if_neg (by omega), if_neg (by omega), if_pos rfl, if_neg (by omega), if_neg (by omega), if_neg (by omega), if_neg (by omega), if_pos rfl]
          · rw [if_neg (by omega), if_neg (by omega), if_neg (by omega), if_pos rfl, if_neg (by omega), if_neg (by omega), if_neg (by omega), if_pos rfl]
          · rw [if_neg (by omega), if_neg (by omega), if_pos rfl, if_neg (by omega), if_neg (by omega), if_pos rfl]
          · rw [if_neg (by omega), if_pos rfl, if_neg (by omega), if_pos rfl]
          · rw [if_pos rfl, if_pos rfl]
      · rw [hzj (116 + j) (by omega) (by omega)]
        exact (congrFun (hso 14 (by decide) (by decide)) j).trans (hca j hj)
      · rw [hzj (116 + 4 * i + 1) (by omega) (by omega)]; exact hcq i hi
    · have e6 : un = 6 := by omega
      refine ⟨-4, _, _, ?_, ?_, R_bad 2 (by decide) hR0⟩
      · refine x6 _ ?_
        unfold nX6_note_j31 nX3_isFull
        rw [if_neg (by decide), upTo_inK 4 (by decide) 4 rfl g4, b1_some, if_neg (by decide), upTo_inK 100 (by decide) 100 rfl g5, b1_some, if_neg (by decide), upTo_inK 31 (by decide) 31 rfl g6, b1_some, if_neg (by decide), if_neg (show ¬ k_wi S 11 0 3 < (6 : Int32) from by rw [show k_wi S 11 0 3 = nI un from v2', e6]; decide), b1_some, if_neg (by decide), full6]; rfl
      · unfold nX7_note
        rw [isOne7_in t0 b1 g1, b1_some, if_neg (by decide), isNeed_in g2, b1_some, if_neg (by decide), isNeed_in g3, b1_some, if_neg (by decide), isSort_in g4, b1_some, if_neg (by decide), in_inK 100 (by decide) 99 (by decide) g5, b1_some, if_neg (by decide), in_inK 31 (by decide) 30 (by decide) g6, b1_some, if_neg (by decide), if_pos (show T 1 2 = 6 from by rw [t2, e6]; rfl), full7]; rfl
  · refine ⟨-2, _, _, ?_, ?_, R_bad 0 (by decide) hR0⟩
    · have hj : ∀ w, nX6_note_j67 S L = w → nX6_note S L p1 p2 p3 p4 p5 p6 = w := by
        intro w hw
        unfold nX6_note
        by_cases g1 : pz p1 n
        · rw [isPerson_in v0' b1 g1, b1_some, if_neg (by decide)]
          by_cases g2 : pz p2 10
          · rw [upTo_inK 10 (by decide) 10 rfl g2, b1_some, if_neg (by decide)]
            by_cases g3 : pz p3 10
            · rw [upTo_inK 10 (by decide) 10 rfl g3, b1_some, if_neg (by decide)]
              unfold nX6_note_j31
              rw [if_neg (by decide)]
              by_cases g4 : pz p4 4
              · rw [upTo_inK 4 (by decide) 4 rfl g4, b1_some, if_neg (by decide)]
                by_cases g5 : pz p5 100
                · rw [upTo_inK 100 (by decide) 100 rfl g5, b1_some, if_neg (by decide)]
                  by_cases g6 : pz p6 31
                  · exact absurd ⟨g1, g2, g3, g4, g5, g6⟩ g
                  · rw [upTo_outK 31 (by decide) 31 rfl g6, b1_some, if_pos rfl]; exact hw
                · rw [upTo_outK 100 (by decide) 100 rfl g5, b1_some, if_pos rfl]; exact hw
              · rw [upTo_outK 4 (by decide) 4 rfl g4, b1_some, if_pos rfl]; exact hw
            · rw [upTo_outK 10 (by decide) 10 rfl g3, b1_some, if_pos rfl]
              unfold nX6_note_j30 nX6_note_j31
              rw [if_pos rfl]; exact hw
          · rw [upTo_outK 10 (by decide) 10 rfl g2, b1_some, if_pos rfl]
            unfold nX6_note_j30 nX6_note_j31
            rw [if_pos rfl]; exact hw
        · rw [isPerson_out v0' b1 g1, b1_some, if_pos rfl]
          unfold nX6_note_j30 nX6_note_j31
          rw [if_pos rfl]; exact hw
      exact hj _ (by unfold nX6_note_j67; rw [bad6]; rfl)
    · have hj : ∀ w, nX7_note_j56 T M = w → nX7_note T M p1 p2 p3 p4 p5 p6 = w := by
        intro w hw
        unfold nX7_note
        by_cases g1 : pz p1 n
        · rw [isOne7_in t0 b1 g1, b1_some, if_neg (by decide)]
          by_cases g2 : pz p2 10
          · rw [isNeed_in g2, b1_some, if_neg (by decide)]
            by_cases g3 : pz p3 10
            · rw [isNeed_in g3, b1_some, if_neg (by decide)]
              by_cases g4 : pz p4 4
              · rw [isSort_in g4, b1_some, if_neg (by decide)]
                by_cases g5 : pz p5 100
                · rw [in_inK 100 (by decide) 99 (by decide) g5, b1_some, if_neg (by decide)]
                  by_cases g6 : pz p6 31
                  · exact absurd ⟨g1, g2, g3, g4, g5, g6⟩ g
                  · rw [in_outK 31 (by decide) 30 (by decide) g6, b1_some, if_pos rfl]; exact hw
                · rw [in_outK 100 (by decide) 99 (by decide) g5, b1_some, if_pos rfl]; exact hw
              · rw [isSort_out g4, b1_some, if_pos rfl]; exact hw
            · rw [isNeed_out g3, b1_some, if_pos rfl]; exact hw
          · rw [isNeed_out g2, b1_some, if_pos rfl]; exact hw
        · rw [isOne7_out t0 b1 g1, b1_some, if_pos rfl]; exact hw
      exact hj _ (by unfold nX7_note_j56; rw [bad7]; rfl)
