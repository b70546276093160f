/-! a coming more -/
theorem X6_came_put {S : Nat → Nat → Int32} {L : Nat → Nat → Int64} {uc : Nat} (hu : S 13 3 = nI uc) (huc : uc < 6) (p1 p2 p3 p4 : Int32) : nX6_came_j63 p1 p2 p3 p4 S L = some (nI (uc + 1), k_w (k_w (k_w (k_w (k_w S 13 3 (nI (uc + 1))) 14 (4 * uc) p1) 14 (4 * uc + 1) p2) 14 (4 * uc + 2) p3) 14 (4 * uc + 3) p4) := by
  have e0 : k_wi S 13 0 3 = nI uc := hu
  have ebeg : nX3_begin 24 (4 : Int32) (6 : Int32) (k_wi S 13) = some (k_w (k_wi S 13) 0 3 (nI (uc + 1))) := by
    unfold nX3_begin
    rw [e0, show (6 : Int32) = nI 6 from rfl, if_leF huc (by decide), nI_1]
  have hp : ∀ (Z : Nat → Nat → Int32) (x : Nat) (y : Int32) (v : Int32), Z 13 3 = nI (uc + 1) → x < 4 → y = nI x → nX3_put 24 (4 : Int32) (6 : Int32) (k_wi Z 13) y v = some (k_w (k_wi Z 13) 1 (4 * uc + x) v) := fun Z x y v hz hx hy => by rw [hy]; exact putC_spec hz huc hx v
  unfold nX6_came_j63 nX3_isFull
  rw [if_pos (show k_wi S 13 0 3 < (6 : Int32) from by rw [e0]; exact (nI_ltI (show uc < 2 ^ 31 by omega) (show 6 < 2 ^ 31 by decide)).mpr huc), b1_some, if_pos rfl, ebeg, b1_some, sp_zero]
  rw [hp _ 0 0 p1 (by rw [w_at]) (by decide) rfl, b1_some, sp_one, hp _ 1 1 p2 (by rw [w_ne _ _ (by decide), w_at]) (by decide) rfl, b1_some, sp_one, hp _ 2 2 p3 (by rw [w_ne _ _ (by decide), w_ne _ _ (by decide), w_at]) (by decide) rfl, b1_some, sp_one, hp _ 3 3 p4 (by rw [w_ne _ _ (by decide), w_ne _ _ (by decide), w_ne _ _ (by decide), w_at]) (by decide) rfl, b1_some, sp_one]
  rw [w_ne (i := 13) _ _ (by decide), w_ne (i := 13) _ _ (by decide), w_ne (i := 13) _ _ (by decide), w_ne (i := 13) _ _ (by decide), w_at]
  rfl
theorem four_if {α : Type} {f : Nat → α} {j u : Nat} {a0 a1 a2 a3 : α} {b : Nat} : (if b + j = b + 4 * u + 3 then a3 else if b + j = b + 4 * u + 2 then a2 else if b + j = b + 4 * u + 1 then a1 else if b + j = b + 4 * u then a0 else f (b + j)) = if j = 4 * u + 3 then a3 else if j = 4 * u + 2 then a2 else if j = 4 * u + 1 then a1 else if j = 4 * u then a0 else f (b + j) := by
  by_cases c3 : j = 4 * u + 3
  · rw [if_pos c3, if_pos (by omega)]
  · rw [if_neg c3, if_neg (by omega)]
    by_cases c2 : j = 4 * u + 2
    · rw [if_pos c2, if_pos (by omega)]
    · rw [if_neg c2, if_neg (by omega)]
      by_cases c1 : j = 4 * u + 1
      · rw [if_pos c1, if_pos (by omega)]
      · rw [if_neg c1, if_neg (by omega)]
        by_cases c0 : j = 4 * u
        · rw [if_pos c0, if_pos (by omega)]
        · rw [if_neg c0, if_neg (by omega)]
/-- a person, or the boundary -/
theorem inB_spec {x : Int32} {n : Nat} (hn : n ≤ 7) : nX7_in x.toInt64 (-1 : Int64) (nI n - 1).toInt64 = some (if x = -1 then 1 else if x < 0 then 0 else if nI n ≤ x then 0 else 1) := by
  unfold nX7_in
  have e1 : (lg_cmp x.toInt64 (-1 : Int64) < 0) = (x < -1) := by rw [cmp_lt, show (-1 : Int64) = (-1 : Int32).toInt64 from by decide, wide_lt]
  have e2 : (0 < lg_cmp x.toInt64 (nI n - 1).toInt64) = (nI n - 1 < x) := by rw [cmp_gt, wide_lt]
  have hm1 : (-1 : Int32).toInt = -1 := by decide
  have h0 : (0 : Int32).toInt = 0 := by decide
  have hnt : (nI n).toInt = n := nI_toInt (by omega)
  have hnm : (nI n - 1).toInt = n - 1 := by
    rcases Nat.eq_zero_or_pos n with q | q
    · subst q; decide
    · rw [show (1 : Int32) = nI 1 from rfl, pk_sub (by omega), nI_toInt (by omega)]; omega
  by_cases c : x = -1
  · subst c
    rw [if_pos rfl, if_neg (fun q => absurd (e1 ▸ q) Int32.lt_irrefl), if_neg (fun q => by
      have q : nI n - 1 < -1 := e2 ▸ q
      rw [Int32.lt_iff_toInt_lt] at q
      omega)]
  · rw [if_neg c]
    have hx1 : x.toInt ≠ -1 := fun q => c (Int32.toInt_inj.mp (q.trans hm1.symm))
    by_cases c1 : x < 0
    · rw [if_pos c1, if_pos (e1 ▸ (by
        rw [Int32.lt_iff_toInt_lt] at c1 ⊢
        omega))]
    · rw [if_neg c1, if_neg (fun q => by
        have q : x < -1 := e1 ▸ q
        rw [Int32.lt_iff_toInt_lt] at q c1
        omega)]
      by_cases c2 : nI n ≤ x
      · rw [if_pos c2, if_pos (e2 ▸ (by
          rw [Int32.le_iff_toInt_le] at c2
          rw [Int32.lt_iff_toInt_lt]
          omega))]
      · rw [if_neg c2, if_neg (fun q => by
          have q : nI n - 1 < x := e2 ▸ q
          rw [Int32.lt_iff_toInt_lt] at q
          rw [Int32.le_iff_toInt_le] at c2
          omega)]
theorem op_came : k_op_came k_R := by
  intro S L T M p1 p2 p3 p4 hR
  have hR0 := hR
  obtain ⟨⟨n, m, un, uc, up, d, hv⟩, -⟩ := hR
  have hv0 := hv
  obtain ⟨⟨t0, t1, t2, t3, t4, t22⟩, ⟨b1, b2, b3, b4, b5, b6⟩, ⟨v0, v1, v2, v3, v4, v5⟩, hp, hnd, hth, hno, hca, hcq, hpa⟩ := hv
  have v0' : S 1 12 = nI n := v0
  have v1' : S 1 13 = nI m := v1
  have v3' : S 13 3 = nI uc := v3
  have e7 : ∀ w : Option (Int32 × (Nat → Nat → Int32)), (∀ q : Prop, True) → nX7_came_j53 T M = w → (¬ (pz p1 m ∧ pz p2 n ∧ pz p3 100 ∧ (p4 = -1 ∨ pz p4 n) ∧ ¬ p2 = p4)) → nX7_came T M p1 p2 p3 p4 = w := by
    intro w _ hw g
    unfold nX7_came
    by_cases g1 : pz p1 m
    · rw [isThing7_in t1 b2 g1, b1_some, if_neg (by decide)]
      by_cases g2 : pz p2 n
      · rw [isOne7_in t0 b1 g2, b1_some, if_neg (by decide)]
        by_cases g3 : pz p3 100
        · rw [in_inK 100 (by decide) 99 (by decide) g3, b1_some, if_neg (by decide)]
          unfold nX7_many
          rw [b1_some, t0, inB_spec b1, b1_some]
          by_cases c : p4 = -1
          · rw [if_pos c, if_neg (by decide)]
            by_cases ce : p2 = p4
            · rw [if_pos ce]; exact hw
            · exact absurd ⟨g1, g2, g3, Or.inl c, ce⟩ g
          · rw [if_neg c]
            by_cases g4 : pz p4 n
            · obtain ⟨z1, z2⟩ := (z_iff (show n < 2 ^ 31 by omega)).mp g4
              rw [if_neg z1, if_neg z2, if_neg (by decide)]
              by_cases ce : p2 = p4
              · rw [if_pos ce]; exact hw
              · exact absurd ⟨g1, g2, g3, Or.inr g4, ce⟩ g
            · by_cases z1 : p4 < 0
              · rw [if_pos z1, if_pos rfl]; exact hw
              · rw [if_neg z1]
                by_cases z2 : nI n ≤ p4
                · rw [if_pos z2, if_pos rfl]; exact hw
                · exact absurd ((z_iff (show n < 2 ^ 31 by omega)).mpr ⟨z1, z2⟩) g4
        · rw [in_outK 100 (by decide) 99 (by decide) g3, b1_some, if_pos rfl]; exact hw
      · rw [isOne7_out t0 b1 g2, b1_some, if_pos rfl]; exact hw
    · rw [isThing7_out t1 b2 g1, b1_some, if_pos rfl]; exact hw
  have e6 : ∀ w : Option (Int32 × (Nat → Nat → Int32)), nX6_came_j58 S L = w → (¬ (pz p1 m ∧ pz p2 n ∧ pz p3 100 ∧ (p4 = -1 ∨ pz p4 n) ∧ ¬ p2 = p4)) → nX6_came S L p1 p2 p3 p4 = w := by
    intro w hw g
    have hz : nX6_came_j29 p1 p2 p3 p4 S L = w := by
      unfold nX6_came_j29 nX6_came_j30
      rw [if_pos rfl]; exact hw
    unfold nX6_came
    by_cases g1 : pz p1 m
    · rw [isThing_in v1' b2 g1, b1_some, if_neg (by decide)]
      by_cases g2 : pz p2 n
      · rw [isPerson_in v0' b1 g2, b1_some, if_neg (by decide)]
        by_cases g3 : pz p3 100
        · rw [upTo_inK 100 (by decide) 100 rfl g3, b1_some, if_neg (by decide)]
          unfold nX6_came_j30
          rw [if_neg (by decide)]
          by_cases ce : p2 = p4
          · rw [if_pos ce]; exact hw
          · rw [if_neg ce]
            by_cases c : p4 = -1
            · exact absurd ⟨g1, g2, g3, Or.inl c, ce⟩ g
            · rw [if_neg c]
              by_cases g4 : pz p4 n
              · exact absurd ⟨g1, g2, g3, Or.inr g4, ce⟩ g
              · rw [isPerson_out v0' b1 g4, b1_some, if_pos rfl]; exact hw
        · rw [upTo_outK 100 (by decide) 100 rfl g3, b1_some, if_pos rfl]; exact hz
      · rw [isPerson_out v0' b1 g2, b1_some, if_pos rfl]; exact hz
    · rw [isThing_out v1' b2 g1, b1_some, if_pos rfl]; exact hz
  by_cases g : pz p1 m ∧ pz p2 n ∧ pz p3 100 ∧ (p4 = -1 ∨ pz p4 n) ∧ ¬ p2 = p4
  · obtain ⟨g1, g2, g3, g4, ge⟩ := g
    have x6 : ∀ w, nX6_came_j63 p1 p2 p3 p4 S L = w → nX6_came S L p1 p2 p3 p4 = w := by
      intro w hw
      unfold nX6_came
      rw [isThing_in v1' b2 g1, b1_some, if_neg (by decide), isPerson_in v0' b1 g2, b1_some, if_neg (by decide), upTo_inK 100 (by decide) 100 rfl g3, b1_some, if_neg (by decide)]
      unfold nX6_came_j30
      rw [if_neg (by decide), if_neg ge]
      by_cases c : p4 = -1
      · rw [if_pos c]; exact hw
      · rw [if_neg c, isPerson_in v0' b1 (g4.resolve_left c), b1_some, if_neg (by decide)]; exact hw
    have x7 : nX7_in p4.toInt64 (-1 : Int64) (nI n - 1).toInt64 = some 1 := by
      rw [inB_spec b1]
      by_cases c : p4 = -1
      · rw [if_pos c]
      · obtain ⟨z1, z2⟩ := (z_iff (show n < 2 ^ 31 by omega)).mp (g4.resolve_left c)
        rw [if_neg c, if_neg z1, if_neg z2]
    by_cases c : uc < 6
    · obtain ⟨S', hS'⟩ : ∃ S', S' = k_w (k_w (k_w (k_w (k_w S 13 3 (nI (uc + 1))) 14 (4 * uc) p1) 14 (4 * uc + 1) p2) 14 (4 * uc + 2) p3) 14 (4 * uc + 3) p4 := ⟨_, rfl⟩
      obtain ⟨Z, hZ⟩ : ∃ Z, Z = k_w (k_w (k_w (k_w (k_w T 1 (116 + 4 * uc) p1) 1 (116 + 4 * uc + 1) p2) 1 (116 + 4 * uc + 2) p3) 1 (116 + 4 * uc + 3) p4) 1 3 (nI (uc + 1)) := ⟨_, rfl⟩
      have hz : ∀ j, Z 1 j = if j = 3 then nI (uc + 1) else if j = 116 + 4 * uc + 3 then p4 else if j = 116 + 4 * uc + 2 then p3 else if j = 116 + 4 * uc + 1 then p2 else if j = 116 + 4 * uc then p1 else T 1 j := fun j => by rw [hZ]; rfl
      have hs : ∀ j, S' 14 j = if j = 4 * uc + 3 then p4 else if j = 4 * uc + 2 then p3 else if j = 4 * uc + 1 then p2 else if j = 4 * uc then p1 else S 14 j := fun j => by rw [hS']; rfl
      have hs13 : S' 13 3 = nI (uc + 1) := by rw [hS']; rfl
      have hso : ∀ i, i ≠ 13 → i ≠ 14 → S' i = S i := by
        intro i h1 h2
        rw [hS', w_ne _ _ h2, w_ne _ _ h2, w_ne _ _ h2, w_ne _ _ h2, w_ne _ _ h1]
      have hzo : ∀ i, i ≠ 1 → Z i = T i := by
        intro i h1
        rw [hZ, w_ne _ _ h1, w_ne _ _ h1, w_ne _ _ h1, w_ne _ _ h1, w_ne _ _ h1]
      have hzj : ∀ j, j ≠ 3 → (j < 116 ∨ 140 ≤ j) → Z 1 j = T 1 j := by
        intro j h1 h2
        rw [hz, if_neg h1, if_neg (by omega), if_neg (by omega), if_neg (by omega), if_neg (by omega)]
      refine ⟨nI (uc + 1), S', Z, ?_, ?_, R_now (S := S) (T := T) (L := L) (M := M) (n := n) (m := m) (un := un) (uc := uc + 1) (up := up) (d := d) (vr_notes hv0 (fun i hi => hso (1 + i) (by omega) (by omega)) ⟨?_, hs13, by rw [hzj 2 (by decide) (by decide)]; exact t2, by rw [hz, if_pos rfl], b3, by omega⟩ (fun j h2 h3 hj => hzj j h3 (by omega)) (fun j hj => ?_) (fun j hj => ?_) (fun i hi => ?_)) (fun i hi => hso i (by omega) (by omega)) (by rw [hso 67 (by decide) (by decide)]) (fun i hi => hzo i (by omega)) (by rw [hzo 0 (by decide)]) ⟨rfl, rfl⟩ ⟨rfl, rfl⟩ hR0⟩
      · rw [hS']
        exact x6 _ (X6_came_put v3' c p1 p2 p3 p4)
      · unfold nX7_came
        have e4 : (4 : Int32) * nI uc = nI (4 * uc) := h4n uc
        have e116 : (116 : Int32) + nI (4 * uc) = nI (116 + 4 * uc) := nI_add 116 (4 * uc)
        have hx : ∀ x y : Nat, nI x + nI y = nI (x + y) := nI_add
        rw [isThing7_in t1 b2 g1, b1_some, if_neg (by decide), isOne7_in t0 b1 g2, b1_some, if_neg (by decide), in_inK 100 (by decide) 99 (by decide) g3, b1_some, if_neg (by decide)]
        unfold nX7_many
        rw [b1_some, t0, x7, b1_some, if_neg (by decide), if_neg ge, t3, if_neg (show ¬ nI uc = 6 from fun q => absurd ((nI_eq (show uc < 2 ^ 31 by omega) (show 6 < 2 ^ 31 by decide)).mp q) (by omega)), e4, e116, show nI (116 + 4 * uc) + 1 = nI (116 + 4 * uc + 1) from hx _ 1, show nI (116 + 4 * uc) + 2 = nI (116 + 4 * uc + 2) from hx _ 2, show nI (116 + 4 * uc) + 3 = nI (116 + 4 * uc + 3) from hx _ 3, if_ok (show 116 + 4 * uc < 284 by omega) (by decide), if_ok (show 116 + 4 * uc + 1 < 284 by omega) (by decide), if_ok (show 116 + 4 * uc + 2 < 284 by omega) (by decide), if_ok (show 116 + 4 * uc + 3 < 284 by omega) (by decide)]
        rw [nI_clamp (show 116 + 4 * uc < 2 ^ 31 by omega), nI_clamp (show 116 + 4 * uc + 1 < 2 ^ 31 by omega), nI_clamp (show 116 + 4 * uc + 2 < 2 ^ 31 by omega), nI_clamp (show 116 + 4 * uc + 3 < 2 ^ 31 by omega)]
        have e2 : k_w (k_w (k_w (k_w T 1 (116 + 4 * uc) p1) 1 (116 + 4 * uc + 1) p2) 1 (116 + 4 * uc + 2) p3) 1 (116 + 4 * uc + 3) p4 1 3 = nI uc := by
          rw [w_off _ (by omega), w_off _ (by omega), w_off _ (by omega), w_off _ (by omega), t3]
        rw [e2, nI_1, ← hZ, hz 3, if_pos rfl]
      · exact (congrFun (hso 11 (by decide) (by decide)) 3).trans v2
      · rw [hzj (80 + j) (by omega) (by omega)]
        exact (congrFun (hso 12 (by decide) (by decide)) j).trans (hno j hj)
      · rw [hz, if_neg (by omega), four_if]
        refine (hs j).trans ?_
        by_cases q : j < 4 * uc
        · rw [if_neg (by omega), if_neg (by omega), if_neg (by omega), if_neg (by omega), if_neg (by omega), if_neg (by omega), if_neg (by omega), if_neg (by omega)]
          exact hca j q
        · rcases (show j = 4 * uc ∨ j = 4 * uc + 1 ∨ j = 4 * uc + 2 ∨ j = 4 * uc + 3 by omega) with rfl | rfl | rfl | rfl
          · rw [if_neg (by omega), if_neg (by omega), if_neg (by omega), if_pos rfl, if_neg (by omega), if_neg (by omega), if_neg (by omega), if_pos rfl]
          · rw [if_neg (by omega), if_neg (by omega), if_pos rfl, if_neg (by omega), if_neg (by omega), if_pos rfl]
          · rw [if_neg (by omega), if_pos rfl, if_neg (by omega), if_pos rfl]
          · rw [if_pos rfl, if_pos rfl]
      · by_cases q : i = uc
        · subst q
          rw [hz, if_neg (by omega), if_neg (by omega), if_neg (by omega), if_pos rfl]
          exact g2
        · rw [hz, if_neg (by omega), if_neg (by omega), if_neg (by omega), if_neg (by omega), if_neg (by omega)]
          exact hcq i (by omega)
    · have e6' : uc = 6 := by omega
      refine ⟨-4, _, _, ?_, ?_, R_bad 2 (by decide) hR0⟩
      · refine x6 _ ?_
        unfold nX6_came_j63 nX3_isFull
        rw [if_neg (show ¬ k_wi S 13 0 3 < (6 : Int32) from by rw [show k_wi S 13 0 3 = nI uc from v3', e6']; decide), b1_some, if_neg (by decide), full6]; rfl
      · unfold nX7_came
        rw [isThing7_in t1 b2 g1, b1_some, if_neg (by decide), isOne7_in t0 b1 g2, b1_some, if_neg (by decide), in_inK 100 (by decide) 99 (by decide) g3, b1_some, if_neg (by decide)]
        unfold nX7_many
        rw [b1_some, t0, x7, b1_some, if_neg (by decide), if_neg ge, if_pos (show T 1 3 = 6 from by rw [t3, e6']; rfl), full7]; rfl
  · refine ⟨-2, _, _, e6 _ (by unfold nX6_came_j58; rw [bad6]; rfl) g, e7 _ (fun _ => trivial) (by unfold nX7_came_j53; rw [bad7]; rfl) g, R_bad 0 (by decide) hR0⟩
