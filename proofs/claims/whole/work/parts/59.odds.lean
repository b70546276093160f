/-! losses by odds -/
def adF (v : Nat → Nat) (a b : Nat) (j : Nat) : Nat := if j = a then v j + b else v j
def odF (n : Nat) (t : Nat → Int32) (k : Nat) (e : Int32) (c : Nat) (w : Nat → Nat) : Nat → Nat → Nat
  | 0 => fun _ => 0
  | p + 1 => adF (adF (odF n t k e c w p) p (w p * (10 - c))) (tgF n t k p e) (w p * c + w (7 + p) * 10)
theorem odF_s (n : Nat) (t : Nat → Int32) (k : Nat) (e : Int32) (c : Nat) (w : Nat → Nat) (p : Nat) : odF n t k e c w (p + 1) = adF (adF (odF n t k e c w p) p (w p * (10 - c))) (tgF n t k p e) (w p * c + w (7 + p) * 10) := rfl
def odA (n : Nat) (t : Nat → Int32) (k d c : Nat) : Nat → Nat → Nat
  | 0 => s0F t k 0 1
  | x + 1 => odF n t k (nI (d + x)) c (odA n t k d c x) n
theorem odA_s (n : Nat) (t : Nat → Int32) (k d c x : Nat) : odA n t k d c (x + 1) = odF n t k (nI (d + x)) c (odA n t k d c x) n := rfl
theorem odF_le {n : Nat} {t : Nat → Int32} {k : Nat} {e : Int32} {c : Nat} {w : Nat → Nat} {B : Nat} (hc : c ≤ 10) (h : ∀ j, w j ≤ B) : ∀ p j, odF n t k e c w p j ≤ p * (30 * B)
  | 0, _ => Nat.zero_le _
  | p + 1, j => by
    have ih := odF_le (n := n) (t := t) (k := k) (e := e) hc h p j
    have h1 : w p * (10 - c) ≤ B * 10 := Nat.mul_le_mul (h p) (by omega)
    have h2 : w p * c ≤ B * 10 := Nat.mul_le_mul (h p) hc
    have h3 := h (7 + p)
    rw [odF_s, Nat.add_mul, Nat.one_mul]
    unfold adF
    by_cases q1 : j = tgF n t k p e
    · rw [if_pos q1]
      by_cases q2 : j = p
      · rw [if_pos q2]; omega
      · rw [if_neg q2]; omega
    · rw [if_neg q1]
      by_cases q2 : j = p
      · rw [if_pos q2]; omega
      · rw [if_neg q2]; omega
theorem odA_le {n : Nat} (hn : n ≤ 7) (t : Nat → Int32) (k d : Nat) {c : Nat} (hc : c ≤ 10) : ∀ x j, odA n t k d c x j ≤ 210 ^ x
  | 0, j => by
    show s0F t k 0 1 j ≤ 1
    unfold s0F
    by_cases q : j = stF t k
    · rw [if_pos q]; exact Nat.le_refl 1
    · rw [if_neg q]; exact Nat.zero_le 1
  | x + 1, j => by
    have h1 := odF_le (n := n) (t := t) (k := k) (e := nI (d + x)) hc (odA_le hn t k d hc x) n j
    have h2 : n * (30 * 210 ^ x) ≤ 7 * (30 * 210 ^ x) := Nat.mul_le_mul_right _ hn
    rw [odA_s, Nat.pow_succ]
    omega
theorem odA_small {n : Nat} (hn : n ≤ 7) (t : Nat → Int32) (k d : Nat) {c x : Nat} (hc : c ≤ 10) (hx : x ≤ 7) (j : Nat) : odA n t k d c x j < 2 ^ 60 :=
  Nat.lt_of_le_of_lt (Nat.le_trans (odA_le hn t k d hc x j) (Nat.pow_le_pow_right (by decide) hx)) (by decide)
theorem rest10 {c : Nat} (hc : c ≤ 10) : ((10 : Int32) - nI c).toInt64 = nL (10 - c) := by
  rw [show (10 : Int32) = nI 10 from rfl, pk_sub hc, nL_wide (by omega)]
theorem X0_goOnByChance_spec {V S : Nat → Nat → Int32} {L : Nat → Nat → Int64} {t : Nat → Int32} {n m un uc up d dm k c : Nat} (h : vr V t n m un uc up d dm) (hk : k < m) (e : Int32) (hc : c ≤ 10) {w : Nat → Nat} (hL : ∀ j, j < 7 → L 1 j = nL (w j) ∧ L 2 j = nL (w (7 + j))) : ∃ L', nX0_goOnByChance S L V (nI k) e (nI c) = some L' ∧ ∀ j, j < 7 → L' 1 j = nL (odF n t k e c w n j) ∧ L' 2 j = nL (odF n t k e c w n (7 + j)) := by
  have hv := h
  obtain ⟨-, ⟨b1, b2, b3, b4, b5, b6⟩, ⟨v0, v1, v2, v3, v4, v5⟩, -⟩ := h
  have hv12 : V 0 12 = nI n := v0
  obtain ⟨La, e1, f1⟩ := X0_fill_spec (k_wi L 3) (nL 0)
  obtain ⟨Lb, e2, f2⟩ := X0_fill_spec (k_wi (k_sp L 3 1 La) 4) (nL 0)
  obtain ⟨X, hX⟩ : ∃ X, X = k_sp (k_sp L 3 1 La) 4 1 Lb := ⟨_, rfl⟩
  have r1 : X 1 = L 1 := by rw [hX, sp_out (by decide), sp_out (by decide)]
  have r2 : X 2 = L 2 := by rw [hX, sp_out (by decide), sp_out (by decide)]
  have r3 : X 3 = La 0 := by rw [hX, sp_out (by decide), sp_in (by decide) (by decide)]
  have r4 : X 4 = Lb 0 := by rw [hX, sp_in (by decide) (by decide)]
  unfold nX0_goOnByChance
  rw [show (0 : Int64) = nL 0 from rfl, e1, b1_some, e2, b1_some, ← hX]
  refine it_inv (fun i st => st.1 = nI i ∧ st.2 1 = L 1 ∧ st.2 2 = L 2 ∧ ∀ j, j < 7 → st.2 3 j = nL (odF n t k e c w i j) ∧ st.2 4 j = nL (odF n t k e c w i (7 + j))) n (by omega) (fun i st hi hv1 => ?_) (fun st hv1 => ?_) ⟨rfl, r1, r2, fun j hj => ⟨by show X 3 j = _; rw [r3, f1 j hj]; rfl, by show X 4 j = _; rw [r4, f2 j hj]; rfl⟩⟩
  · obtain ⟨y, L1⟩ := st
    obtain ⟨h1, h2, h3, h4⟩ := hv1
    have h1 : y = nI i := h1
    have h2 : L1 1 = L 1 := h2
    have h3 : L1 2 = L 2 := h3
    have h4 : ∀ j, j < 7 → L1 3 j = nL (odF n t k e c w i j) ∧ L1 4 j = nL (odF n t k e c w i (7 + j)) := h4
    left
    show ∃ st', nX0_goOnByChance_l19 (nI k) e (nI c) y S L1 V = _ ∧ _
    unfold nX0_goOnByChance_l19
    obtain ⟨w1, w2⟩ := hL i (by omega)
    obtain ⟨u1, u2⟩ := h4 i (by omega)
    rw [h1, hv12, if_leF hi (by omega), if_ok (show k < 5 by omega) (by decide), if_ok (show k < 5 by omega) (by decide), nI_clamp (show k < 2 ^ 31 by omega), dest6 hv hk hi, b1_some]
    rw [if_ok (show i < 7 by omega) (by decide), if_ok (show i < 7 by omega) (by decide), if_ok (show i < 7 by omega) (by decide), if_ok (show i < 7 by omega) (by decide), if_ok (show i < 7 by omega) (by decide), if_ok (show i < 7 by omega) (by decide), if_ok (show i < 7 by omega) (by decide), nI_clamp (show i < 2 ^ 31 by omega), h2, h3, w1, w2, u1, rest10 hc, nL_wide (show c < 2 ^ 31 by omega), show (10 : Int64) = nL 10 from rfl, nL_mul, nL_mul, nL_mul, nL_add, nL_add, nI_1]
    obtain ⟨X3, hX3⟩ : ∃ X3, X3 = k_wl L1 3 i (nL (odF n t k e c w i i + w i * (10 - c))) := ⟨_, rfl⟩
    rw [← hX3]
    have x1 : X3 1 = L 1 := by rw [hX3, wl_ne _ _ (by decide), h2]
    have x2 : X3 2 = L 2 := by rw [hX3, wl_ne _ _ (by decide), h3]
    have x3 : ∀ j, j < 7 → X3 3 j = nL (adF (odF n t k e c w i) i (w i * (10 - c)) j) := fun j hj => by
      unfold adF
      rw [hX3, wl_eq]
      show (if j = i then _ else L1 3 j) = _
      by_cases q : j = i
      · rw [if_pos q, if_pos q, q]
      · rw [if_neg q, if_neg q, (h4 j hj).1]
    have x4 : ∀ j, j < 7 → X3 4 j = nL (adF (odF n t k e c w i) i (w i * (10 - c)) (7 + j)) := fun j hj => by
      unfold adF
      rw [hX3, wl_ne _ _ (by decide), if_neg (by omega), (h4 j hj).2]
    obtain ⟨v, hvv⟩ : ∃ v, v = adF (odF n t k e c w i) i (w i * (10 - c)) := ⟨_, rfl⟩
    rw [odF_s, ← hvv]
    rw [← hvv] at x3 x4
    obtain ⟨aw, haw⟩ : ∃ aw, aw = w i * c + w (7 + i) * 10 := ⟨_, rfl⟩
    rw [← haw]
    rcases tg_cases (q := i) b1 t k e with ⟨d1, d2⟩ | ⟨g, g1, g2, g3, g4⟩
    · rw [d2, if_pos d1]
      refine ⟨_, rfl, rfl, ?_, ?_, fun j hj => ⟨?_, ?_⟩⟩
      · exact x1
      · exact x2
      · show X3 3 j = _
        rw [x3 j hj]
        unfold adF
        rw [if_neg (by omega)]
      · show k_wl X3 4 i _ 4 j = _
        rw [x4 i (by omega), nL_add, wl_eq]
        unfold adF
        show (if j = i then _ else X3 4 j) = _
        by_cases q : j = i
        · rw [if_pos q, if_pos (show 7 + j = 7 + i by omega), q]
        · rw [if_neg q, if_neg (show ¬ 7 + j = 7 + i by omega), x4 j hj]
    · rw [g4, g3, if_n1 (by omega), if_ok (show g < 7 by omega) (by decide), if_ok (show g < 7 by omega) (by decide), nI_clamp (show g < 2 ^ 31 by omega)]
      refine ⟨_, rfl, rfl, ?_, ?_, fun j hj => ⟨?_, ?_⟩⟩
      · exact x1
      · exact x2
      · show k_wl X3 3 g _ 3 j = _
        rw [x3 g (by omega), nL_add, wl_eq]
        unfold adF
        show (if j = g then _ else X3 3 j) = _
        by_cases q : j = g
        · rw [if_pos q, if_pos q, q]
        · rw [if_neg q, if_neg q, x3 j hj]
      · show X3 4 j = _
        rw [x4 j hj]
        unfold adF
        rw [if_neg (by omega)]
  · obtain ⟨y, L1⟩ := st
    obtain ⟨h1, h2, h3, h4⟩ := hv1
    have h1 : y = nI n := h1
    have h4 : ∀ j, j < 7 → L1 3 j = nL (odF n t k e c w n j) ∧ L1 4 j = nL (odF n t k e c w n (7 + j)) := h4
    obtain ⟨L2, q1, q2⟩ := X0_takeNext_spec S L1
    refine ⟨L2, ?_, fun j hj => ?_⟩
    · show nX0_goOnByChance_l19 (nI k) e (nI c) y S L1 V = _
      unfold nX0_goOnByChance_l19
      rw [h1, hv12, if_leT (Nat.le_refl n) (by omega), q1]
      rfl
    · rw [(q2 j hj).1, (q2 j hj).2]
      exact h4 j hj
theorem X0_chanceOfTens_spec {V S : Nat → Nat → Int32} {L : Nat → Nat → Int64} {t : Nat → Int32} {n m un uc up d k p N c : Nat} (h : vr V t n m un uc up d 9999) (hk : k < m) (hp : p < n) (hN : N < 8) (hc : c ≤ 10) : ∃ o, nX0_chanceOfTens S L V (nI k) (nI p) (nI N) (nI c) = some o ∧ o.1 = nL (odA n t k d c N p) := by
  have hv := h
  obtain ⟨-, ⟨b1, b2, b3, b4, b5, b6⟩, ⟨v0, v1, v2, v3, v4, v5⟩, -⟩ := h
  have v14 : V 0 14 = nI d := v5
  obtain ⟨L0, e0, f0⟩ := X0_setOut_spec (S := S) (L := L) hv hk 0 1
  unfold nX0_chanceOfTens
  rw [show (0 : Int64) = nL 0 from rfl, show (1 : Int64) = nL 1 from rfl, e0, b1_some]
  refine it_inv (fun i st => st.1 = nI i ∧ ∀ j, j < 7 → st.2 1 j = nL (odA n t k d c i j) ∧ st.2 2 j = nL (odA n t k d c i (7 + j))) N (by omega) (fun i st hi hv1 => ?_) (fun st hv1 => ?_) ⟨rfl, f0⟩
  · obtain ⟨y, L1⟩ := st
    obtain ⟨h1, h3⟩ := hv1
    have h1 : y = nI i := h1
    have h3 : ∀ j, j < 7 → L1 1 j = nL (odA n t k d c i j) ∧ L1 2 j = nL (odA n t k d c i (7 + j)) := h3
    left
    obtain ⟨L2, q1, q2⟩ := X0_goOnByChance_spec (S := S) hv hk (nI (d + i)) hc h3
    refine ⟨(nI (i + 1), L2), ?_, rfl, fun j hj => ?_⟩
    · show nX0_chanceOfTens_l11 (nI k) (nI p) (nI N) (nI c) y S L1 V = _
      unfold nX0_chanceOfTens_l11
      rw [h1, if_leF hi (by omega), v14, nI_add, q1, b1_some, nI_1]
    · rw [odA_s]; exact q2 j hj
  · obtain ⟨y, L1⟩ := st
    obtain ⟨h1, h3⟩ := hv1
    have h1 : y = nI N := h1
    refine ⟨(L1 1 p, L1), ?_, (h3 p (by omega)).1⟩
    show nX0_chanceOfTens_l11 (nI k) (nI p) (nI N) (nI c) y S L1 V = _
    unfold nX0_chanceOfTens_l11
    rw [h1, if_leT (Nat.le_refl N) (by omega), if_ok (show p < 7 by omega) (by decide), nI_clamp (by omega)]
    rfl
theorem X7_goOdds_spec {V T Z : Nat → Nat → Int32} {M : Nat → Nat → Int64} {n m un uc up d dm k c : Nat} (h : vr V (T 1) n m un uc up d dm) (z1 : Z 1 = T 1) (z5 : Z 5 = lcF T 1 n 5) (hk : k < m) (e : Int32) (hc : c ≤ 10) {w : Nat → Nat} (hM : ∀ j, j < 14 → M 13 j = nL (w j)) : ∃ M', nX7_goOdds Z M (nI k) e (nI c) = some M' ∧ ∀ j, j < 14 → M' 13 j = nL (odF n (T 1) k e c w n j) := by
  have hv := h
  obtain ⟨⟨t0, t1, t2, t3, t4, t22⟩, ⟨b1, b2, b3, b4, b5, b6⟩, -⟩ := h
  unfold nX7_goOdds
  refine it_inv (fun i st => st.1 = nI i ∧ st.2 13 = M 13 ∧ ∀ j, j < i → st.2 14 j = nL 0) 14 (by decide) (fun i st hi hv1 => ?_) (fun st hv1 => ?_) ⟨rfl, rfl, fun j hj => absurd hj (Nat.not_lt_zero j)⟩
  · obtain ⟨y, Y⟩ := st
    obtain ⟨h1, h2, h3⟩ := hv1
    have h1 : y = nI i := h1
    left
    refine ⟨(nI (i + 1), k_wl Y 14 i (nL 0)), ?_, rfl, ?_, fun j hj => ?_⟩
    · show nX7_goOdds_l3 (nI k) e (nI c) y Z Y = _
      unfold nX7_goOdds_l3
      rw [h1, show (14 : Int32) = nI 14 from rfl, if_leF hi (by decide), if_ok hi (by decide), nI_clamp (by omega), nI_1]
      rfl
    · exact h2
    · show k_wl Y 14 i _ 14 j = _
      by_cases q : j = i
      · rw [q, wl_at]
      · rw [wl_off _ q]; exact h3 j (by omega)
  · obtain ⟨y, Y⟩ := st
    obtain ⟨h1, h2, h3⟩ := hv1
    have h1 : y = nI 14 := h1
    have h2 : Y 13 = M 13 := h2
    have h3 : ∀ j, j < 14 → Y 14 j = nL 0 := h3
    have hmain : ∃ M', k_it (fun st => nX7_goOdds_l27 (nI k) e (nI c) st.1 Z st.2) 1000 ((0 : Int32), Y) = some M' ∧ ∀ j, j < 14 → M' 13 j = nL (odF n (T 1) k e c w n j) := by
      refine it_inv (fun i st => st.1 = nI i ∧ st.2 13 = M 13 ∧ ∀ j, j < 14 → st.2 14 j = nL (odF n (T 1) k e c w i j)) n (by omega) (fun i st hi hv1 => ?_) (fun st hv1 => ?_) ⟨rfl, h2, h3⟩
      · obtain ⟨y, Y⟩ := st
        obtain ⟨h1, h2, h3⟩ := hv1
        have h1 : y = nI i := h1
        have h2 : Y 13 = M 13 := h2
        have h3 : ∀ j, j < 14 → Y 14 j = nL (odF n (T 1) k e c w i j) := h3
        left
        obtain ⟨X3, hX3⟩ : ∃ X3, X3 = k_wl Y 14 i (nL (odF n (T 1) k e c w i i + w i * (10 - c))) := ⟨_, rfl⟩
        have x1 : X3 13 = M 13 := by rw [hX3, wl_ne _ _ (by decide), h2]
        have x3 : ∀ j, j < 14 → X3 14 j = nL (adF (odF n (T 1) k e c w i) i (w i * (10 - c)) j) := fun j hj => by
          unfold adF
          rw [hX3, wl_eq]
          show (if j = i then _ else Y 14 j) = _
          by_cases q : j = i
          · rw [if_pos q, if_pos q, q]
          · rw [if_neg q, if_neg q, h3 j hj]
        obtain ⟨v, hvv⟩ : ∃ v, v = adF (odF n (T 1) k e c w i) i (w i * (10 - c)) := ⟨_, rfl⟩
        rw [← hvv] at x3
        have hgo : ∀ (g : Nat) (gi : Int32), gi = nI g → g < 14 → ∃ Y', nX7_goOdds_i27_j110 (nI k) e (nI c) (nI i) gi Z X3 = some (.inl (nI (i + 1), Y')) ∧ Y' 13 = M 13 ∧ ∀ j, j < 14 → Y' 14 j = nL (adF v g (w i * c + w (7 + i) * 10) j) := by
          intro g gi hgi hg
          subst hgi
          unfold nX7_goOdds_i27_j110
          rw [show (7 : Int32) + nI i = nI (7 + i) from nI_add 7 i, if_ok hg (by decide), if_ok (show i < 14 by omega) (by decide), if_ok (show 7 + i < 14 by omega) (by decide), if_ok hg (by decide), nI_clamp (show g < 2 ^ 31 by omega), nI_clamp (show i < 2 ^ 31 by omega), nI_clamp (show 7 + i < 2 ^ 31 by omega), x1, hM i (by omega), hM (7 + i) (by omega), x3 g hg, nL_wide (show c < 2 ^ 31 by omega), show (10 : Int64) = nL 10 from rfl, nL_mul, nL_mul, nL_add, nL_add, nI_1]
          refine ⟨_, rfl, ?_, fun j hj => ?_⟩
          · rw [wl_ne _ _ (by decide), x1]
          · rw [wl_eq]
            unfold adF
            show (if j = g then _ else X3 14 j) = _
            by_cases q : j = g
            · rw [if_pos q, if_pos q, q]
            · rw [if_neg q, if_neg q, x3 j hj]
        show ∃ st', nX7_goOdds_l27 (nI k) e (nI c) y Z Y = _ ∧ _
        unfold nX7_goOdds_l27 nX7_many
        rw [b1_some, h1, z1, t0, if_leF hi (by omega), show (65 : Int32) + nI k = nI (65 + k) from nI_add 65 k, show (70 : Int32) + nI k = nI (70 + k) from nI_add 70 k, if_ok (show 65 + k < 284 by omega) (by decide), if_ok (show 70 + k < 284 by omega) (by decide), nI_clamp (show 65 + k < 2 ^ 31 by omega), nI_clamp (show 70 + k < 2 ^ 31 by omega), show T 1 (65 + k) = Z 1 (65 + k) from by rw [z1], show T 1 (70 + k) = Z 1 (70 + k) from by rw [z1], dest7 hv z1 z5 hk hi e, b1_some, if_ok (show i < 14 by omega) (by decide), if_ok (show i < 14 by omega) (by decide), if_ok (show i < 14 by omega) (by decide), nI_clamp (show i < 2 ^ 31 by omega), h2, hM i (by omega), h3 i (by omega), rest10 hc, nL_mul, nL_add, ← hX3]
        rcases tg_cases (q := i) b1 (T 1) k e with ⟨d1, d2⟩ | ⟨g, g1, g2, g3, g4⟩
        · obtain ⟨Y', s1, s2, s3⟩ := hgo (7 + i) (7 + nI i) (nI_add 7 i) (by omega)
          rw [d1, if_pos rfl, s1]
          refine ⟨_, rfl, rfl, s2, fun j hj => ?_⟩
          rw [odF_s, d2, ← hvv]; exact s3 j hj
        · obtain ⟨Y', s1, s2, s3⟩ := hgo g (nI g) rfl (by omega)
          rw [g3, if_n1 (by omega), s1]
          refine ⟨_, rfl, rfl, s2, fun j hj => ?_⟩
          rw [odF_s, g4, ← hvv]; exact s3 j hj
      · obtain ⟨y, Y⟩ := st
        obtain ⟨h1, h2, h3⟩ := hv1
        have h1 : y = nI n := h1
        have h3 : ∀ j, j < 14 → Y 14 j = nL (odF n (T 1) k e c w n j) := h3
        have hcp : ∃ M', k_it (fun st => nX7_goOdds_l148 st.1 Z st.2) 1000 ((0 : Int32), Y) = some M' ∧ ∀ j, j < 14 → M' 13 j = nL (odF n (T 1) k e c w n j) := by
          refine it_inv (fun i st => st.1 = nI i ∧ st.2 14 = Y 14 ∧ ∀ j, j < i → st.2 13 j = Y 14 j) 14 (by decide) (fun i st hi hv1 => ?_) (fun st hv1 => ?_) ⟨rfl, rfl, fun j hj => absurd hj (Nat.not_lt_zero j)⟩
          · obtain ⟨y, Q⟩ := st
            obtain ⟨q1, q2, q3⟩ := hv1
            have q1 : y = nI i := q1
            have q2 : Q 14 = Y 14 := q2
            left
            refine ⟨(nI (i + 1), k_wl Q 13 i (Y 14 i)), ?_, rfl, ?_, fun j hj => ?_⟩
            · show nX7_goOdds_l148 y Z Q = _
              unfold nX7_goOdds_l148
              rw [q1, show (14 : Int32) = nI 14 from rfl, if_leF hi (by decide), if_ok hi (by decide), if_ok hi (by decide), nI_clamp (by omega), nI_1, q2]
            · exact q2
            · show k_wl Q 13 i _ 13 j = _
              by_cases q : j = i
              · rw [q, wl_at]
              · rw [wl_off _ q]; exact q3 j (by omega)
          · obtain ⟨y, Q⟩ := st
            obtain ⟨q1, q2, q3⟩ := hv1
            have q1 : y = nI 14 := q1
            have q3 : ∀ j, j < 14 → Q 13 j = Y 14 j := q3
            refine ⟨Q, ?_, fun j hj => (q3 j hj).trans (h3 j hj)⟩
            show nX7_goOdds_l148 y Z Q = _
            unfold nX7_goOdds_l148
            rw [q1, if_pos (by decide)]
            rfl
        obtain ⟨M', s1, s2⟩ := hcp
        refine ⟨M', ?_, s2⟩
        show nX7_goOdds_l27 (nI k) e (nI c) y Z Y = _
        unfold nX7_goOdds_l27 nX7_many
        rw [b1_some, h1, z1, t0, if_leT (Nat.le_refl n) (by omega), s1]
        rfl
    obtain ⟨M', s1, s2⟩ := hmain
    refine ⟨M', ?_, s2⟩
    show nX7_goOdds_l3 (nI k) e (nI c) y Z Y = _
    unfold nX7_goOdds_l3
    rw [h1, if_pos (by decide), s1]
    rfl
/-! what divides both -/
theorem nL_mod {a b : Nat} (ha : a < 2 ^ 63) (hb : b < 2 ^ 63) : nL a - nL a / nL b * nL b = nL (a % b) := by
  have e2 : nL a / nL b = nL (a / b) := (Int64.ofNat_div ha hb).symm
  have e4 : nL a - nL (a / b * b) = nL (a - a / b * b) := (Int64.ofNat_sub _ _ (Nat.div_mul_le_self a b)).symm
  rw [e2, nL_mul, e4]
  have h := Nat.div_add_mod a b
  rw [Nat.mul_comm] at h
  exact congrArg nL (by omega)
theorem nL_0 {b : Nat} (hb : b < 2 ^ 63) : (nL b = 0) = (b = 0) := propext ⟨fun h => by
  have h1 : nL b ≤ nL 0 := by rw [h]; exact Int64.le_refl _
  rw [nL_le hb (by decide)] at h1
  omega, fun h => by rw [h]; rfl⟩
theorem eu_half {b r : Nat} (h0 : 0 < r) (h : r < b) : 2 * (b % r) < b := by
  have h1 := Nat.mod_add_div b r
  have h2 := Nat.mod_lt b h0
  have h3 : 1 ≤ b / r := Nat.div_pos (Nat.le_of_lt h) h0
  have h4 : r * 1 ≤ r * (b / r) := Nat.mul_le_mul_left r h3
  omega
theorem gcd_step (a b : Nat) : Nat.gcd a b = Nat.gcd b (a % b) := by
  rw [Nat.gcd_comm a b, Nat.gcd_rec b a, Nat.gcd_comm]
theorem eu7 (S : Nat → Nat → Int32) (L : Nat → Nat → Int64) (v q : Nat) : ∀ k a b fuel, b < 2 ^ k → a < 2 ^ 62 → b < 2 ^ 62 → 0 < Nat.gcd a b → 2 * k + 1 ≤ fuel → k_it (fun st => nX7_fraction_l6 (nL v) (nL q) st.1 st.2 S L) fuel (nL a, nL b) = some (k_wl (k_wl L 0 4 (nL v / nL (Nat.gcd a b))) 0 5 (nL q / nL (Nat.gcd a b))) := by
  have hx : ∀ a fuel, 0 < a → a < 2 ^ 62 → k_it (fun st => nX7_fraction_l6 (nL v) (nL q) st.1 st.2 S L) (fuel + 1) (nL a, nL 0) = some (k_wl (k_wl L 0 4 (nL v / nL a)) 0 5 (nL q / nL a)) := by
    intro a fuel h1 h2
    have : nX7_fraction_l6 (nL v) (nL q) (nL a) (nL 0) S L = some (.inr (k_wl (k_wl L 0 4 (nL v / nL a)) 0 5 (nL q / nL a))) := by
      unfold nX7_fraction_l6
      have hz : ¬ nL a = 0 := by rw [nL_0 (show a < 2 ^ 63 by omega)]; omega
      rw [if_pos (show lg_cmp (nL 0) 0 = 0 by rw [cmp_eq]; rfl), if_neg hz, if_neg hz]
      rfl
    rw [k_it, this]
  have hs : ∀ a b fuel, 0 < b → a < 2 ^ 62 → b < 2 ^ 62 → k_it (fun st => nX7_fraction_l6 (nL v) (nL q) st.1 st.2 S L) (fuel + 1) (nL a, nL b) = k_it (fun st => nX7_fraction_l6 (nL v) (nL q) st.1 st.2 S L) fuel (nL b, nL (a % b)) := by
    intro a b fuel h1 h2 h3
    have : nX7_fraction_l6 (nL v) (nL q) (nL a) (nL b) S L = some (.inl (nL b, nL (a % b))) := by
      unfold nX7_fraction_l6
      have hz : ¬ nL b = 0 := by rw [nL_0 (show b < 2 ^ 63 by omega)]; omega
      rw [if_neg (show ¬ lg_cmp (nL b) 0 = 0 by rw [cmp_eq]; exact hz), if_neg hz, nL_mod (by omega) (by omega)]
    rw [k_it, this]
  intro k
  induction k with
  | zero =>
    intro a b fuel h1 h2 h3 h4 h5
    have : b = 0 := by rw [Nat.pow_zero] at h1; omega
    subst this
    obtain ⟨fu, rfl⟩ : ∃ fu, fuel = fu + 1 := ⟨fuel - 1, by omega⟩
    rw [Nat.gcd_zero_right] at h4 ⊢
    exact hx a fu h4 h2
  | succ k ih =>
    intro a b fuel h1 h2 h3 h4 h5
    obtain ⟨fu, rfl⟩ : ∃ fu, fuel = fu + 1 + 1 := ⟨fuel - 2, by omega⟩
    by_cases c : b = 0
    · subst c
      rw [Nat.gcd_zero_right] at h4 ⊢
      exact hx a (fu + 1) h4 h2
    · rw [hs a b (fu + 1) (by omega) h2 h3]
      have hr := Nat.mod_lt a (show 0 < b by omega)
      rw [gcd_step a b] at h4 ⊢
      by_cases c2 : a % b = 0
      · rw [c2, Nat.gcd_zero_right]
        exact hx b fu (by omega) h3
      · rw [hs b (a % b) fu (by omega) h3 (by omega)]
        have hh := eu_half (show 0 < a % b by omega) hr
        rw [gcd_step b (a % b)] at h4 ⊢
        rw [Nat.pow_succ] at h1
        exact ih (a % b) (b % (a % b)) fu (by omega) (by omega) (by omega) h4 (by omega)
theorem eu6 : ∀ k a b c fuel, b < 2 ^ k → a < 2 ^ 62 → b < 2 ^ 62 → 0 < Nat.gcd a b → 2 * k + 1 ≤ fuel → c + (2 * k + 1) ≤ 200 → k_it (fun st => nX6_commonDivisor_l9 st.1 st.2.1 st.2.2) fuel (nL a, nL b, nI c) = some (nL (Nat.gcd a b)) := by
  have hx : ∀ a c fuel, 0 < a → a < 2 ^ 62 → c < 200 → k_it (fun st => nX6_commonDivisor_l9 st.1 st.2.1 st.2.2) (fuel + 1) (nL a, nL 0, nI c) = some (nL a) := by
    intro a c fuel h1 h2 h3
    have : nX6_commonDivisor_l9 (nL a) (nL 0) (nI c) = some (.inr (nL a)) := by
      unfold nX6_commonDivisor_l9 nX6_commonDivisor_j45
      rw [show (200 : Int32) = nI 200 from rfl, if_leF h3 (by decide), if_pos (show lg_cmp (nL 0) 0 = 0 by rw [cmp_eq]; rfl), if_pos (show 0 ≤ lg_cmp (nL a) 1 by rw [cmp_ge, show (1 : Int64) = nL 1 from rfl, nL_le (by decide) (by omega)]; omega)]
      rfl
    rw [k_it, this]
  have hs : ∀ a b c fuel, 0 < b → a < 2 ^ 62 → b < 2 ^ 62 → c < 200 → k_it (fun st => nX6_commonDivisor_l9 st.1 st.2.1 st.2.2) (fuel + 1) (nL a, nL b, nI c) = k_it (fun st => nX6_commonDivisor_l9 st.1 st.2.1 st.2.2) fuel (nL b, nL (a % b), nI (c + 1)) := by
    intro a b c fuel h1 h2 h3 h4
    have : nX6_commonDivisor_l9 (nL a) (nL b) (nI c) = some (.inl (nL b, nL (a % b), nI (c + 1))) := by
      unfold nX6_commonDivisor_l9
      have hz : ¬ nL b = 0 := by rw [nL_0 (show b < 2 ^ 63 by omega)]; omega
      rw [show (200 : Int32) = nI 200 from rfl, if_leF h4 (by decide), if_neg (show ¬ lg_cmp (nL b) 0 = 0 by rw [cmp_eq]; exact hz), if_neg hz, nL_mod (by omega) (by omega), nI_1]
    rw [k_it, this]
  intro k
  induction k with
  | zero =>
    intro a b c fuel h1 h2 h3 h4 h5 h6
    have : b = 0 := by rw [Nat.pow_zero] at h1; omega
    subst this
    obtain ⟨fu, rfl⟩ : ∃ fu, fuel = fu + 1 := ⟨fuel - 1, by omega⟩
    rw [Nat.gcd_zero_right] at h4 ⊢
    exact hx a c fu h4 h2 (by omega)
  | succ k ih =>
    intro a b c fuel h1 h2 h3 h4 h5 h6
    obtain ⟨fu, rfl⟩ : ∃ fu, fuel = fu + 1 + 1 := ⟨fuel - 2, by omega⟩
    by_cases c0 : b = 0
    · subst c0
      rw [Nat.gcd_zero_right] at h4 ⊢
      exact hx a c (fu + 1) h4 h2 (by omega)
    · rw [hs a b c (fu + 1) (by omega) h2 h3 (by omega)]
      have hr := Nat.mod_lt a (show 0 < b by omega)
      rw [gcd_step a b] at h4 ⊢
      by_cases c2 : a % b = 0
      · rw [c2, Nat.gcd_zero_right]
        exact hx b (c + 1) fu (by omega) h3 (by omega)
      · rw [hs b (a % b) (c + 1) fu (by omega) h3 (by omega) (by omega)]
        have hh := eu_half (show 0 < a % b by omega) hr
        rw [gcd_step b (a % b)] at h4 ⊢
        rw [Nat.pow_succ] at h1
        exact ih (a % b) (b % (a % b)) (c + 1 + 1) fu (by omega) (by omega) (by omega) h4 (by omega) (by omega)
theorem X7_oddsGo_spec {V T : Nat → Nat → Int32} {M : Nat → Nat → Int64} {n m un uc up d k p N c : Nat} (h : vr V (T 1) n m un uc up d 9999) (hk : k < m) (hp : p < n) (hN : N < 8) (hc : c ≤ 10) (hM : ∀ j, j < 14 → M 13 j = nL (odA n (T 1) k d c 0 j)) : ∃ o, k_it (fun st => nX7_odds_l126 (nI k) (nI p) (nI N) (nI c) st.1 st.2.1 (lcF T 1 n) st.2.2) 1000 ((1 : Int64), (0 : Int32), M) = some o ∧ (o.1 = 1 ∧ o.2.1 = lcF T 1 n ∧ o.2.2 0 4 = nL (odA n (T 1) k d c N p) / nL (Nat.gcd (odA n (T 1) k d c N p) (10 ^ N)) ∧ o.2.2 0 5 = nL (10 ^ N) / nL (Nat.gcd (odA n (T 1) k d c N p) (10 ^ N))) := by
  have hv := h
  obtain ⟨⟨t0, t1, t2, t3, t4, t22⟩, ⟨b1, b2, b3, b4, b5, b6⟩, -⟩ := h
  have e1 : lcF T 1 n 1 = T 1 := lcF_ne (by decide)
  refine it_inv (fun i st => st.1 = nL (10 ^ i) ∧ st.2.1 = nI i ∧ ∀ j, j < 14 → st.2.2 13 j = nL (odA n (T 1) k d c i j)) N (by omega) (fun i st hi hv1 => ?_) (fun st hv1 => ?_) ⟨rfl, rfl, hM⟩
  · obtain ⟨x, y, Y⟩ := st
    obtain ⟨h0, h1, h3⟩ := hv1
    have h0 : x = nL (10 ^ i) := h0
    have h1 : y = nI i := h1
    have h3 : ∀ j, j < 14 → Y 13 j = nL (odA n (T 1) k d c i j) := h3
    left
    obtain ⟨Y', q1, q2⟩ := X7_goOdds_spec (Z := lcF T 1 n) (M := Y) hv e1 rfl hk (nI (d + i)) hc h3
    refine ⟨(nL (10 ^ (i + 1)), nI (i + 1), Y'), ?_, rfl, rfl, fun j hj => ?_⟩
    · show nX7_odds_l126 (nI k) (nI p) (nI N) (nI c) x y (lcF T 1 n) Y = _
      unfold nX7_odds_l126
      rw [h0, h1, if_leF hi (by omega), e1, t22, nI_add, q1, b1_some, nI_1, show (10 : Int64) = nL 10 from rfl, nL_mul]
      rfl
    · rw [odA_s]; exact q2 j hj
  · obtain ⟨x, y, Y⟩ := st
    obtain ⟨h0, h1, h3⟩ := hv1
    have h0 : x = nL (10 ^ N) := h0
    have h1 : y = nI N := h1
    have h3 : ∀ j, j < 14 → Y 13 j = nL (odA n (T 1) k d c N j) := h3
    have hsm := odA_small b1 (T 1) k d hc (show N ≤ 7 by omega) p
    have h10 : 10 ^ N < 2 ^ 24 := Nat.lt_of_le_of_lt (Nat.pow_le_pow_right (by decide) (show N ≤ 7 by omega)) (by decide)
    have hpos : 0 < 10 ^ N := Nat.pow_pos (by decide)
    have hfr := eu7 (lcF T 1 n) Y (odA n (T 1) k d c N p) (10 ^ N) 24 (odA n (T 1) k d c N p) (10 ^ N) 1000 h10 (by omega) (by omega) (Nat.gcd_pos_of_pos_right _ hpos) (by decide)
    refine ⟨((1 : Int32), lcF T 1 n, k_wl (k_wl Y 0 4 (nL (odA n (T 1) k d c N p) / nL (Nat.gcd (odA n (T 1) k d c N p) (10 ^ N)))) 0 5 (nL (10 ^ N) / nL (Nat.gcd (odA n (T 1) k d c N p) (10 ^ N)))), ?_, rfl, rfl, ?_, ?_⟩
    · show nX7_odds_l126 (nI k) (nI p) (nI N) (nI c) x y (lcF T 1 n) Y = _
      unfold nX7_odds_l126 nX7_fraction
      rw [h0, h1, if_leT (Nat.le_refl N) (by omega), if_ok (show p < 14 by omega) (by decide), nI_clamp (show p < 2 ^ 31 by omega), h3 p (by omega), hfr]
      rfl
    · show k_wl (k_wl Y 0 4 (nL (odA n (T 1) k d c N p) / nL (Nat.gcd (odA n (T 1) k d c N p) (10 ^ N)))) 0 5 (nL (10 ^ N) / nL (Nat.gcd (odA n (T 1) k d c N p) (10 ^ N))) 0 4 = _
      rw [wl_off _ (by decide), wl_at]
    · show k_wl (k_wl Y 0 4 (nL (odA n (T 1) k d c N p) / nL (Nat.gcd (odA n (T 1) k d c N p) (10 ^ N)))) 0 5 (nL (10 ^ N) / nL (Nat.gcd (odA n (T 1) k d c N p) (10 ^ N))) 0 5 = _
      rw [wl_at]
theorem op_odds : k_op_odds k_R := by
  intro S L T M p1 p2 p3 p4 hR
  have hR0 := hR
  obtain ⟨⟨n, m, un, uc, up, d, hv⟩, -⟩ := hR
  have hv0 := hv
  obtain ⟨⟨t0, t1, t2, t3, t4, t22⟩, ⟨b1, b2, b3, b4, b5, b6⟩, ⟨v0, v1, v2, v3, v4, v5⟩, hpp, hnd, hth, -⟩ := hv
  have v0 : S 1 12 = nI n := v0
  have v1 : S 1 13 = nI m := v1
  by_cases h1 : pz p1 m
  · by_cases h2 : pz p2 n
    · by_cases h3 : pz p3 8
      · by_cases h4 : pz p4 11
        · obtain ⟨k, hk, rfl⟩ := h1
          obtain ⟨p, hp, rfl⟩ := h2
          obtain ⟨N, hN, rfl⟩ := h3
          obtain ⟨c, hc, rfl⟩ := h4
          obtain ⟨-, -, -, -, -, -, -, -, ⟨q, hq, eq⟩, -⟩ := hth k hk
          have hc : c ≤ 10 := by omega
          obtain ⟨⟨r53, L53⟩, e6, g6⟩ := X0_chanceOfTens_spec (S := k_wi S 70) (L := k_wi L 70) hv0 hk hp hN hc
          have g6 : r53 = nL (odA n (T 1) k d c N p) := g6
          have e1 : lcF T 1 n 1 = T 1 := lcF_ne (by decide)
          have hsm := odA_small b1 (T 1) k d hc (show N ≤ 7 by omega) p
          have h10 : 10 ^ N < 2 ^ 24 := Nat.lt_of_le_of_lt (Nat.pow_le_pow_right (by decide) (show N ≤ 7 by omega)) (by decide)
          have hpos : 0 < 10 ^ N := Nat.pow_pos (by decide)
          have hg := Nat.gcd_pos_of_pos_left (odA n (T 1) k d c N p) hpos
          have hgle := Nat.gcd_le_left (odA n (T 1) k d c N p) hpos
          have hgz : ¬ nL (Nat.gcd (10 ^ N) (odA n (T 1) k d c N p)) = 0 := by rw [nL_0 (by omega)]; omega
          have hcd : nX6_commonDivisor (nL (10 ^ N)) (nL (odA n (T 1) k d c N p)) = some (nL (Nat.gcd (10 ^ N) (odA n (T 1) k d c N p))) := by
            unfold nX6_commonDivisor
            exact eu6 60 (10 ^ N) (odA n (T 1) k d c N p) 0 1000 hsm (by omega) (by omega) hg (by decide) (by decide)
          have hfirst : ∃ o, k_it (fun st => nX7_odds_l62 (nI k) (nI p) (nI N) (nI c) (1 : Int64) st.1 (lcF T 1 n) st.2) 1000 ((0 : Int32), M) = some o ∧ (o.1 = 1 ∧ o.2.1 = lcF T 1 n ∧ o.2.2 0 4 = nL (odA n (T 1) k d c N p) / nL (Nat.gcd (odA n (T 1) k d c N p) (10 ^ N)) ∧ o.2.2 0 5 = nL (10 ^ N) / nL (Nat.gcd (odA n (T 1) k d c N p) (10 ^ N))) := by
            refine it_inv (fun i st => st.1 = nI i ∧ ∀ j, j < i → st.2 13 j = nL 0) 14 (by decide) (fun i st hi hv1 => ?_) (fun st hv1 => ?_) ⟨rfl, fun j hj => absurd hj (Nat.not_lt_zero j)⟩
            · obtain ⟨y, Y⟩ := st
              obtain ⟨s1, s3⟩ := hv1
              have s1 : y = nI i := s1
              left
              refine ⟨(nI (i + 1), k_wl Y 13 i (nL 0)), ?_, rfl, fun j hj => ?_⟩
              · show nX7_odds_l62 (nI k) (nI p) (nI N) (nI c) 1 y (lcF T 1 n) Y = _
                unfold nX7_odds_l62
                rw [s1, show (14 : Int32) = nI 14 from rfl, if_leF hi (by decide), if_ok hi (by decide), nI_clamp (by omega), nI_1]
                rfl
              · show k_wl Y 13 i _ 13 j = _
                by_cases q : j = i
                · rw [q, wl_at]
                · rw [wl_off _ q]; exact s3 j (by omega)
            · obtain ⟨y, Y⟩ := st
              obtain ⟨s1, s3⟩ := hv1
              have s1 : y = nI 14 := s1
              have s3 : ∀ j, j < 14 → Y 13 j = nL 0 := s3
              have fin : ∀ g, g < 14 → g = stF (T 1) k → ∀ j, j < 14 → k_wl Y 13 g 1 13 j = nL (odA n (T 1) k d c 0 j) := by
                intro g hg eg j hj
                show _ = nL (s0F (T 1) k 0 1 j)
                unfold s0F
                by_cases q : j = g
                · rw [q, wl_at, if_pos eg]; rfl
                · rw [wl_off _ q, s3 j hj, if_neg (by omega)]
              show ∃ x, nX7_odds_l62 (nI k) (nI p) (nI N) (nI c) 1 y (lcF T 1 n) Y = _ ∧ _
              unfold nX7_odds_l62
              rw [s1, if_pos (by decide), show (10 : Int32) + nI k = nI (10 + k) from nI_add 10 k, show (5 : Int32) + nI k = nI (5 + k) from nI_add 5 k, if_ok (show 10 + k < 284 by omega) (by decide), if_ok (show 5 + k < 284 by omega) (by decide), if_ok (show 5 + k < 284 by omega) (by decide), nI_clamp (show 10 + k < 2 ^ 31 by omega), nI_clamp (show 5 + k < 2 ^ 31 by omega), e1, eq, show (7 : Int32) + nI q = nI (7 + q) from nI_add 7 q, if_ok (show q < 14 by omega) (by decide), if_ok (show 7 + q < 14 by omega) (by decide), nI_clamp (show q < 2 ^ 31 by omega), nI_clamp (show 7 + q < 2 ^ 31 by omega)]
              by_cases c0 : T 1 (10 + k) = 0
              · rw [if_pos c0]
                obtain ⟨o, u1, u2⟩ := X7_oddsGo_spec (M := k_wl Y 13 q 1) hv0 hk hp hN hc (fin q (by omega) (by unfold stF; rw [if_pos c0, eq, nI_clamp (by omega)]))
                exact ⟨o, by rw [u1]; rfl, u2⟩
              · rw [if_neg c0]
                obtain ⟨o, u1, u2⟩ := X7_oddsGo_spec (M := k_wl Y 13 (7 + q) 1) hv0 hk hp hN hc (fin (7 + q) (by omega) (by unfold stF; rw [if_neg c0, eq, nI_clamp (by omega)]))
                exact ⟨o, by rw [u1]; rfl, u2⟩
          obtain ⟨⟨r7, Z7, M7⟩, u1, u2, u3, u4, u5⟩ := hfirst
          have u2 : r7 = 1 := u2
          have u3 : Z7 = lcF T 1 n := u3
          have w4 : M7 0 4 = nL (odA n (T 1) k d c N p) / nL (Nat.gcd (odA n (T 1) k d c N p) (10 ^ N)) := u4
          have w5 : M7 0 5 = nL (10 ^ N) / nL (Nat.gcd (odA n (T 1) k d c N p) (10 ^ N)) := u5
          subst u2 u3
          obtain ⟨g1, g2, g3, -, g5⟩ := R_lc 1 n hR0
          refine ⟨1, S, k_wl (k_wl (k_sp L 70 5 L53) 0 10 (nL (odA n (T 1) k d c N p) / nL (Nat.gcd (10 ^ N) (odA n (T 1) k d c N p)))) 0 11 (nL (10 ^ N) / nL (Nat.gcd (10 ^ N) (odA n (T 1) k d c N p))), lcF T 1 n, M7, ?_, ?_, g1, g2, g3, ⟨?_, ?_⟩, g5⟩
          · unfold nX6_odds
            rw [isThing_in v1 b2 (z_nI hk), b1_some, if_neg (by decide), isPerson_in v0 b1 (z_nI hp), b1_some, if_neg (by decide), upTo_inK 8 (by decide) 8 rfl (z_nI hN), b1_some, if_neg (by decide), upTo_inK 11 (by decide) 11 rfl (z_nI (show c < 11 by omega)), b1_some, if_neg (by decide), e6, b2_some, g6]
            refine it_for (fun i => (nL (10 ^ i), nI i)) N (by omega) (fun i hi => ?_) ?_
            · show nX6_odds_l64 (nI N) (nL (odA n (T 1) k d c N p)) (nL (10 ^ i)) (nI i) S (k_sp L 70 5 L53) = _
              unfold nX6_odds_l64
              rw [if_leF hi (by omega), show (10 : Int64) = nL 10 from rfl, nL_mul, nI_1]
              rfl
            · show nX6_odds_l64 (nI N) (nL (odA n (T 1) k d c N p)) (nL (10 ^ N)) (nI N) S (k_sp L 70 5 L53) = _
              unfold nX6_odds_l64
              rw [if_leT (Nat.le_refl N) (by omega), hcd, b1_some, if_neg hgz, if_neg hgz]
              rfl
          · unfold nX7_odds
            rw [isThing7_in t1 b2 (z_nI hk), b1_some, if_neg (by decide), isOne7_in t0 b1 (z_nI hp), b1_some, if_neg (by decide), in_inK 8 (by decide) 7 (by decide) (z_nI hN), b1_some, if_neg (by decide), in_inK 11 (by decide) 10 (by decide) (z_nI (show c < 11 by omega)), b1_some, if_neg (by decide), X7_layCoats_1_spec b1 t0, b1_some, u1]
          · rw [wl_off _ (by decide), wl_at, w4, Nat.gcd_comm]
          · rw [wl_at, w5, Nat.gcd_comm]
        · refine ⟨-2, _, L, _, M, ?_, ?_, R_bad 0 (by decide) hR0⟩
          · unfold nX6_odds nX6_odds_j35
            rw [isThing_in v1 b2 h1, b1_some, if_neg (by decide), isPerson_in v0 b1 h2, b1_some, if_neg (by decide), upTo_inK 8 (by decide) 8 rfl h3, b1_some, if_neg (by decide), upTo_outK 11 (by decide) 11 rfl h4, b1_some, if_pos rfl, bad6]; rfl
          · unfold nX7_odds nX7_odds_j41
            rw [isThing7_in t1 b2 h1, b1_some, if_neg (by decide), isOne7_in t0 b1 h2, b1_some, if_neg (by decide), in_inK 8 (by decide) 7 (by decide) h3, b1_some, if_neg (by decide), in_outK 11 (by decide) 10 (by decide) h4, b1_some, if_pos rfl, bad7]; rfl
      · refine ⟨-2, _, L, _, M, ?_, ?_, R_bad 0 (by decide) hR0⟩
        · unfold nX6_odds nX6_odds_j35
          rw [isThing_in v1 b2 h1, b1_some, if_neg (by decide), isPerson_in v0 b1 h2, b1_some, if_neg (by decide), upTo_outK 8 (by decide) 8 rfl h3, b1_some, if_pos rfl, bad6]; rfl
        · unfold nX7_odds nX7_odds_j41
          rw [isThing7_in t1 b2 h1, b1_some, if_neg (by decide), isOne7_in t0 b1 h2, b1_some, if_neg (by decide), in_outK 8 (by decide) 7 (by decide) h3, b1_some, if_pos rfl, bad7]; rfl
    · refine ⟨-2, _, L, _, M, ?_, ?_, R_bad 0 (by decide) hR0⟩
      · unfold nX6_odds nX6_odds_j35
        rw [isThing_in v1 b2 h1, b1_some, if_neg (by decide), isPerson_out v0 b1 h2, b1_some, if_pos rfl, bad6]; rfl
      · unfold nX7_odds nX7_odds_j41
        rw [isThing7_in t1 b2 h1, b1_some, if_neg (by decide), isOne7_out t0 b1 h2, b1_some, if_pos rfl, bad7]; rfl
  · refine ⟨-2, _, L, _, M, ?_, ?_, R_bad 0 (by decide) hR0⟩
    · unfold nX6_odds nX6_odds_j35
      rw [isThing_out v1 b2 h1, b1_some, if_pos rfl, bad6]; rfl
    · unfold nX7_odds nX7_odds_j41
      rw [isThing7_out t1 b2 h1, b1_some, if_pos rfl, bad7]; rfl
