/-! the digest, on both sides -/
theorem fdF_congr {f g : Nat → Int64} {x : Int64} : ∀ N, (∀ i, i < N → f i = g i) → fdF f x N = fdF g x N
  | 0, _ => rfl
  | N + 1, h => by rw [fdF_s, fdF_s, h N (by omega), fdF_congr N (fun i hi => h i (by omega))]
theorem dpF_s (t : Nat → Int32) (x : Int64) (p : Nat) : dpF t x (p + 1) = fdF (fun s => (t (37 + (4 * p + s))).toInt64) (((31 : Int64) * ((31 : Int64) * ((31 : Int64) * dpF t x p + (t (23 + p)).toInt64) + (t (30 + p)).toInt64)) + (t (15 + p)).toInt64) 4 := rfl
theorem dtF_s (t : Nat → Int32) (x : Int64) (k : Nat) : dtF t x (k + 1) = ((31 : Int64) * (((31 : Int64) * (((31 : Int64) * (((31 : Int64) * (((31 : Int64) * dtF t x k) + (t (65 + k)).toInt64)) + (t (70 + k)).toInt64)) + (t (75 + k)).toInt64)) + (t (5 + k)).toInt64)) + (t (10 + k)).toInt64 := rfl
theorem X5_mixPeople_spec {V : Nat → Nat → Int32} {t : Nat → Int32} {n m : Nat} (h : vq V t n m) (x : Int64) : nX5_mixPeople V x = some (dpF t x n) := by
  obtain ⟨⟨t0, t1, v0, v1, b1, b2⟩, hp, hnd, hth⟩ := h
  unfold nX5_mixPeople
  refine it_for (fun i => (dpF t x i, nI i)) n (by omega) (fun p hpn => ?_) ?_
  · show nX5_mixPeople_l5 (dpF t x p) (nI p) V = _
    obtain ⟨g1, g2, g3, -⟩ := hp p hpn
    have hp7 : ¬ (nI p < 0 ∨ 7 ≤ p) := fun c => by
      rcases c with c | c
      · exact nI_pos (show p < 2 ^ 31 by omega) c
      · omega
    unfold nX5_mixPeople_l5
    rw [v0, if_leF hpn (by omega), if_ok (show p < 7 by omega) (by decide), nI_clamp (show p < 2 ^ 31 by omega), if_neg hp7, if_neg hp7, g1, g2, g3, dpF_s]
    refine it_for (fun s => (fdF (fun s => (t (37 + (4 * p + s))).toInt64) (((31 : Int64) * ((31 : Int64) * ((31 : Int64) * dpF t x p + (t (23 + p)).toInt64) + (t (30 + p)).toInt64)) + (t (15 + p)).toInt64) s, nI s)) 4 (by decide) (fun s hs => ?_) ?_
    · show nX5_mixPeople_i5_l62 (fdF (fun s => (t (37 + (4 * p + s))).toInt64) _ s) (nI p) (nI s) V = _
      unfold nX5_mixPeople_i5_l62
      rw [ix4, show (4 : Int32) = nI 4 from rfl, if_leF hs (by decide), if_ok (show 4 * p + s < 28 by omega) (by decide), nI_clamp (show 4 * p + s < 2 ^ 31 by omega), (hnd (4 * p + s) (by omega)).1, fdF_s, nI_1]
    · show nX5_mixPeople_i5_l62 (fdF (fun s => (t (37 + (4 * p + s))).toInt64) _ 4) (nI p) (nI 4) V = _
      unfold nX5_mixPeople_i5_l62
      rw [if_pos (by decide), nI_1]
      rfl
  · show nX5_mixPeople_l5 (dpF t x n) (nI n) V = _
    unfold nX5_mixPeople_l5
    rw [v0, if_leT (Nat.le_refl n) (by omega)]
    rfl
theorem X5_mixThings_spec {V : Nat → Nat → Int32} {t : Nat → Int32} {n m : Nat} (h : vq V t n m) (x : Int64) : nX5_mixThings V x = some (dtF t x m) := by
  obtain ⟨⟨t0, t1, v0, v1, b1, b2⟩, hp, hnd, hth⟩ := h
  unfold nX5_mixThings
  refine it_for (fun i => (dtF t x i, nI i)) m (by omega) (fun k hk => ?_) ?_
  · show nX5_mixThings_l5 (dtF t x k) (nI k) V = _
    obtain ⟨g1, g2, g3, g4, g5, -⟩ := hth k hk
    have hk5 : ¬ (nI k < 0 ∨ 5 ≤ k) := fun c => by
      rcases c with c | c
      · exact nI_pos (show k < 2 ^ 31 by omega) c
      · omega
    unfold nX5_mixThings_l5
    rw [v1, if_leF hk (by omega), if_ok (show k < 5 by omega) (by decide), nI_clamp (show k < 2 ^ 31 by omega), if_neg hk5, if_neg hk5, if_neg hk5, if_neg hk5, g1, g2, g3, g4, g5, dtF_s, nI_1]
  · show nX5_mixThings_l5 (dtF t x m) (nI m) V = _
    unfold nX5_mixThings_l5
    rw [v1, if_leT (Nat.le_refl m) (by omega)]
    rfl
theorem X3_mixN_spec {S : Nat → Nat → Int32} {un : Nat} (hu : S 11 3 = nI un) (hun : un ≤ 6) (x : Int64) : nX3_mix 36 (6 : Int32) (6 : Int32) (k_wi S 11) x = some (fdF (fun j => (S 12 j).toInt64) x (6 * un)) := by
  have e0 : k_wi S 11 0 3 = nI un := hu
  have e6 : nI un * (6 : Int32) = nI (6 * un) := by rw [show (6 : Int32) = nI 6 from rfl, pk_mul, Nat.mul_comm]
  unfold nX3_mix
  refine it_for (fun i => (fdF (fun j => (S 12 j).toInt64) x i, nI i)) (6 * un) (by omega) (fun i hi => ?_) ?_
  · show nX3_mix_l5 36 6 6 (fdF (fun j => (S 12 j).toInt64) x i) (nI i) (k_wi S 11) = _
    unfold nX3_mix_l5
    rw [e0, e6, if_leF hi (by omega), show (Int32.ofNat 36) = nI 36 from rfl, if_leF (show i < 36 by omega) (by decide), if_ok (show i < 36 by omega) (by decide), nI_clamp (by omega), fdF_s, nI_1]
    rfl
  · show nX3_mix_l5 36 6 6 (fdF (fun j => (S 12 j).toInt64) x (6 * un)) (nI (6 * un)) (k_wi S 11) = _
    unfold nX3_mix_l5
    rw [e0, e6, if_leT (Nat.le_refl _) (by omega)]
    rfl
theorem X3_mixC_spec {S : Nat → Nat → Int32} {uc : Nat} (hu : S 13 3 = nI uc) (huc : uc ≤ 6) (x : Int64) : nX3_mix 24 (4 : Int32) (6 : Int32) (k_wi S 13) x = some (fdF (fun j => (S 14 j).toInt64) x (4 * uc)) := by
  have e0 : k_wi S 13 0 3 = nI uc := hu
  have e4 : nI uc * (4 : Int32) = nI (4 * uc) := by rw [show (4 : Int32) = nI 4 from rfl, pk_mul, Nat.mul_comm]
  unfold nX3_mix
  refine it_for (fun i => (fdF (fun j => (S 14 j).toInt64) x i, nI i)) (4 * uc) (by omega) (fun i hi => ?_) ?_
  · show nX3_mix_l5 24 4 6 (fdF (fun j => (S 14 j).toInt64) x i) (nI i) (k_wi S 13) = _
    unfold nX3_mix_l5
    rw [e0, e4, if_leF hi (by omega), show (Int32.ofNat 24) = nI 24 from rfl, if_leF (show i < 24 by omega) (by decide), if_ok (show i < 24 by omega) (by decide), nI_clamp (by omega), fdF_s, nI_1]
    rfl
  · show nX3_mix_l5 24 4 6 (fdF (fun j => (S 14 j).toInt64) x (4 * uc)) (nI (4 * uc)) (k_wi S 13) = _
    unfold nX3_mix_l5
    rw [e0, e4, if_leT (Nat.le_refl _) (by omega)]
    rfl
theorem X7_sums_spec {T : Nat → Nat → Int32} {M : Nat → Nat → Int64} {a b : Nat} (h : a + b ≤ 284) (x : Int64) {y z : Int32} (hy : y = nI a) (hz : z = nI b) : nX7_sums T M x y z = some (fdF (fun s => (T 1 (a + s)).toInt64) x b) := by
  subst hy
  subst hz
  unfold nX7_sums
  refine it_for (fun i => (fdF (fun s => (T 1 (a + s)).toInt64) x i, nI i)) b (by omega) (fun i hi => ?_) ?_
  · show nX7_sums_l6 (nI a) (nI b) (fdF (fun s => (T 1 (a + s)).toInt64) x i) (nI i) T M = _
    unfold nX7_sums_l6
    rw [if_leF hi (by omega), nI_add, if_ok (show a + i < 284 by omega) (by decide), nI_clamp (by omega), fdF_s, nI_1]
  · show nX7_sums_l6 (nI a) (nI b) (fdF (fun s => (T 1 (a + s)).toInt64) x b) (nI b) T M = _
    unfold nX7_sums_l6
    rw [if_leT (Nat.le_refl b) (by omega)]
    rfl
theorem op_digest : k_op_digest k_R := by
  intro S L T M hR
  have hR0 := hR
  obtain ⟨⟨n, m, un, uc, up, d, hv⟩, -, -, ⟨hL0, hL1⟩, len, hlen, hl6, hl7, -⟩ := hR
  have hq0 := vq_of hv
  have hv0 := hv
  obtain ⟨⟨t0, t1, t2, t3, t4, t22⟩, ⟨b1, b2, b3, b4, b5, b6⟩, ⟨v0, v1, v2, v3, v4, v5⟩, hp, hnd, hth, hno, hca, hcq, hpa⟩ := hv
  obtain ⟨X, hX⟩ : ∃ X : Nat → Int64, X = fun i => fdF (fun j => (nI (hmF S T n m un uc up d len j)).toInt64) (1483 : Int64) i := ⟨_, rfl⟩
  have X0 : X 0 = 1483 := by rw [hX]; rfl
  have Xs : ∀ i, X (i + 1) = (31 * X i) + (nI (hmF S T n m un uc up d len i)).toInt64 := fun i => by rw [hX]; rfl
  obtain ⟨r, hr⟩ : ∃ r, r = (31 : Int64) * ((31 : Int64) * (fdF (fun j => (T 1 (116 + j)).toInt64) (fdF (fun j => (T 1 (80 + j)).toInt64) (dtF (T 1) (dpF (T 1) (X 9) n) m) (6 * un)) (4 * uc)) + M 0 4) + M 0 5 := ⟨_, rfl⟩
  refine ⟨r, ?_, ?_, hR0⟩
  · unfold nX6_digest
    rw [show ((1483 : Int64), (0 : Int32)) = (X 0, nI 0) from by rw [X0]; rfl]
    refine it_for (fun i => (X i, nI i)) 9 (by decide) (fun i hi => ?_) ?_
    · show nX6_digest_l6 (X i) (nI i) S L = _
      unfold nX6_digest_l6
      rw [show (9 : Int32) = nI 9 from rfl, if_leF hi (by decide), X6_howMany_spec hv0 hl6 hi, b1_some, Xs, nI_1]
    · show nX6_digest_l6 (X 9) (nI 9) S L = _
      unfold nX6_digest_l6
      rw [if_pos (by decide), X5_mixPeople_spec hq0, b1_some, X5_mixThings_spec hq0, b1_some, X3_mixN_spec v2 b3, b1_some, X3_mixC_spec v3 b4, b1_some, hL0, hL1, hr]
      rw [fdF_congr (f := fun j => (S 12 j).toInt64) (g := fun j => (T 1 (80 + j)).toInt64) (6 * un) (fun i hi => congrArg Int32.toInt64 (hno i hi)), fdF_congr (f := fun j => (S 14 j).toInt64) (g := fun j => (T 1 (116 + j)).toInt64) (4 * uc) (fun i hi => congrArg Int32.toInt64 (hca i hi))]
      rfl
  · have hthings : k_it (fun st => nX7_digest_l109 st.1 st.2 T M) 1000 (dpF (T 1) (X 9) n, (0 : Int32)) = some r := by
      refine it_for (fun i => (dtF (T 1) (dpF (T 1) (X 9) n) i, nI i)) m (by omega) (fun k hk => ?_) ?_
      · show nX7_digest_l109 (dtF (T 1) (dpF (T 1) (X 9) n) k) (nI k) T M = _
        unfold nX7_digest_l109 nX7_manyThings
        rw [b1_some, t1, if_leF hk (by omega), show (65 : Int32) + nI k = nI (65 + k) from nI_add 65 k, show (70 : Int32) + nI k = nI (70 + k) from nI_add 70 k, show (75 : Int32) + nI k = nI (75 + k) from nI_add 75 k, show (5 : Int32) + nI k = nI (5 + k) from nI_add 5 k, show (10 : Int32) + nI k = nI (10 + k) from nI_add 10 k, if_ok (show 65 + k < 284 by omega) (by decide), if_ok (show 70 + k < 284 by omega) (by decide), if_ok (show 75 + k < 284 by omega) (by decide), if_ok (show 5 + k < 284 by omega) (by decide), if_ok (show 10 + k < 284 by omega) (by decide), nI_clamp (show 65 + k < 2 ^ 31 by omega), nI_clamp (show 70 + k < 2 ^ 31 by omega), nI_clamp (show 75 + k < 2 ^ 31 by omega), nI_clamp (show 5 + k < 2 ^ 31 by omega), nI_clamp (show 10 + k < 2 ^ 31 by omega), dtF_s, nI_1]
      · show nX7_digest_l109 (dtF (T 1) (dpF (T 1) (X 9) n) m) (nI m) T M = _
        unfold nX7_digest_l109 nX7_manyThings
        rw [b1_some, t1, if_leT (Nat.le_refl m) (by omega), t2, t3, X7_sums_spec (a := 80) (b := 6 * un) (y := (80 : Int32)) (z := (6 : Int32) * nI un) (by omega) _ rfl (by rw [show (6 : Int32) = nI 6 from rfl, pk_mul]), b1_some, X7_sums_spec (a := 116) (b := 4 * uc) (y := (116 : Int32)) (z := (4 : Int32) * nI uc) (by omega) _ rfl (h4n uc), b1_some, hr]
        rfl
    have hpeople : k_it (fun st => nX7_digest_l33 st.1 st.2 T M) 1000 (X 9, (0 : Int32)) = some r := by
      refine it_for (fun i => (dpF (T 1) (X 9) i, nI i)) n (by omega) (fun p hpn => ?_) ?_
      · show nX7_digest_l33 (dpF (T 1) (X 9) p) (nI p) T M = _
        unfold nX7_digest_l33 nX7_many
        rw [b1_some, t0, if_leF hpn (by omega), show (23 : Int32) + nI p = nI (23 + p) from nI_add 23 p, show (30 : Int32) + nI p = nI (30 + p) from nI_add 30 p, show (15 : Int32) + nI p = nI (15 + p) from nI_add 15 p, if_ok (show 23 + p < 284 by omega) (by decide), if_ok (show 30 + p < 284 by omega) (by decide), if_ok (show 15 + p < 284 by omega) (by decide), nI_clamp (show 23 + p < 2 ^ 31 by omega), nI_clamp (show 30 + p < 2 ^ 31 by omega), nI_clamp (show 15 + p < 2 ^ 31 by omega), X7_sums_spec (a := 37 + 4 * p) (b := 4) (y := (37 : Int32) + (4 : Int32) * nI p) (z := (4 : Int32)) (by omega) _ (by rw [h4n]; exact nI_add 37 (4 * p)) rfl, b1_some, dpF_s, nI_1]
        rw [fdF_congr (f := fun s => (T 1 (37 + 4 * p + s)).toInt64) (g := fun s => (T 1 (37 + (4 * p + s))).toInt64) 4 (fun i _ => by rw [Nat.add_assoc])]
      · show nX7_digest_l33 (dpF (T 1) (X 9) n) (nI n) T M = _
        unfold nX7_digest_l33 nX7_many
        rw [b1_some, t0, if_leT (Nat.le_refl n) (by omega), hthings]
        rfl
    unfold nX7_digest
    rw [show ((1483 : Int64), (0 : Int32)) = (X 0, nI 0) from by rw [X0]; rfl]
    refine it_for (fun i => (X i, nI i)) 9 (by decide) (fun i hi => ?_) ?_
    · show nX7_digest_l6 (X i) (nI i) T M = _
      unfold nX7_digest_l6
      rw [show (9 : Int32) = nI 9 from rfl, if_leF hi (by decide), X7_counted_spec (S := S) hv0 hl7 hi, b1_some, Xs, nI_1]
    · show nX7_digest_l6 (X 9) (nI 9) T M = _
      unfold nX7_digest_l6
      rw [if_pos (by decide), hpeople]
      rfl
