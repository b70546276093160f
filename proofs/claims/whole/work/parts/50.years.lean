/-! years by a seed -/
def nL (n : Nat) : Int64 := Int64.ofNat n
def lcN (a : Nat) : Nat := (a * 1103515245 + 12345) % 2147483648
theorem nL_lc {a : Nat} (h : a < 2147483648) : ((nL a * (1103515245 : Int64)) + (12345 : Int64)) - ((nL a * (1103515245 : Int64)) + (12345 : Int64)) / (2147483648 : Int64) * (2147483648 : Int64) = nL (lcN a) := by
  have e : (nL a * (1103515245 : Int64)) + (12345 : Int64) = nL (a * 1103515245 + 12345) := by
    unfold nL
    rw [Int64.ofNat_add, Int64.ofNat_mul]
    rfl
  have hy : a * 1103515245 + 12345 < 2 ^ 63 := by omega
  rw [e]
  show _ = nL ((a * 1103515245 + 12345) % 2147483648)
  generalize a * 1103515245 + 12345 = y at hy
  have e2 : nL y / (2147483648 : Int64) = nL (y / 2147483648) := (Int64.ofNat_div hy (show 2147483648 < 2 ^ 63 by decide)).symm
  rw [e2]
  have e3 : nL (y / 2147483648) * (2147483648 : Int64) = nL (y / 2147483648 * 2147483648) := (Int64.ofNat_mul _ _).symm
  rw [e3]
  have e4 : nL y - nL (y / 2147483648 * 2147483648) = nL (y - y / 2147483648 * 2147483648) := (Int64.ofNat_sub _ _ (Nat.div_mul_le_self y 2147483648)).symm
  rw [e4]
  exact congrArg nL (by omega)
theorem lcN_lt (a : Nat) : lcN a < 2147483648 := Nat.mod_lt _ (by decide)
theorem nL_ix {a : Nat} (h : a < 2147483648) : ((nL a / (65536 : Int64)) - (nL a / (65536 : Int64)) / (5 : Int64) * (5 : Int64)).toInt32 = nI (a / 65536 % 5) := by
  have e1 : nL a / (65536 : Int64) = nL (a / 65536) := (Int64.ofNat_div (show a < 2 ^ 63 by omega) (show 65536 < 2 ^ 63 by decide)).symm
  rw [e1]
  have hb : a / 65536 < 2 ^ 63 := by omega
  generalize a / 65536 = b at hb
  have e2 : nL b / (5 : Int64) = nL (b / 5) := (Int64.ofNat_div hb (show 5 < 2 ^ 63 by decide)).symm
  rw [e2]
  have e3 : nL (b / 5) * (5 : Int64) = nL (b / 5 * 5) := (Int64.ofNat_mul _ _).symm
  rw [e3]
  have e4 : nL b - nL (b / 5 * 5) = nL (b - b / 5 * 5) := (Int64.ofNat_sub _ _ (Nat.div_mul_le_self b 5)).symm
  rw [e4]
  have e5 : (nL (b - b / 5 * 5)).toInt32 = nI (b - b / 5 * 5) := Int64.toInt32_ofNat'
  rw [e5]
  exact congrArg nI (by omega)
def lcI (a : Nat) : Nat → Nat
  | 0 => a
  | i + 1 => lcN (lcI a i)
theorem lcI_lt {a : Nat} (h : a < 2147483648) : ∀ i, lcI a i < 2147483648
  | 0 => h
  | i + 1 => lcN_lt _
theorem vq_congr {V V' : Nat → Nat → Int32} {t t' : Nat → Int32} {n m : Nat} (hV : ∀ c, c < 10 → V' c = V c) (ht : ∀ j, j < 80 → t' j = t j) (h : vq V t n m) : vq V' t' n m := by
  obtain ⟨⟨t0, t1, v0, v1, b1, b2⟩, hp, hnd, hth⟩ := h
  refine ⟨⟨?_, ?_, ?_, ?_, b1, b2⟩, fun p hpn => ?_, fun j hj => ?_, fun k hk => ?_⟩
  · rw [ht 0 (by decide)]; exact t0
  · rw [ht 1 (by decide)]; exact t1
  · rw [hV 0 (by decide)]; exact v0
  · rw [hV 0 (by decide)]; exact v1
  · rw [hV 1 (by decide), hV 2 (by decide), hV 3 (by decide), ht (23 + p) (by omega), ht (30 + p) (by omega), ht (15 + p) (by omega)]; exact hp p hpn
  · rw [hV 4 (by decide), ht (37 + j) (by omega)]; exact hnd j hj
  · rw [hV 5 (by decide), hV 6 (by decide), hV 7 (by decide), hV 8 (by decide), hV 9 (by decide), ht (65 + k) (by omega), ht (70 + k) (by omega), ht (75 + k) (by omega), ht (5 + k) (by omega), ht (10 + k) (by omega)]; exact hth k hk
theorem vq_place {V : Nat → Nat → Int32} {t : Nat → Int32} {n m k : Nat} {x : Int32} (h : vq V t n m) (hk : k < m) (hx : pz x 3) : vq (k_w V 9 k x) (upd t (10 + k) x) n m := by
  obtain ⟨⟨t0, t1, v0, v1, b1, b2⟩, hp, hnd, hth⟩ := h
  refine ⟨⟨(upd_off _ (by omega)).trans t0, (upd_off _ (by omega)).trans t1, v0, v1, b1, b2⟩, fun p hpn => ?_, fun j hj => ?_, fun k' hk' => ?_⟩
  · rw [w_ne (i := 1) _ _ (by decide), w_ne (i := 2) _ _ (by decide), w_ne (i := 3) _ _ (by decide), upd_off _ (show 23 + p ≠ 10 + k by omega), upd_off _ (show 30 + p ≠ 10 + k by omega), upd_off _ (show 15 + p ≠ 10 + k by omega)]; exact hp p hpn
  · rw [w_ne (i := 4) _ _ (by decide), upd_off _ (show 37 + j ≠ 10 + k by omega)]; exact hnd j hj
  · obtain ⟨g1, g2, g3, g4, g5, g6, g7, g8, g9, g10⟩ := hth k' hk'
    rw [w_ne (i := 5) _ _ (by decide), w_ne (i := 6) _ _ (by decide), w_ne (i := 7) _ _ (by decide), w_ne (i := 8) _ _ (by decide), upd_off _ (show 65 + k' ≠ 10 + k by omega), upd_off _ (show 70 + k' ≠ 10 + k by omega), upd_off _ (show 75 + k' ≠ 10 + k by omega), upd_off _ (show 5 + k' ≠ 10 + k by omega), w_eq]
    refine ⟨g1, g2, g3, g4, ?_, g6, g7, g8, g9, ?_⟩
    · by_cases q : k' = k
      · subst q; rw [upd_at, upd_at]
      · rw [upd_off _ q, upd_off _ (by omega)]; exact g5
    · by_cases q : k' = k
      · subst q; rw [upd_at]; exact hx
      · rw [upd_off _ (by omega)]; exact g10
def yrX (m ix : Nat) (X : Nat → Nat → Int32) : Nat → Nat → Int32 := if ix < m then (if X 26 ix = 0 then k_w X 26 ix 1 else X) else X
def yrY (m ix : Nat) (Y : Nat → Nat → Int32) : Nat → Nat → Int32 := if ix < m then (if Y 15 (10 + ix) = 0 then k_w Y 15 (10 + ix) 1 else Y) else Y
def yrQ (n m d a : Nat) (S T : Nat → Nat → Int32) : Nat → (Nat → Nat → Int32) × (Nat → Nat → Int32)
  | 0 => (S, T)
  | i + 1 => (k_sp (yrX m (lcI a (i + 1) / 65536 % 5) (yrQ n m d a S T i).1) 17 16 (k_w (dgS (k_wi (yrX m (lcI a (i + 1) / 65536 % 5) (yrQ n m d a S T i).1) 17) (yrY m (lcI a (i + 1) / 65536 % 5) (yrQ n m d a S T i).2 15) n (nI (d + i)) m) 0 14 (nI (d + i) + 1)),
      gdS (lcF (yrY m (lcI a (i + 1) / 65536 % 5) (yrQ n m d a S T i).2) 15 n) 15 n (nI (d + i)) m)
theorem yrQ_s1 (n m d a : Nat) (S T : Nat → Nat → Int32) (i : Nat) : (yrQ n m d a S T (i + 1)).1 = k_sp (yrX m (lcI a (i + 1) / 65536 % 5) (yrQ n m d a S T i).1) 17 16 (k_w (dgS (k_wi (yrX m (lcI a (i + 1) / 65536 % 5) (yrQ n m d a S T i).1) 17) (yrY m (lcI a (i + 1) / 65536 % 5) (yrQ n m d a S T i).2 15) n (nI (d + i)) m) 0 14 (nI (d + i) + 1)) := rfl
theorem yr_step {X Y : Nat → Nat → Int32} {n m ix : Nat} (h : vq (k_wi X 17) (Y 15) n m) : vq (k_wi (yrX m ix X) 17) (yrY m ix Y 15) n m ∧ (yrX m ix X 17 = X 17) ∧ (∀ c, c ≠ 26 → yrX m ix X c = X c) ∧ ∀ c, c ≠ 15 → yrY m ix Y c = Y c := by
  unfold yrX yrY
  by_cases c : ix < m
  · have hm5 : m ≤ 5 := h.1.2.2.2.2.2
    have e : X 26 ix = Y 15 (10 + ix) := (h.2.2.2 ix c).2.2.2.2.1
    rw [if_pos c, if_pos c, e]
    by_cases c0 : Y 15 (10 + ix) = 0
    · rw [if_pos c0, if_pos c0]
      refine ⟨?_, w_ne _ _ (by decide), fun z hz => w_ne _ _ hz, fun z hz => w_ne _ _ hz⟩
      refine vq_congr (fun z hz => ?_) (fun j _ => by rw [w_eq]) (vq_place h c (show pz (1 : Int32) 3 from ⟨1, by decide, rfl⟩))
      by_cases q : z = 9
      · subst q
        rw [wi_at, w_eq]
        exact w_eq X 26 ix 1
      · rw [wi_at, w_ne _ _ q]
        exact w_ne _ _ (by omega)
    · rw [if_neg c0, if_neg c0]
      exact ⟨h, rfl, fun _ _ => rfl, fun _ _ => rfl⟩
  · rw [if_neg c, if_neg c]
    exact ⟨h, rfl, fun _ _ => rfl, fun _ _ => rfl⟩
theorem yr_inv {S T : Nat → Nat → Int32} {n m d a : Nat} (h : vq (k_wi S 17) (T 15) n m) (hd : S 17 14 = nI d) : ∀ i, vq (k_wi (yrQ n m d a S T i).1 17) ((yrQ n m d a S T i).2 15) n m ∧ (yrQ n m d a S T i).1 17 14 = nI (d + i) ∧ (∀ c, (c < 17 ∨ 33 ≤ c) → (yrQ n m d a S T i).1 c = S c) ∧ ∀ c, c ≠ 15 → c ≠ 5 → (yrQ n m d a S T i).2 c = T c
  | 0 => ⟨h, hd, fun _ _ => rfl, fun _ _ _ => rfl⟩
  | i + 1 => by
    obtain ⟨h1, h2, h3, h4⟩ := yr_inv (a := a) h hd i
    obtain ⟨s1, s2, s3, s4⟩ := yr_step (ix := lcI a (i + 1) / 65536 % 5) h1
    refine ⟨?_, ?_, fun c hc => ?_, fun c hc hc5 => ?_⟩
    · refine vq_congr (fun z hz => sp_wi z (by omega)) (fun _ _ => rfl) (vq_day s1 (nI (d + i)) (nI (d + i) + 1) (t' := (yrQ n m d a S T (i + 1)).2 15) (fun j _ _ => ?_))
      show gdS (lcF _ 15 n) 15 n (nI (d + i)) m 15 j = _
      rw [gdS_at, lcF_ne (by decide)]
    · rw [yrQ_s1, sp_in (by decide) (by decide), Nat.sub_self, w_at, nI_1]
      rfl
    · rw [yrQ_s1, sp_out (by omega), s3 c (by omega), h3 c hc]
    · show gdS (lcF _ 15 n) 15 n (nI (d + i)) m c = T c
      rw [gdS_o hc, lcF_ne hc5, s4 c hc, h4 c hc hc5]
def yrC (T : Nat → Nat → Int32) (i : Nat) : Nat → Nat → Int32 := k_r T 15 (fun j => if j < i then T 1 j else T 15 j)
theorem yrC_0 (T : Nat → Nat → Int32) : yrC T 0 = T := by
  funext c
  unfold yrC k_r
  by_cases h : c = 15
  · rw [if_pos h, h]; funext j; rw [if_neg (Nat.not_lt_zero j)]
  · rw [if_neg h]
theorem yrC_at (T : Nat → Nat → Int32) (i j : Nat) : yrC T i 15 j = if j < i then T 1 j else T 15 j := by unfold yrC; rw [r_eq]
theorem yrC_o {T : Nat → Nat → Int32} {i c : Nat} (h : c ≠ 15) : yrC T i c = T c := r_ne _ h
theorem yrC_s (T : Nat → Nat → Int32) (i : Nat) : k_w (yrC T i) 15 i (T 1 i) = yrC T (i + 1) := by
  funext c
  by_cases h : c = 15
  · subst h
    rw [w_eq]
    funext j
    show (if j = i then T 1 i else yrC T i 15 j) = yrC T (i + 1) 15 j
    rw [yrC_at, yrC_at]
    by_cases q : j = i
    · subst q; rw [if_pos rfl, if_pos (by omega)]
    · rw [if_neg q]
      by_cases q2 : j < i
      · rw [if_pos q2, if_pos (by omega)]
      · rw [if_neg q2, if_neg (by omega)]
  · rw [w_ne _ _ h, yrC_o h, yrC_o h]
theorem op_years : k_op_years k_R := by
  intro S L T M p1 p2 hR
  have hR0 := hR
  obtain ⟨⟨n, m, un, uc, up, d, hv⟩, -⟩ := hR
  have hv0 := hv
  obtain ⟨⟨t0, t1, t2, t3, t4, t22⟩, ⟨b1, b2, b3, b4, b5, b6⟩, ⟨v0, v1, v2, v3, v4, v5⟩, -⟩ := hv
  by_cases h1 : pz p1 1000000
  · by_cases h2 : pz p2 61
    · obtain ⟨a, ha, rfl⟩ := h1
      obtain ⟨N, hN, rfl⟩ := h2
      obtain ⟨S0, hS0⟩ : ∃ S0, S0 = k_sp S 17 16 (cpV (k_wi S 17) (k_wi S 1)) := ⟨_, rfl⟩
      have ea : (nI a).toInt64 = nL a := Int32.toInt64_ofNat' (by rw [show Int32.maxValue.toInt = 2147483647 from by decide]; omega)
      have ha' : a < 2147483648 := by omega
      have hq0 : vq (k_wi S0 17) (yrC T 80 15) n m := by
        refine vq_congr (fun z hz => ?_) (fun j hj => by rw [yrC_at, if_pos hj]) (vq_of (vr_copy (W := k_wi S 17) hv0))
        rw [hS0]
        exact sp_wi z (by omega)
      have hd0 : S0 17 14 = nI d := by
        rw [hS0, sp_in (by decide) (by decide)]
        exact v5
      have hinv := yr_inv (a := a) hq0 hd0
      obtain ⟨f1, f2, f3, f4⟩ := hinv N
      have hlc := lcI_lt ha'
      refine ⟨nI (cnF (fun k => decide ((yrQ n m d a S0 (yrC T 80) N).2 15 (10 + k) = 0 ∧ (yrQ n m d a S0 (yrC T 80) N).2 15 (5 + k) = (yrQ n m d a S0 (yrC T 80) N).2 15 (75 + k))) m), (yrQ n m d a S0 (yrC T 80) N).1, (yrQ n m d a S0 (yrC T 80) N).2, ?_, ?_, ?_⟩
      · unfold nX6_years
        rw [upTo_inK 1000000 (by decide) 1000000 rfl (z_nI ha), b1_some, if_neg (by decide), upTo_inK 61 (by decide) 61 rfl (z_nI hN), b1_some, if_neg (by decide), X5_copyOf_spec, b1_some, ← hS0, ea]
        refine it_for (fun i => (nL (lcI a i), nI i, (yrQ n m d a S0 (yrC T 80) i).1)) N (by omega) (fun i hi => ?_) ?_
        · obtain ⟨g1, g2, g3, g4⟩ := hinv i
          obtain ⟨s1, s2, s3, s4⟩ := yr_step (ix := lcI a (i + 1) / 65536 % 5) g1
          have hix5 : lcI a (i + 1) / 65536 % 5 < 5 := Nat.mod_lt _ (by decide)
          show nX6_years_l40 (nI N) (nL (lcI a i)) (nI i) (yrQ n m d a S0 (yrC T 80) i).1 L = _
          unfold nX6_years_l40
          have e13 : (yrQ n m d a S0 (yrC T 80) i).1 17 13 = nI m := g1.1.2.2.2.1
          rw [nL_lc (hlc i), show lcN (lcI a i) = lcI a (i + 1) from rfl, nL_ix (hlc (i + 1)), if_leF hi (by omega), e13]
          have hj : ∀ X, X = yrX m (lcI a (i + 1) / 65536 % 5) (yrQ n m d a S0 (yrC T 80) i).1 → nX6_years_i40_j108 (nI N) (nL (lcI a (i + 1))) (nI i) X L = some (.inl (nL (lcI a (i + 1)), nI (i + 1), (yrQ n m d a S0 (yrC T 80) (i + 1)).1)) := by
            intro X hX
            unfold nX6_years_i40_j108
            rw [hX, X5_dayGoesBy_spec s1 (d := nI (d + i)) (by show yrX m _ _ 17 14 = _; rw [s2]; exact g2), b1_some, nI_1 i]
            rfl
          by_cases c : lcI a (i + 1) / 65536 % 5 < m
          · rw [if_leF c (by omega), if_ok hix5 (by decide), nI_clamp (by omega)]
            by_cases c0 : (yrQ n m d a S0 (yrC T 80) i).1 26 (lcI a (i + 1) / 65536 % 5) = 0
            · rw [if_pos c0, if_neg (show ¬ (nI (lcI a (i + 1) / 65536 % 5) < 0 ∨ 5 ≤ lcI a (i + 1) / 65536 % 5) from fun q => by rcases q with q | q; exact nI_pos (show lcI a (i + 1) / 65536 % 5 < 2 ^ 31 by omega) q; omega)]
              exact hj _ (by unfold yrX; rw [if_pos c, if_pos c0])
            · rw [if_neg c0]
              exact hj _ (by unfold yrX; rw [if_pos c, if_neg c0])
          · rw [if_leT (by omega) (by omega)]
            exact hj _ (by unfold yrX; rw [if_neg c])
        · show nX6_years_l40 (nI N) (nL (lcI a N)) (nI N) (yrQ n m d a S0 (yrC T 80) N).1 L = _
          unfold nX6_years_l40
          rw [if_leT (Nat.le_refl N) (by omega), X5_howManyAtHome_spec f1, b1_some]
          rfl
      · unfold nX7_years
        rw [in_inK 1000000 (by decide) 999999 (by decide) (z_nI ha), b1_some, if_neg (by decide), in_inK 61 (by decide) 60 (by decide) (z_nI hN), b1_some, if_neg (by decide), ea]
        have hloop : k_it (fun st => nX7_years_l67 (nI N) st.1 st.2.1 st.2.2 M) 1000 (nL a, (0 : Int32), yrC T 80) = some (nI (cnF (fun k => decide ((yrQ n m d a S0 (yrC T 80) N).2 15 (10 + k) = 0 ∧ (yrQ n m d a S0 (yrC T 80) N).2 15 (5 + k) = (yrQ n m d a S0 (yrC T 80) N).2 15 (75 + k))) m), (yrQ n m d a S0 (yrC T 80) N).2) := by
          refine it_for (fun i => (nL (lcI a i), nI i, (yrQ n m d a S0 (yrC T 80) i).2)) N (by omega) (fun i hi => ?_) ?_
          · obtain ⟨g1, g2, g3, g4⟩ := hinv i
            obtain ⟨s1, s2, s3, s4⟩ := yr_step (ix := lcI a (i + 1) / 65536 % 5) g1
            have hix5 : lcI a (i + 1) / 65536 % 5 < 5 := Nat.mod_lt _ (by decide)
            show nX7_years_l67 (nI N) (nL (lcI a i)) (nI i) (yrQ n m d a S0 (yrC T 80) i).2 M = _
            unfold nX7_years_l67
            have e1 : (yrQ n m d a S0 (yrC T 80) i).2 1 = T 1 := (g4 1 (by decide) (by decide)).trans (yrC_o (by decide))
            have t1' : (yrQ n m d a S0 (yrC T 80) i).2 1 1 = nI m := by rw [e1]; exact t1
            have t22' : (yrQ n m d a S0 (yrC T 80) i).2 1 22 = nI d := by rw [e1]; exact t22
            rw [nL_lc (hlc i), show lcN (lcI a i) = lcI a (i + 1) from rfl, nL_ix (hlc (i + 1)), if_leF hi (by omega)]
            have hj : ∀ Y, Y = yrY m (lcI a (i + 1) / 65536 % 5) (yrQ n m d a S0 (yrC T 80) i).2 → nX7_years_i67_j132 (nI N) (nL (lcI a (i + 1))) (nI i) Y M = some (.inl (nL (lcI a (i + 1)), nI (i + 1), (yrQ n m d a S0 (yrC T 80) (i + 1)).2)) := by
              intro Y hY
              unfold nX7_years_i67_j132
              rw [hY, s4 1 (by decide), t22', nI_add, X7_goDay_15_spec (nI (d + i)) s1, b1_some, nI_1 i]
              rfl
            by_cases c : lcI a (i + 1) / 65536 % 5 < m
            · rw [isThing7_in t1' b2 (z_nI c), b1_some, if_neg (by decide), show (10 : Int32) + nI (lcI a (i + 1) / 65536 % 5) = nI (10 + lcI a (i + 1) / 65536 % 5) from nI_add 10 _, if_ok (show 10 + lcI a (i + 1) / 65536 % 5 < 80 by omega) (by decide), nI_clamp (show 10 + lcI a (i + 1) / 65536 % 5 < 2 ^ 31 by omega)]
              by_cases c0 : (yrQ n m d a S0 (yrC T 80) i).2 15 (10 + lcI a (i + 1) / 65536 % 5) = 0
              · rw [if_pos c0, if_neg (show ¬ (nI (10 + lcI a (i + 1) / 65536 % 5) < 0 ∨ 80 ≤ 10 + lcI a (i + 1) / 65536 % 5) from fun q => by rcases q with q | q; exact nI_pos (show 10 + lcI a (i + 1) / 65536 % 5 < 2 ^ 31 by omega) q; omega)]
                exact hj _ (by unfold yrY; rw [if_pos c, if_pos c0])
              · rw [if_neg c0]
                exact hj _ (by unfold yrY; rw [if_pos c, if_neg c0])
            · rw [isThing7_out t1' b2 (fun q => by
                obtain ⟨j, hj1, hj2⟩ := q
                have := (nI_eq (show lcI a (i + 1) / 65536 % 5 < 2 ^ 31 by omega) (show j < 2 ^ 31 by omega)).mp hj2
                omega), b1_some, if_pos rfl]
              exact hj _ (by unfold yrY; rw [if_neg c])
          · show nX7_years_l67 (nI N) (nL (lcI a N)) (nI N) (yrQ n m d a S0 (yrC T 80) N).2 M = _
            unfold nX7_years_l67
            rw [if_leT (Nat.le_refl N) (by omega), X7_manyAtHome_15_spec f1, b1_some]
            rfl
        rw [show ((0 : Int32), T) = (nI 0, yrC T 0) from by rw [yrC_0]; rfl]
        refine it_for (fun i => (nI i, yrC T i)) 80 (by decide) (fun i hi => ?_) ?_
        · show nX7_years_l37 (nI N) (nL a) (nI i) (yrC T i) M = _
          unfold nX7_years_l37
          rw [show (80 : Int32) = nI 80 from rfl, if_leF hi (by decide), if_ok (show i < 284 by omega) (by decide), if_ok hi (by decide), nI_clamp (by omega), yrC_o (by decide), yrC_s, nI_1]
        · show nX7_years_l37 (nI N) (nL a) (nI 80) (yrC T 80) M = _
          unfold nX7_years_l37
          rw [if_pos (by decide), hloop]
          rfl
      · exact R_congr (fun c hc => by rw [f3 c (by omega), hS0, sp_out (by omega)]) (by rw [f3 67 (by decide), hS0, sp_out (by decide)]) (fun c hc => by rw [f4 c (by omega) (by omega), yrC_o (by omega)]) (by rw [f4 0 (by decide) (by decide), yrC_o (by decide)]) ⟨rfl, rfl⟩ ⟨rfl, rfl⟩ hR0
    · refine ⟨-2, _, _, ?_, ?_, R_bad 0 (by decide) hR0⟩
      · unfold nX6_years nX6_years_j18
        rw [upTo_inK 1000000 (by decide) 1000000 rfl h1, b1_some, if_neg (by decide), upTo_outK 61 (by decide) 61 rfl h2, b1_some, if_pos rfl, bad6]; rfl
      · unfold nX7_years nX7_years_j24
        rw [in_inK 1000000 (by decide) 999999 (by decide) h1, b1_some, if_neg (by decide), in_outK 61 (by decide) 60 (by decide) h2, b1_some, if_pos rfl, bad7]; rfl
  · refine ⟨-2, _, _, ?_, ?_, R_bad 0 (by decide) hR0⟩
    · unfold nX6_years nX6_years_j18
      rw [upTo_outK 1000000 (by decide) 1000000 rfl h1, b1_some, if_pos rfl, bad6]; rfl
    · unfold nX7_years nX7_years_j24
      rw [in_outK 1000000 (by decide) 999999 (by decide) h1, b1_some, if_pos rfl, bad7]; rfl
