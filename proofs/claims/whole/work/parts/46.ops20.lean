/-! which pairs rest -/
def rsB (H E : Nat → Int32) (x : Nat) : Nat → Bool
  | 0 => true
  | j + 1 => rsB H E x j && (!decide (H x < H (6 * j + x % 6)) && !decide (E x < E (6 * (x / 6) + j)))
theorem rsB_s (H E : Nat → Int32) (x j : Nat) : rsB H E x (j + 1) = (rsB H E x j && (!decide (H x < H (6 * j + x % 6)) && !decide (E x < E (6 * (x / 6) + j)))) := rfl
theorem rsB_false {H E : Nat → Int32} {x i : Nat} (h : rsB H E x i = false) : ∀ j, rsB H E x (i + j) = false
  | 0 => h
  | j + 1 => by rw [show i + (j + 1) = (i + j) + 1 from rfl, rsB_s, rsB_false h j, Bool.false_and]
theorem neg6 (c : Int32) : (-c) - 6 = (-6 : Int32) - c := by
  rw [Int32.sub_eq_add_neg, Int32.sub_eq_add_neg, Int32.add_comm]
theorem neg0 (c : Int32) : -c = (0 : Int32) - c := by
  rw [Int32.sub_eq_add_neg, Int32.zero_add]
theorem X6_pay_spec {S : Nat → Nat → Int32} {L : Nat → Nat → Int64} {N : Nat → Int32} (hN : ∀ i, i < 36 → S 78 i = N i) {i : Nat} (hi : i < 36) (p : Nat) (c : Int32) : nX6_pay S L (nI i) (nI p) c = some ((if N i = nI p then (-6 : Int32) else 0) - c) := by
  unfold nX6_pay
  rw [if_ok hi (by decide), nI_clamp (by omega), hN i hi]
  by_cases h : N i = nI p
  · rw [if_pos h, if_pos h, neg6]
  · rw [if_neg h, if_neg h, neg0]
theorem dm6 {x j : Nat} (hx : x < 36) (hj : j < 6) : (6 * j + x % 6) / 6 = j ∧ (6 * j + x % 6) % 6 = x % 6 ∧ (6 * (x / 6) + j) / 6 = x / 6 ∧ (6 * (x / 6) + j) % 6 = j ∧ 6 * j + x % 6 < 36 ∧ 6 * (x / 6) + j < 36 := by omega
theorem X6_rests_spec {S : Nat → Nat → Int32} {L : Nat → Nat → Int64} {N : Nat → Int32} (hN : ∀ i, i < 36 → S 78 i = N i) {x : Nat} (hx : x < 36) (p q : Nat) : nX6_rests S L (nI x) (nI p) (nI q) = some (if rsB (hiF N p) (thF N q) x 6 = true then 1 else 0) := by
  obtain ⟨e1, e2⟩ := d6 hx
  have i6 : ∀ a b : Nat, ((6 : Int32) * nI a) + nI b = nI (6 * a + b) := fun a b => by rw [show (6 : Int32) = nI 6 from rfl, pk_mul, nI_add]
  have hb : ∀ j, j < 6 → nX6_rests_l35 (nI p) (nI q) (nI (x / 6)) (nI (x % 6)) (hiF N p x) (thF N q x) (nI j) S L = (if (!decide (hiF N p x < hiF N p (6 * j + x % 6)) && !decide (thF N q x < thF N q (6 * (x / 6) + j))) then some (.inl (nI (j + 1))) else some (.inr 0)) := by
    intro j hj
    obtain ⟨m1, m2, m3, m4, m5, m6⟩ := dm6 hx hj
    unfold nX6_rests_l35
    rw [show (6 : Int32) = nI 6 from rfl, if_leF hj (by decide), show (nI 6 * nI j) + nI (x % 6) = nI (6 * j + x % 6) from i6 j (x % 6), show (nI 6 * nI (x / 6)) + nI j = nI (6 * (x / 6) + j) from i6 (x / 6) j, X6_pay_spec hN m5, b1_some, X6_pay_spec hN m6, b1_some, nI_1]
    have a1 : (if N (6 * j + x % 6) = nI p then (-6 : Int32) else 0) - nI j = hiF N p (6 * j + x % 6) := by unfold hiF; rw [m1]
    have a2 : (if N (6 * (x / 6) + j) = nI q then (-6 : Int32) else 0) - nI j = thF N q (6 * (x / 6) + j) := by unfold thF; rw [m4]
    rw [a1, a2]
    by_cases c1 : hiF N p x < hiF N p (6 * j + x % 6)
    · rw [if_neg (Int32.not_le.mpr c1), decide_eq_true c1]; rfl
    · rw [if_pos (Int32.not_lt.mp c1), decide_eq_false c1]
      by_cases c2 : thF N q x < thF N q (6 * (x / 6) + j)
      · rw [if_neg (Int32.not_le.mpr c2), decide_eq_true c2]; rfl
      · rw [if_pos (Int32.not_lt.mp c2), decide_eq_false c2]; rfl
  unfold nX6_rests
  rw [e2, e1, X6_pay_spec hN hx, b1_some, X6_pay_spec hN hx, b1_some]
  refine it_ind2 (fun i => nI i) 6 (fun j hj => ?_) (fun hall => ?_) (by decide)
  · show nX6_rests_l35 (nI p) (nI q) (nI (x / 6)) (nI (x % 6)) (hiF N p x) (thF N q x) (nI j) S L = _ ∨ nX6_rests_l35 (nI p) (nI q) (nI (x / 6)) (nI (x % 6)) (hiF N p x) (thF N q x) (nI j) S L = _
    rw [hb j hj]
    by_cases c : (!decide (hiF N p x < hiF N p (6 * j + x % 6)) && !decide (thF N q x < thF N q (6 * (x / 6) + j))) = true
    · rw [if_pos c]; exact Or.inl rfl
    · right
      rw [if_neg c]
      have e : rsB (hiF N p) (thF N q) x (j + 1) = false := by rw [rsB_s, Bool.eq_false_iff.mpr c, Bool.and_false]
      have e3 := rsB_false e (6 - (j + 1))
      rw [show j + 1 + (6 - (j + 1)) = 6 by omega] at e3
      rw [e3]; rfl
  · show nX6_rests_l35 (nI p) (nI q) (nI (x / 6)) (nI (x % 6)) (hiF N p x) (thF N q x) (nI 6) S L = _
    have e : ∀ i, i ≤ 6 → rsB (hiF N p) (thF N q) x i = true := by
      intro i
      induction i with
      | zero => intro _; rfl
      | succ i ih =>
        intro hi
        have h1 := hall i (by omega)
        have h1 : nX6_rests_l35 (nI p) (nI q) (nI (x / 6)) (nI (x % 6)) (hiF N p x) (thF N q x) (nI i) S L = some (.inl (nI (i + 1))) := h1
        rw [hb i (by omega)] at h1
        rw [rsB_s, ih (by omega), Bool.true_and]
        by_cases c : (!decide (hiF N p x < hiF N p (6 * i + x % 6)) && !decide (thF N q x < thF N q (6 * (x / 6) + i))) = true
        · exact c
        · rw [if_neg c] at h1
          cases h1
    unfold nX6_rests_l35
    rw [if_pos (by decide), e 6 (Nat.le_refl 6)]
    rfl
theorem X7_rests_spec {T : Nat → Nat → Int32} {M : Nat → Nat → Int64} {H E : Nat → Int32} (hH : ∀ i, i < 36 → T 11 i = H i) (hE : ∀ i, i < 36 → T 12 i = E i) {x : Nat} (hx : x < 36) : nX7_rests T M (nI x) = some (if rsB H E x 6 = true then 1 else 0) := by
  obtain ⟨e1, e2⟩ := d6 hx
  have i6 : ∀ a b : Nat, ((6 : Int32) * nI a) + nI b = nI (6 * a + b) := fun a b => by rw [show (6 : Int32) = nI 6 from rfl, pk_mul, nI_add]
  have j6 : ∀ a b : Nat, (nI a * (6 : Int32)) + nI b = nI (6 * a + b) := fun a b => by rw [show (6 : Int32) = nI 6 from rfl, pk_mul, nI_add, Nat.mul_comm]
  unfold nX7_rests
  refine it_for (fun j => ((if rsB H E x j = true then (1 : Int32) else 0), nI j)) 6 (by decide) (fun j hj => ?_) ?_
  · show nX7_rests_l4 (nI x) (if rsB H E x j = true then (1 : Int32) else 0) (nI j) T M = _
    obtain ⟨m1, m2, m3, m4, m5, m6⟩ := dm6 hx hj
    unfold nX7_rests_l4 nX7_rests_i4_j64
    rw [e2, e1, show (6 : Int32) = nI 6 from rfl, if_leF hj (by decide), show (nI 6 * nI j) + nI (x % 6) = nI (6 * j + x % 6) from i6 j (x % 6), show (nI (x / 6) * nI 6) + nI j = nI (6 * (x / 6) + j) from j6 (x / 6) j, nI_1 j, rsB_s]
    by_cases c : rsB H E x j = true
    · rw [if_pos c, if_neg (by decide), c, Bool.true_and, if_ok m5 (by decide), if_ok hx (by decide), nI_clamp (show x < 2 ^ 31 by omega), nI_clamp (show 6 * j + x % 6 < 2 ^ 31 by omega), hH x hx, hH _ m5]
      by_cases c1 : H x < H (6 * j + x % 6)
      · rw [if_pos c1, decide_eq_true c1]; rfl
      · rw [if_neg c1, decide_eq_false c1, if_ok m6 (by decide), if_neg (show ¬ (nI x < 0 ∨ 36 ≤ x) from fun c => by rcases c with c | c; exact nI_pos (show x < 2 ^ 31 by omega) c; omega), nI_clamp (show 6 * (x / 6) + j < 2 ^ 31 by omega), hE x hx, hE _ m6]
        by_cases c2 : E x < E (6 * (x / 6) + j)
        · rw [if_pos c2, decide_eq_true c2]; rfl
        · rw [if_neg c2, decide_eq_false c2]; rfl
    · rw [if_neg c, if_pos rfl, Bool.eq_false_iff.mpr c, Bool.false_and]; rfl
  · show nX7_rests_l4 (nI x) (if rsB H E x 6 = true then (1 : Int32) else 0) (nI 6) T M = _
    unfold nX7_rests_l4
    rw [if_pos (by decide)]
    by_cases c : rsB H E x 6 = true
    · rw [if_pos c]; rfl
    · rw [if_neg c]; rfl
theorem cnF_mono (P : Nat → Bool) {i j : Nat} (h : i ≤ j) : cnF P i ≤ cnF P j := by
  induction j with
  | zero => have : i = 0 := by omega
            subst this; exact Nat.le_refl _
  | succ j ih =>
    rw [cnF_s]
    rcases Nat.eq_or_lt_of_le h with q | q
    · subst q; rw [cnF_s]; exact Nat.le_refl _
    · have := ih (by omega)
      by_cases c : P j = true
      · rw [if_pos c]; omega
      · rw [if_neg c]; exact this
theorem bad6x (S : Nat → Nat → Int32) (L : Nat → Nat → Int64) : nX6_coats_j35 S L = some ((-10 : Int32), k_w S 75 0 (S 75 0 + 1)) := by unfold nX6_coats_j35; rw [bad6]; rfl
theorem bad7x (S : Nat → Nat → Int32) (L : Nat → Nat → Int64) : nX7_coats_j35 S L = some ((-10 : Int32), k_w S 4 0 (S 4 0 + 1)) := by unfold nX7_coats_j35; rw [bad7]; rfl
theorem op_coats : k_op_coats k_R := by
  intro S L T M p1 p2 p3 p4 hR
  have hR0 := hR
  obtain ⟨⟨n, m, un, uc, up, d, hv⟩, -⟩ := hR
  have hv0 := hv
  obtain ⟨⟨t0, t1, t2, t3, t4, t22⟩, ⟨b1, b2, b3, b4, b5, b6⟩, ⟨v0, v1, v2, v3, v4, v5⟩, hp, hnd, hth, -⟩ := hv
  have v0' : S 1 12 = nI n := v0
  have v1' : S 1 13 = nI m := v1
  by_cases h1 : pz p1 m
  · by_cases h2 : pz p2 n
    · by_cases h3 : pz p3 n
      · by_cases hne : p2 = p3
        · refine ⟨-10, _, _, ?_, ?_, R_bad 0 (by decide) hR0⟩
          · unfold nX6_coats
            rw [isThing_in v1' b2 h1, b1_some, if_neg (by decide), isPerson_in v0' b1 h2, b1_some, if_neg (by decide), isPerson_in v0' b1 h3, b1_some, if_neg (by decide), if_pos hne, bad6x]
          · unfold nX7_coats
            rw [isThing7_in t1 b2 h1, b1_some, if_neg (by decide), isOne7_in t0 b1 h2, b1_some, if_neg (by decide), isOne7_in t0 b1 h3, b1_some, if_neg (by decide), if_pos hne, bad7x]
        · by_cases h4 : (-1 : Int32) ≤ p4
          · obtain ⟨k, hk, rfl⟩ := h1
            obtain ⟨p, hpn, rfl⟩ := h2
            obtain ⟨q, hqn, rfl⟩ := h3
            obtain ⟨-, -, -, -, -, -, -, -, ⟨h, hhn, eh⟩, -⟩ := hth k hk
            obtain ⟨N, hN⟩ : ∃ N, N = cpN n (T 1) k h p q := ⟨_, rfl⟩
            obtain ⟨S0, hS0⟩ : ∃ S0, S0 = k_sp S 17 16 (cpV (k_wi S 17) (k_wi S 1)) := ⟨_, rfl⟩
            obtain ⟨SS, hSS⟩ : ∃ SS, SS = seS S0 N p q 36 := ⟨_, rfl⟩
            obtain ⟨TT, hTT⟩ : ∃ TT, TT = laS (lcF T 1 n) N p q 36 := ⟨_, rfl⟩
            have hs6 : nX6_seeWhoGetsIt S L (nI k) (nI p) (nI q) = some SS := by rw [X6_see_spec hv0 hk eh hhn hpn hqn, hSS, hS0, hN]
            have hs7 : nX7_layPairs T M (nI k) (nI p) (nI q) = some TT := by rw [X7_layPairs_spec hv0 hk eh hhn hpn hqn, hTT, hN]
            obtain ⟨P, hP⟩ : ∃ P : Nat → Bool, P = fun x => rsB (hiF N p) (thF N q) x 6 := ⟨_, rfl⟩
            have r6 : ∀ x, x < 36 → nX6_rests SS L (nI x) (nI p) (nI q) = some (if P x = true then 1 else 0) := by
              intro x hx
              rw [X6_rests_spec (N := N) (fun i hi => by rw [hSS, seS_78, if_pos hi]) hx p q, hP]
            have r7 : ∀ x, x < 36 → nX7_rests TT M (nI x) = some (if P x = true then 1 else 0) := by
              intro x hx
              rw [X7_rests_spec (H := hiF N p) (E := thF N q) (fun i hi => by rw [hTT, laS_11, if_pos hi]) (fun i hi => by rw [hTT, laS_12, if_pos hi]) hx, hP]
            have cle : ∀ i, i ≤ 36 → cnF P i ≤ 36 := fun i hi => Nat.le_trans (cnF_le P i) hi
            -- the pair asked for
            obtain ⟨-, f2, f3, f4⟩ := fsF_spec (fun i => P i && decide (nI (cnF P i) = p4)) 36 0
            obtain ⟨z, hz⟩ : ∃ z, z = fsF (fun i => P i && decide (nI (cnF P i) = p4)) 36 0 := ⟨_, rfl⟩
            rw [← hz] at f2 f3 f4
            have hit : z < 36 → P z = true ∧ nI (cnF P z) = p4 := by
              intro h
              have h5 : (P z && decide (nI (cnF P z) = p4)) = true := f4 (by omega)
              rw [Bool.and_eq_true] at h5
              exact ⟨h5.1, of_decide_eq_true h5.2⟩
            have mis : ∀ i, i < z → P i = true → ¬ nI (cnF P i) = p4 := by
              intro i hi hPi e
              have h5 : (P i && decide (nI (cnF P i) = p4)) = false := f3 i (Nat.zero_le i) hi
              rw [hPi, decide_eq_true e] at h5
              exact absurd h5 (by decide)
            have lat : ∀ i, z < i → i < 36 → P i = true → ¬ nI (cnF P i) = p4 := by
              intro i hi hi36 hPi e
              obtain ⟨hPz, ez⟩ := hit (by omega)
              have h5 := cnF_mono P (show z + 1 ≤ i by omega)
              rw [cnF_s, if_pos hPz] at h5
              have e6 := (nI_eq (show cnF P i < 2 ^ 31 by have := cle i (by omega); omega) (show cnF P z < 2 ^ 31 by have := cle z (by omega); omega)).mp (e.trans ez.symm)
              omega
            have nm1 : p4 = -1 → z = 36 := by
              intro e
              rcases Nat.lt_or_ge z 36 with q5 | q5
              · obtain ⟨-, ez⟩ := hit q5
                rw [e] at ez
                rw [e_ne1 (by have := cle z (by omega); omega)] at ez
                exact ez.elim
              · omega
            obtain ⟨r, hr⟩ : ∃ r : Int32, r = if p4 = -1 then nI (cnF P 36) else if z < 36 then nI z else -5 := ⟨_, rfl⟩
            refine ⟨r, SS, TT, ?_, ?_, ?_⟩
            · unfold nX6_coats
              rw [isThing_in v1' b2 (z_nI hk), b1_some, if_neg (by decide), isPerson_in v0' b1 (z_nI hpn), b1_some, if_neg (by decide), isPerson_in v0' b1 (z_nI hqn), b1_some, if_neg (by decide), if_neg hne, if_pos h4, hs6, b1_some]
              refine it_for (fun i => (nI (cnF P i), nI i)) z (by omega) (fun i hi => ?_) ?_
              · show nX6_coats_l56 (nI p) (nI q) p4 (nI (cnF P i)) (nI i) SS L = _
                unfold nX6_coats_l56
                rw [show (36 : Int32) = nI 36 from rfl, if_leF (show i < 36 by omega) (by decide), r6 i (by omega), b1_some, cnF_s, nI_1 i]
                by_cases c : P i = true
                · rw [if_pos c, if_neg (by decide), if_neg (mis i hi c), if_pos c, nI_1]
                · rw [if_neg c, if_pos rfl, if_neg c]
              · show nX6_coats_l56 (nI p) (nI q) p4 (nI (cnF P z)) (nI z) SS L = _
                unfold nX6_coats_l56
                by_cases c : z < 36
                · obtain ⟨hPz, ez⟩ := hit c
                  have hn : ¬ p4 = -1 := fun e => by have := nm1 e; omega
                  rw [show (36 : Int32) = nI 36 from rfl, if_leF c (by decide), r6 z c, b1_some, if_pos hPz, if_neg (by decide), if_pos ez, hr, if_neg hn, if_pos c]
                  rfl
                · have ez : z = 36 := by omega
                  rw [hr, ez, if_pos (by decide), if_neg (show ¬ 36 < 36 by decide)]
                  by_cases e : p4 = -1
                  · rw [if_pos e, if_pos e]; rfl
                  · rw [if_neg e, if_neg e]; rfl
            · unfold nX7_coats
              rw [isThing7_in t1 b2 (z_nI hk), b1_some, if_neg (by decide), isOne7_in t0 b1 (z_nI hpn), b1_some, if_neg (by decide), isOne7_in t0 b1 (z_nI hqn), b1_some, if_neg (by decide), if_neg hne, if_pos h4, hs7, b1_some]
              rw [show ((0 : Int32), (-5 : Int32), (0 : Int32)) = (nI (cnF P 0), (if z < 0 then nI z else (-5 : Int32)), nI 0) from by rw [if_neg (Nat.not_lt_zero z)]; rfl]
              refine it_for (fun i => (nI (cnF P i), (if z < i then nI z else (-5 : Int32)), nI i)) 36 (by decide) (fun i hi => ?_) ?_
              · show nX7_coats_l59 p4 (nI (cnF P i)) (if z < i then nI z else (-5 : Int32)) (nI i) TT M = _
                unfold nX7_coats_l59 nX7_coats_i59_j89
                rw [show (36 : Int32) = nI 36 from rfl, if_leF hi (by decide), r7 i hi, b1_some, cnF_s, nI_1 i]
                by_cases c : P i = true
                · rw [if_pos c, if_neg (by decide), if_pos c, nI_1]
                  by_cases e : nI (cnF P i) = p4
                  · have ei : i = z := by
                      rcases Nat.lt_trichotomy i z with q5 | q5 | q5
                      · exact absurd e (mis i q5 c)
                      · exact q5
                      · exact absurd e (lat i q5 hi c)
                    rw [if_pos e, ei, if_pos (by omega)]
                  · have ei : ¬ i = z := by
                      intro ei
                      rw [ei] at e hi
                      exact e (hit hi).2
                    rw [if_neg e]
                    by_cases q5 : z < i
                    · rw [if_pos q5, if_pos (by omega)]
                    · rw [if_neg q5, if_neg (by omega)]
                · have ei : ¬ i = z := by
                    intro ei
                    rw [ei] at c hi
                    exact c (hit hi).1
                  rw [if_neg c, if_pos rfl, if_neg c]
                  by_cases q5 : z < i
                  · rw [if_pos q5, if_pos (by omega)]
                  · rw [if_neg q5, if_neg (by omega)]
              · show nX7_coats_l59 p4 (nI (cnF P 36)) (if z < 36 then nI z else (-5 : Int32)) (nI 36) TT M = _
                unfold nX7_coats_l59
                rw [if_pos (by decide), hr]
                by_cases e : p4 = -1
                · rw [if_pos e, if_pos e]; rfl
                · rw [if_neg e, if_neg e]; rfl
            · refine R_congr (fun c hc => ?_) ?_ (fun c hc => ?_) ?_ ⟨rfl, rfl⟩ ⟨rfl, rfl⟩ hR0
              · rw [hSS, seS_o (by omega) (by omega), hS0, sp_out (by omega)]
              · rw [hSS, seS_o (by decide) (by decide), hS0, sp_out (by decide)]
              · rw [hTT, laS_o (by omega) (by omega) (by omega), lcF_ne (by omega)]
              · rw [hTT, laS_o (by decide) (by decide) (by decide), lcF_ne (by decide)]
          · refine ⟨-10, _, _, ?_, ?_, R_bad 0 (by decide) hR0⟩
            · unfold nX6_coats
              rw [isThing_in v1' b2 h1, b1_some, if_neg (by decide), isPerson_in v0' b1 h2, b1_some, if_neg (by decide), isPerson_in v0' b1 h3, b1_some, if_neg (by decide), if_neg hne, if_neg h4, bad6x]
            · unfold nX7_coats
              rw [isThing7_in t1 b2 h1, b1_some, if_neg (by decide), isOne7_in t0 b1 h2, b1_some, if_neg (by decide), isOne7_in t0 b1 h3, b1_some, if_neg (by decide), if_neg hne, if_neg h4, bad7x]
      · refine ⟨-10, _, _, ?_, ?_, R_bad 0 (by decide) hR0⟩
        · unfold nX6_coats
          rw [isThing_in v1' b2 h1, b1_some, if_neg (by decide), isPerson_in v0' b1 h2, b1_some, if_neg (by decide), isPerson_out v0' b1 h3, b1_some, if_pos rfl, bad6x]
        · unfold nX7_coats
          rw [isThing7_in t1 b2 h1, b1_some, if_neg (by decide), isOne7_in t0 b1 h2, b1_some, if_neg (by decide), isOne7_out t0 b1 h3, b1_some, if_pos rfl, bad7x]
    · refine ⟨-10, _, _, ?_, ?_, R_bad 0 (by decide) hR0⟩
      · unfold nX6_coats
        rw [isThing_in v1' b2 h1, b1_some, if_neg (by decide), isPerson_out v0' b1 h2, b1_some, if_pos rfl, bad6x]
      · unfold nX7_coats
        rw [isThing7_in t1 b2 h1, b1_some, if_neg (by decide), isOne7_out t0 b1 h2, b1_some, if_pos rfl, bad7x]
  · refine ⟨-10, _, _, ?_, ?_, R_bad 0 (by decide) hR0⟩
    · unfold nX6_coats
      rw [isThing_out v1' b2 h1, b1_some, if_pos rfl, bad6x]
    · unfold nX7_coats
      rw [isThing7_out t1 b2 h1, b1_some, if_pos rfl, bad7x]
