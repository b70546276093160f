/-! a valley is copied; images; the text grows -/
theorem cp_in {f g : Nat → Int32} {N i : Nat} (h : i < N) : va_cpy f g 0 0 N i = f i := by
  unfold va_cpy
  rw [if_pos (by omega), Nat.sub_zero, Nat.zero_add]
theorem sp_r1 (X : Nat → Nat → Int32) (c : Nat) (f : Nat → Int32) : k_sp X c 1 (k_r (k_wi X c) 0 f) = k_r X c f := by
  funext i
  by_cases h : c ≤ i ∧ i < c + 1
  · rw [sp_in h.1 h.2]
    have e : i = c := by omega
    subst e
    rw [Nat.sub_self, r_eq, r_eq]
  · rw [sp_out (by omega), r_ne _ (by omega)]
theorem sp_r2 (X : Nat → Nat → Int32) (c : Nat) (y : Int32) (f : Nat → Int32) : k_sp X c 2 (k_sp (k_w (k_wi X c) 0 3 y) 1 1 (k_r (k_wi (k_w (k_wi X c) 0 3 y) 1) 0 f)) = k_r (k_w X c 3 y) (c + 1) f := by
  rw [sp_r1]
  funext i
  by_cases h : c ≤ i ∧ i < c + 2
  · rw [sp_in h.1 h.2]
    rcases (show i = c ∨ i = c + 1 by omega) with rfl | rfl
    · rw [Nat.sub_self, r_ne _ (by decide), r_ne _ (by omega), w_eq, w_eq]
      rfl
    · rw [Nat.add_sub_cancel_left, r_eq, r_eq]
  · rw [sp_out (by omega), r_ne _ (by omega), w_ne _ _ (by omega)]
theorem cpR7 (T X : Nat → Nat → Int32) (c e : Nat) : nX6_copyRow 7 7 (k_wi T c) (k_wi X e) = some (k_r (k_wi X e) 0 (va_cpy (T c) (X e) 0 0 7)) := by
  unfold nX6_copyRow
  rw [if_neg (by decide)]
  rfl
theorem cpR28 (T X : Nat → Nat → Int32) (c e : Nat) : nX6_copyRow 28 28 (k_wi T c) (k_wi X e) = some (k_r (k_wi X e) 0 (va_cpy (T c) (X e) 0 0 28)) := by
  unfold nX6_copyRow
  rw [if_neg (by decide)]
  rfl
theorem cpR5 (T X : Nat → Nat → Int32) (c e : Nat) : nX6_copyRow 5 5 (k_wi T c) (k_wi X e) = some (k_r (k_wi X e) 0 (va_cpy (T c) (X e) 0 0 5)) := by
  unfold nX6_copyRow
  rw [if_neg (by decide)]
  rfl
theorem cpR36 (T X : Nat → Nat → Int32) (c e : Nat) : nX6_copyRow 36 36 (k_wi T c) (k_wi X e) = some (k_r (k_wi X e) 0 (va_cpy (T c) (X e) 0 0 36)) := by
  unfold nX6_copyRow
  rw [if_neg (by decide)]
  rfl
theorem cpR24 (T X : Nat → Nat → Int32) (c e : Nat) : nX6_copyRow 24 24 (k_wi T c) (k_wi X e) = some (k_r (k_wi X e) 0 (va_cpy (T c) (X e) 0 0 24)) := by
  unfold nX6_copyRow
  rw [if_neg (by decide)]
  rfl
theorem cpR144 (T X : Nat → Nat → Int32) (c e : Nat) : nX6_copyRow 144 144 (k_wi T c) (k_wi X e) = some (k_r (k_wi X e) 0 (va_cpy (T c) (X e) 0 0 144)) := by
  unfold nX6_copyRow
  rw [if_neg (by decide)]
  rfl
theorem cpC36 (T X : Nat → Nat → Int32) (c e : Nat) : nX3_copyOf 36 (6 : Int32) (6 : Int32) 36 (6 : Int32) (6 : Int32) (k_wi X e) (k_wi T c) = some (k_sp (k_w (k_wi X e) 0 3 (T c 3)) 1 1 (k_r (k_wi (k_w (k_wi X e) 0 3 (T c 3)) 1) 0 (va_cpy (T (c + 1)) (X (e + 1)) 0 0 36))) := by
  unfold nX3_copyOf
  rw [show k_wi T c 0 3 = T c 3 from rfl]
  have h := cpR36 (k_wi T c) (k_w (k_wi X e) 0 3 (T c 3)) 1 1
  rw [h, b1_some]
  have e2 : k_w (k_wi X e) 0 3 (T c 3) 1 = X (e + 1) := w_ne _ _ (by decide)
  rw [e2]
  rfl
theorem cpC24 (T X : Nat → Nat → Int32) (c e : Nat) : nX3_copyOf 24 (4 : Int32) (6 : Int32) 24 (4 : Int32) (6 : Int32) (k_wi X e) (k_wi T c) = some (k_sp (k_w (k_wi X e) 0 3 (T c 3)) 1 1 (k_r (k_wi (k_w (k_wi X e) 0 3 (T c 3)) 1) 0 (va_cpy (T (c + 1)) (X (e + 1)) 0 0 24))) := by
  unfold nX3_copyOf
  rw [show k_wi T c 0 3 = T c 3 from rfl]
  have h := cpR24 (k_wi T c) (k_w (k_wi X e) 0 3 (T c 3)) 1 1
  rw [h, b1_some]
  have e2 : k_w (k_wi X e) 0 3 (T c 3) 1 = X (e + 1) := w_ne _ _ (by decide)
  rw [e2]
  rfl
theorem cpC144 (T X : Nat → Nat → Int32) (c e : Nat) : nX3_copyOf 144 (18 : Int32) (8 : Int32) 144 (18 : Int32) (8 : Int32) (k_wi X e) (k_wi T c) = some (k_sp (k_w (k_wi X e) 0 3 (T c 3)) 1 1 (k_r (k_wi (k_w (k_wi X e) 0 3 (T c 3)) 1) 0 (va_cpy (T (c + 1)) (X (e + 1)) 0 0 144))) := by
  unfold nX3_copyOf
  rw [show k_wi T c 0 3 = T c 3 from rfl]
  have h := cpR144 (k_wi T c) (k_w (k_wi X e) 0 3 (T c 3)) 1 1
  rw [h, b1_some]
  have e2 : k_w (k_wi X e) 0 3 (T c 3) 1 = X (e + 1) := w_ne _ _ (by decide)
  rw [e2]
  rfl
def cpV (S T : Nat → Nat → Int32) : Nat → Nat → Int32 := (k_w (k_w (k_w (k_r (k_w (k_r (k_w (k_r (k_w (k_r (k_r (k_r (k_r (k_r (k_r (k_r (k_r (k_r S 1 (va_cpy (T 1) (S 1) 0 0 7)) 2 (va_cpy (T 2) (S 2) 0 0 7)) 3 (va_cpy (T 3) (S 3) 0 0 7)) 4 (va_cpy (T 4) (S 4) 0 0 28)) 5 (va_cpy (T 5) (S 5) 0 0 5)) 6 (va_cpy (T 6) (S 6) 0 0 5)) 7 (va_cpy (T 7) (S 7) 0 0 5)) 8 (va_cpy (T 8) (S 8) 0 0 5)) 9 (va_cpy (T 9) (S 9) 0 0 5)) 10 3 (T 10 3)) 11 (va_cpy (T 11) (S 11) 0 0 36)) 12 3 (T 12 3)) 13 (va_cpy (T 13) (S 13) 0 0 24)) 14 3 (T 14 3)) 15 (va_cpy (T 15) (S 15) 0 0 144)) 0 12 (T 0 12)) 0 13 (T 0 13)) 0 14 (T 0 14))
theorem X5_copyOf_spec (S T : Nat → Nat → Int32) : nX5_copyOf S T = some (cpV S T) := by
  unfold nX5_copyOf cpV
  rw [cpR7, b1_some, sp_r1]
  rw [cpR7, b1_some, sp_r1, r_ne (c := 1) (i := 2) _ (by decide)]
  rw [cpR7, b1_some, sp_r1, r_ne (c := 2) (i := 3) _ (by decide), r_ne (c := 1) (i := 3) _ (by decide)]
  rw [cpR28, b1_some, sp_r1, r_ne (c := 3) (i := 4) _ (by decide), r_ne (c := 2) (i := 4) _ (by decide), r_ne (c := 1) (i := 4) _ (by decide)]
  rw [cpR5, b1_some, sp_r1, r_ne (c := 4) (i := 5) _ (by decide), r_ne (c := 3) (i := 5) _ (by decide), r_ne (c := 2) (i := 5) _ (by decide), r_ne (c := 1) (i := 5) _ (by decide)]
  rw [cpR5, b1_some, sp_r1, r_ne (c := 5) (i := 6) _ (by decide), r_ne (c := 4) (i := 6) _ (by decide), r_ne (c := 3) (i := 6) _ (by decide), r_ne (c := 2) (i := 6) _ (by decide), r_ne (c := 1) (i := 6) _ (by decide)]
  rw [cpR5, b1_some, sp_r1, r_ne (c := 6) (i := 7) _ (by decide), r_ne (c := 5) (i := 7) _ (by decide), r_ne (c := 4) (i := 7) _ (by decide), r_ne (c := 3) (i := 7) _ (by decide), r_ne (c := 2) (i := 7) _ (by decide), r_ne (c := 1) (i := 7) _ (by decide)]
  rw [cpR5, b1_some, sp_r1, r_ne (c := 7) (i := 8) _ (by decide), r_ne (c := 6) (i := 8) _ (by decide), r_ne (c := 5) (i := 8) _ (by decide), r_ne (c := 4) (i := 8) _ (by decide), r_ne (c := 3) (i := 8) _ (by decide), r_ne (c := 2) (i := 8) _ (by decide), r_ne (c := 1) (i := 8) _ (by decide)]
  rw [cpR5, b1_some, sp_r1, r_ne (c := 8) (i := 9) _ (by decide), r_ne (c := 7) (i := 9) _ (by decide), r_ne (c := 6) (i := 9) _ (by decide), r_ne (c := 5) (i := 9) _ (by decide), r_ne (c := 4) (i := 9) _ (by decide), r_ne (c := 3) (i := 9) _ (by decide), r_ne (c := 2) (i := 9) _ (by decide), r_ne (c := 1) (i := 9) _ (by decide)]
  rw [cpC36, b1_some, sp_r2]
  rw [r_ne (c := 9) (i := 11) _ (by decide), r_ne (c := 8) (i := 11) _ (by decide), r_ne (c := 7) (i := 11) _ (by decide), r_ne (c := 6) (i := 11) _ (by decide), r_ne (c := 5) (i := 11) _ (by decide), r_ne (c := 4) (i := 11) _ (by decide), r_ne (c := 3) (i := 11) _ (by decide), r_ne (c := 2) (i := 11) _ (by decide), r_ne (c := 1) (i := 11) _ (by decide)]
  rw [cpC24, b1_some, sp_r2]
  rw [r_ne (c := 11) (i := 13) _ (by decide), w_ne (c := 10) (i := 13) _ _ (by decide), r_ne (c := 9) (i := 13) _ (by decide), r_ne (c := 8) (i := 13) _ (by decide), r_ne (c := 7) (i := 13) _ (by decide), r_ne (c := 6) (i := 13) _ (by decide), r_ne (c := 5) (i := 13) _ (by decide), r_ne (c := 4) (i := 13) _ (by decide), r_ne (c := 3) (i := 13) _ (by decide), r_ne (c := 2) (i := 13) _ (by decide), r_ne (c := 1) (i := 13) _ (by decide)]
  rw [cpC144, b1_some, sp_r2]
  rw [r_ne (c := 13) (i := 15) _ (by decide), w_ne (c := 12) (i := 15) _ _ (by decide), r_ne (c := 11) (i := 15) _ (by decide), w_ne (c := 10) (i := 15) _ _ (by decide), r_ne (c := 9) (i := 15) _ (by decide), r_ne (c := 8) (i := 15) _ (by decide), r_ne (c := 7) (i := 15) _ (by decide), r_ne (c := 6) (i := 15) _ (by decide), r_ne (c := 5) (i := 15) _ (by decide), r_ne (c := 4) (i := 15) _ (by decide), r_ne (c := 3) (i := 15) _ (by decide), r_ne (c := 2) (i := 15) _ (by decide), r_ne (c := 1) (i := 15) _ (by decide)]
theorem cpV_o {S T : Nat → Nat → Int32} {c : Nat} (h : 16 ≤ c) : cpV S T c = S c := by
  unfold cpV
  rw [w_ne _ _ (by omega), w_ne _ _ (by omega), w_ne _ _ (by omega), r_ne _ (by omega), w_ne _ _ (by omega), r_ne _ (by omega), w_ne _ _ (by omega), r_ne _ (by omega), w_ne _ _ (by omega), r_ne _ (by omega), r_ne _ (by omega), r_ne _ (by omega), r_ne _ (by omega), r_ne _ (by omega), r_ne _ (by omega), r_ne _ (by omega), r_ne _ (by omega), r_ne _ (by omega)]
theorem cpV_0 (S T : Nat → Nat → Int32) : cpV S T 0 12 = T 0 12 ∧ cpV S T 0 13 = T 0 13 ∧ cpV S T 0 14 = T 0 14 ∧ cpV S T 10 3 = T 10 3 ∧ cpV S T 12 3 = T 12 3 ∧ cpV S T 14 3 = T 14 3 := ⟨rfl, rfl, rfl, rfl, rfl, rfl⟩
theorem cpV_1 (S T : Nat → Nat → Int32) {j : Nat} (h : j < 7) : cpV S T 1 j = T 1 j := (show cpV S T 1 j = va_cpy (T 1) (S 1) 0 0 7 j from rfl).trans (cp_in h)
theorem cpV_2 (S T : Nat → Nat → Int32) {j : Nat} (h : j < 7) : cpV S T 2 j = T 2 j := (show cpV S T 2 j = va_cpy (T 2) (S 2) 0 0 7 j from rfl).trans (cp_in h)
theorem cpV_3 (S T : Nat → Nat → Int32) {j : Nat} (h : j < 7) : cpV S T 3 j = T 3 j := (show cpV S T 3 j = va_cpy (T 3) (S 3) 0 0 7 j from rfl).trans (cp_in h)
theorem cpV_4 (S T : Nat → Nat → Int32) {j : Nat} (h : j < 28) : cpV S T 4 j = T 4 j := (show cpV S T 4 j = va_cpy (T 4) (S 4) 0 0 28 j from rfl).trans (cp_in h)
theorem cpV_5 (S T : Nat → Nat → Int32) {j : Nat} (h : j < 5) : cpV S T 5 j = T 5 j := (show cpV S T 5 j = va_cpy (T 5) (S 5) 0 0 5 j from rfl).trans (cp_in h)
theorem cpV_6 (S T : Nat → Nat → Int32) {j : Nat} (h : j < 5) : cpV S T 6 j = T 6 j := (show cpV S T 6 j = va_cpy (T 6) (S 6) 0 0 5 j from rfl).trans (cp_in h)
theorem cpV_7 (S T : Nat → Nat → Int32) {j : Nat} (h : j < 5) : cpV S T 7 j = T 7 j := (show cpV S T 7 j = va_cpy (T 7) (S 7) 0 0 5 j from rfl).trans (cp_in h)
theorem cpV_8 (S T : Nat → Nat → Int32) {j : Nat} (h : j < 5) : cpV S T 8 j = T 8 j := (show cpV S T 8 j = va_cpy (T 8) (S 8) 0 0 5 j from rfl).trans (cp_in h)
theorem cpV_9 (S T : Nat → Nat → Int32) {j : Nat} (h : j < 5) : cpV S T 9 j = T 9 j := (show cpV S T 9 j = va_cpy (T 9) (S 9) 0 0 5 j from rfl).trans (cp_in h)
theorem cpV_11 (S T : Nat → Nat → Int32) {j : Nat} (h : j < 36) : cpV S T 11 j = T 11 j := (show cpV S T 11 j = va_cpy (T 11) (S 11) 0 0 36 j from rfl).trans (cp_in h)
theorem cpV_13 (S T : Nat → Nat → Int32) {j : Nat} (h : j < 24) : cpV S T 13 j = T 13 j := (show cpV S T 13 j = va_cpy (T 13) (S 13) 0 0 24 j from rfl).trans (cp_in h)
theorem cpV_15 (S T : Nat → Nat → Int32) {j : Nat} (h : j < 144) : cpV S T 15 j = T 15 j := (show cpV S T 15 j = va_cpy (T 15) (S 15) 0 0 144 j from rfl).trans (cp_in h)
theorem vr_copy {V W : Nat → Nat → Int32} {t : Nat → Int32} {n m un uc up d dm : Nat} (h : vr V t n m un uc up d dm) : vr (cpV W V) t n m un uc up d dm := by
  obtain ⟨ht, ⟨b1, b2, b3, b4, b5, b6⟩, ⟨v0, v1, v2, v3, v4, v5⟩, hp, hnd, hth, hno, hca, hcq, hpa⟩ := h
  refine ⟨ht, ⟨b1, b2, b3, b4, b5, b6⟩, ⟨v0, v1, v2, v3, v4, v5⟩, fun p hpn => ?_, fun j hj => ?_, fun k hk => ?_, fun j hj => ?_, fun j hj => ?_, hcq, fun i hi => ?_⟩
  · rw [cpV_1 W V (by omega), cpV_2 W V (by omega), cpV_3 W V (by omega)]; exact hp p hpn
  · rw [cpV_4 W V (by omega)]; exact hnd j hj
  · rw [cpV_5 W V (by omega), cpV_6 W V (by omega), cpV_7 W V (by omega), cpV_8 W V (by omega), cpV_9 W V (by omega)]; exact hth k hk
  · rw [cpV_11 W V (by omega)]; exact hno j hj
  · rw [cpV_13 W V (by omega)]; exact hca j hj
  · obtain ⟨q1, q2, q3, q4⟩ := hpa i hi
    refine ⟨?_, q2, fun p hpn => ?_, fun k hk => ?_⟩
    · rw [cpV_15 W V (by omega)]; exact q1
    · rw [cpV_15 W V (by omega)]; exact q3 p hpn
    · rw [cpV_15 W V (by omega), cpV_15 W V (by omega)]; exact q4 k hk
theorem R_text {S S' T T' : Nat → Nat → Int32} {L M : Nat → Nat → Int64} (h : k_R S L T M) (hS : ∀ c, (1 ≤ c ∧ c < 17 ∨ 33 ≤ c ∧ c < 65 ∨ c = 66 ∨ c = 75) → S' c = S c) (hT : ∀ c, 1 ≤ c → c < 5 → T' c = T c) (len : Nat) (h1 : len ≤ 150) (h2 : S' 67 2 = nI len) (h3 : T' 0 18 = nI len) (h4 : ∀ i, i < len → S' 68 i = T' 16 i ∧ pz (T' 16 i) 128) : k_R S' L T' M := by
  obtain ⟨⟨n, m, un, uc, up, d, g1⟩, g2, g3, g4, -⟩ := h
  refine ⟨⟨n, m, un, uc, up, d, vr_congr (fun c hc => ?_) (fun k _ => ?_) g1⟩, fun i hi => ?_, ?_, g4, len, h1, h2, h3, h4⟩
  · rw [wi_at, wi_at, hS (1 + c) (by omega)]
  · rw [hT 1 (by decide) (by decide)]
  · obtain ⟨q1, q2⟩ := g2 i hi
    rw [hS 66 (by decide), hT 3 (by decide) (by decide)]
    refine ⟨q1, ?_⟩
    rcases q2 with q2 | ⟨q2, n', m', un', uc', up', d', q3⟩
    · exact Or.inl q2
    · refine Or.inr ⟨q2, n', m', un', uc', up', d', vr_congr (fun c hc => ?_) (fun k _ => ?_) q3⟩
      · rw [wi_at, wi_at, hS (33 + 16 * i + c) (by omega)]
      · show T' 2 (284 * i + k) = T 2 (284 * i + k)
        rw [hT 2 (by decide) (by decide)]
  · rw [hS 75 (by decide), hT 4 (by decide) (by decide)]; exact g3
theorem nar_char {j : Nat} (h : j < 128) : vp_nar .char (((nI j).toUInt32 % 65536).toInt32) = nI j := by
  have k : ∀ i : Fin 128, vp_nar .char (((nI i.val).toUInt32 % 65536).toInt32) = nI i.val := by decide +kernel
  exact k ⟨j, h⟩
theorem op_type : k_op_type k_R := by
  intro S L T M p1 hR
  have hR0 := hR
  obtain ⟨-, -, -, -, len, hlen, hl6, hl7, htx⟩ := hR
  by_cases h : pz p1 128
  · obtain ⟨j, hj, rfl⟩ := h
    by_cases c : len < 150
    · have ew : k_wi S 67 0 2 = nI len := hl6
      obtain ⟨S', hS'⟩ : ∃ S', S' = k_sp S 67 3 (k_w (k_w (k_wi S 67) 1 len (nI j)) 0 2 (nI (len + 1))) := ⟨_, rfl⟩
      have e2 : S' 67 2 = nI (len + 1) := by rw [hS', sp_in (by decide) (by decide)]; rfl
      have e68 : ∀ i, S' 68 i = if i = len then nI j else S 68 i := by
        intro i
        rw [hS', sp_in (by decide) (by decide)]
        rfl
      obtain ⟨Z, hZ⟩ : ∃ Z, Z = k_w (k_w T 16 len (nI j)) 0 18 (nI (len + 1)) := ⟨_, rfl⟩
      have z18 : Z 0 18 = nI (len + 1) := by rw [hZ, w_at]
      refine ⟨nI (len + 1), S', Z, ?_, ?_, R_text hR0 (fun c hc => by rw [hS', sp_out (by omega)]) (fun c h1 h2 => by rw [hZ, w_ne _ _ (by omega), w_ne _ _ (by omega)]) (len + 1) (by omega) e2 z18 (fun i hi => ?_)⟩
      · unfold nX6_type nX2_put
        rw [upTo_inK 128 (by decide) 128 rfl (z_nI hj), b1_some, if_neg (by decide), hl6, ew, if_pos (show nI len < (150 : Int32) from (nI_ltI (show len < 2 ^ 31 by omega) (show 150 < 2 ^ 31 by decide)).mpr c), if_pos (show nI len < (150 : Int32) from (nI_ltI (show len < 2 ^ 31 by omega) (show 150 < 2 ^ 31 by decide)).mpr c), if_ok c (by decide), nI_clamp (by omega), b1_some, nar_char hj]
        have e3 : k_w (k_wi S 67) 1 len (nI j) 0 2 = nI len := by rw [w_ne _ _ (by decide)]; exact ew
        rw [e3, nI_1, ← hS', e2]
      · unfold nX7_type
        rw [in_inK 128 (by decide) 127 (by decide) (z_nI hj), b1_some, if_neg (by decide), hl7, if_neg (show ¬ nI len = 150 from fun q => absurd ((nI_eq (show len < 2 ^ 31 by omega) (show 150 < 2 ^ 31 by decide)).mp q) (by omega)), if_ok c (by decide), nI_clamp (by omega)]
        have e3 : k_w T 16 len (nI j) 0 18 = nI len := by rw [w_ne _ _ (by decide)]; exact hl7
        rw [e3, nI_1, ← hZ, z18]
      · have z16 : Z 16 i = if i = len then nI j else T 16 i := by rw [hZ]; rfl
        rw [e68, z16]
        by_cases q : i = len
        · rw [if_pos q, if_pos q]; exact ⟨rfl, z_nI hj⟩
        · rw [if_neg q, if_neg q]; exact htx i (by omega)
    · have e : len = 150 := by omega
      refine ⟨-4, _, _, ?_, ?_, R_bad 2 (by decide) hR0⟩
      · unfold nX6_type
        rw [upTo_inK 128 (by decide) 128 rfl (z_nI hj), b1_some, if_neg (by decide), hl6, e, if_neg (by decide), full6]; rfl
      · unfold nX7_type
        rw [in_inK 128 (by decide) 127 (by decide) (z_nI hj), b1_some, if_neg (by decide), hl7, e, if_pos (by decide), full7]; rfl
  · refine ⟨-2, _, _, ?_, ?_, R_bad 0 (by decide) hR0⟩
    · unfold nX6_type
      rw [upTo_outK 128 (by decide) 128 rfl h, b1_some, if_pos rfl, bad6]; rfl
    · unfold nX7_type
      rw [in_outK 128 (by decide) 127 (by decide) h, b1_some, if_pos rfl, bad7]; rfl
