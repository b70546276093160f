/-! losing it so that it comes to somebody -/
def rcF (v : Nat → Nat) (a b : Nat) (j : Nat) : Nat := if j = a then (if v j ≤ b then v j else b) else v j
def snF (n : Nat) (t : Nat → Int32) (k : Nat) (e : Int32) (w : Nat → Nat) : Nat → Nat → Nat
  | 0 => fun _ => 1000
  | p + 1 => rcF (rcF (rcF (snF n t k e w p) p (w p)) (tgF n t k p e) (w p + 1)) (tgF n t k p e) (w (7 + p))
theorem snF_s (n : Nat) (t : Nat → Int32) (k : Nat) (e : Int32) (w : Nat → Nat) (p : Nat) : snF n t k e w (p + 1) = rcF (rcF (rcF (snF n t k e w p) p (w p)) (tgF n t k p e) (w p + 1)) (tgF n t k p e) (w (7 + p)) := rfl
def snA (n : Nat) (t : Nat → Int32) (k d : Nat) : Nat → Nat → Nat
  | 0 => s0F t k 1000 0
  | x + 1 => snF n t k (nI (d + x)) (snA n t k d x) n
theorem snA_s (n : Nat) (t : Nat → Int32) (k d x : Nat) : snA n t k d (x + 1) = snF n t k (nI (d + x)) (snA n t k d x) n := rfl
theorem rcF_far {v : Nat → Nat} {B : Nat} (h : ∀ j, v j = 1000 ∨ v j ≤ B) (a : Nat) {b : Nat} (hb : 1000 ≤ b ∨ b ≤ B) : ∀ j, rcF v a b j = 1000 ∨ rcF v a b j ≤ B := fun j => by
  unfold rcF
  by_cases c : j = a
  · rw [if_pos c]
    by_cases c2 : v j ≤ b
    · rw [if_pos c2]; exact h j
    · rw [if_neg c2]
      rcases h j with q | q
      · rcases hb with r | r
        · omega
        · exact Or.inr r
      · exact Or.inr (by omega)
  · rw [if_neg c]; exact h j
theorem snF_far {n : Nat} {t : Nat → Int32} {k : Nat} {e : Int32} {w : Nat → Nat} {B : Nat} (h : ∀ j, w j = 1000 ∨ w j ≤ B) : ∀ p j, snF n t k e w p j = 1000 ∨ snF n t k e w p j ≤ B + 1
  | 0, _ => Or.inl rfl
  | p + 1, j => by
    have ih := snF_far (n := n) (t := t) (k := k) (e := e) h p
    have h1 := h p
    have h2 := h (7 + p)
    rw [snF_s]
    exact rcF_far (rcF_far (rcF_far ih p (by omega)) _ (by omega)) _ (by omega) j
theorem snA_far (n : Nat) (t : Nat → Int32) (k d : Nat) : ∀ x j, snA n t k d x j = 1000 ∨ snA n t k d x j ≤ x
  | 0, j => by
    show s0F t k 1000 0 j = 1000 ∨ s0F t k 1000 0 j ≤ 0
    unfold s0F
    by_cases c : j = stF t k
    · rw [if_pos c]; exact Or.inr (Nat.le_refl 0)
    · rw [if_neg c]; exact Or.inl rfl
  | x + 1, j => snF_far (snA_far n t k d x) n j
theorem nL_min {a b : Nat} (ha : a < 2 ^ 63) (hb : b < 2 ^ 63) : (if nL a < nL b then nL a else nL b) = nL (if b ≤ a then b else a) := by
  by_cases c : a < b
  · rw [if_pos (by rw [nL_lt ha hb]; exact c), if_neg (by omega)]
  · rw [if_neg (by rw [nL_lt ha hb]; exact c), if_pos (by omega)]
theorem X0_goOnByFewest_spec {V S : Nat → Nat → Int32} {L : Nat → Nat → Int64} {t : Nat → Int32} {n m un uc up d dm k B : Nat} (h : vr V t n m un uc up d dm) (hk : k < m) (e : Int32) {w : Nat → Nat} (hB : B < 1000) (hw : ∀ j, w j = 1000 ∨ w j ≤ B) (hL : ∀ j, j < 7 → L 1 j = nL (w j) ∧ L 2 j = nL (w (7 + j))) : ∃ L', nX0_goOnByFewest S L V (nI k) e = some L' ∧ ∀ j, j < 7 → L' 1 j = nL (snF n t k e w n j) ∧ L' 2 j = nL (snF n t k e w n (7 + j)) := by
  have hv := h
  obtain ⟨-, ⟨b1, b2, b3, b4, b5, b6⟩, ⟨v0, v1, v2, v3, v4, v5⟩, -⟩ := h
  have hv12 : V 0 12 = nI n := v0
  obtain ⟨La, e1, f1⟩ := X0_fill_spec (k_wi L 3) (nL 1000)
  obtain ⟨Lb, e2, f2⟩ := X0_fill_spec (k_wi (k_sp L 3 1 La) 4) (nL 1000)
  obtain ⟨X, hX⟩ : ∃ X, X = k_sp (k_sp L 3 1 La) 4 1 Lb := ⟨_, rfl⟩
  have r1 : X 1 = L 1 := by rw [hX, sp_out (by decide), sp_out (by decide)]
  have r2 : X 2 = L 2 := by rw [hX, sp_out (by decide), sp_out (by decide)]
  have r3 : X 3 = La 0 := by rw [hX, sp_out (by decide), sp_in (by decide) (by decide)]
  have r4 : X 4 = Lb 0 := by rw [hX, sp_in (by decide) (by decide)]
  have hb2 := fun p j => snF_far (n := n) (t := t) (k := k) (e := e) hw p j
  unfold nX0_goOnByFewest
  rw [show (1000 : Int64) = nL 1000 from rfl, e1, b1_some, e2, b1_some, ← hX]
  refine it_inv (fun i st => st.1 = nI i ∧ st.2 1 = L 1 ∧ st.2 2 = L 2 ∧ ∀ j, j < 7 → st.2 3 j = nL (snF n t k e w i j) ∧ st.2 4 j = nL (snF n t k e w i (7 + j))) n (by omega) (fun i st hi hv1 => ?_) (fun st hv1 => ?_) ⟨rfl, r1, r2, fun j hj => ⟨by show X 3 j = _; rw [r3, f1 j hj]; rfl, by show X 4 j = _; rw [r4, f2 j hj]; rfl⟩⟩
  · obtain ⟨y, L1⟩ := st
    obtain ⟨h1, h2, h3, h4⟩ := hv1
    have h1 : y = nI i := h1
    have h2 : L1 1 = L 1 := h2
    have h3 : L1 2 = L 2 := h3
    have h4 : ∀ j, j < 7 → L1 3 j = nL (snF n t k e w i j) ∧ L1 4 j = nL (snF n t k e w i (7 + j)) := h4
    left
    show ∃ st', nX0_goOnByFewest_l23 (nI k) e y S L1 V = _ ∧ _
    unfold nX0_goOnByFewest_l23
    obtain ⟨w1, w2⟩ := hL i (by omega)
    obtain ⟨u1, u2⟩ := h4 i (by omega)
    have hwi := hw i
    have hw7 := hw (7 + i)
    have hsi := hb2 i i
    rw [h1, hv12, if_leF hi (by omega), if_ok (show k < 5 by omega) (by decide), if_ok (show k < 5 by omega) (by decide), nI_clamp (show k < 2 ^ 31 by omega), dest6 hv hk hi, b1_some]
    rw [if_ok (show i < 7 by omega) (by decide), if_ok (show i < 7 by omega) (by decide), if_ok (show i < 7 by omega) (by decide), if_ok (show i < 7 by omega) (by decide), if_ok (show i < 7 by omega) (by decide), if_ok (show i < 7 by omega) (by decide), if_ok (show i < 7 by omega) (by decide), nI_clamp (show i < 2 ^ 31 by omega), h2, h3, w1, w2, u1, show (1 : Int64) = nL 1 from rfl, nL_add, nL_min (show w i < 2 ^ 63 by omega) (show snF n t k e w i i < 2 ^ 63 by omega), nL_min (show w (7 + i) < 2 ^ 63 by omega) (show w i + 1 < 2 ^ 63 by omega), nI_1]
    obtain ⟨X3, hX3⟩ : ∃ X3, X3 = k_wl L1 3 i (nL (if snF n t k e w i i ≤ w i then snF n t k e w i i else w i)) := ⟨_, rfl⟩
    rw [← hX3]
    have x1 : X3 1 = L 1 := by rw [hX3, wl_ne _ _ (by decide), h2]
    have x2 : X3 2 = L 2 := by rw [hX3, wl_ne _ _ (by decide), h3]
    have x3 : ∀ j, j < 7 → X3 3 j = nL (rcF (snF n t k e w i) i (w i) j) := fun j hj => by
      unfold rcF
      rw [hX3, wl_eq]
      show (if j = i then _ else L1 3 j) = _
      by_cases q : j = i
      · rw [if_pos q, if_pos q, q]
      · rw [if_neg q, if_neg q, (h4 j hj).1]
    have x4 : ∀ j, j < 7 → X3 4 j = nL (rcF (snF n t k e w i) i (w i) (7 + j)) := fun j hj => by
      unfold rcF
      rw [hX3, wl_ne _ _ (by decide), if_neg (by omega), (h4 j hj).2]
    have hrc := rcF_far (hb2 i) i (b := w i) (by omega)
    obtain ⟨v, hvv⟩ : ∃ v, v = rcF (snF n t k e w i) i (w i) := ⟨_, rfl⟩
    rw [snF_s, ← hvv]
    rw [← hvv] at x3 x4 hrc
    obtain ⟨aw, haw⟩ : ∃ aw, aw = if w i + 1 ≤ w (7 + i) then w i + 1 else w (7 + i) := ⟨_, rfl⟩
    rw [← haw]
    have hawb : aw < 2 ^ 63 := by
      rw [haw]
      by_cases q : w i + 1 ≤ w (7 + i)
      · rw [if_pos q]; omega
      · rw [if_neg q]; omega
    have two : ∀ g j, rcF (rcF v g (w i + 1)) g (w (7 + i)) j = if j = g then (if v g ≤ aw then v g else aw) else v j := fun g j => by
      unfold rcF
      by_cases c : j = g
      · rw [if_pos c, if_pos c, if_pos c, haw, c]
        by_cases q : w i + 1 ≤ w (7 + i)
        · rw [if_pos q]
          by_cases q2 : v g ≤ w i + 1
          · rw [if_pos q2, if_pos (by omega)]
          · rw [if_neg q2, if_pos (by omega)]
        · rw [if_neg q]
          by_cases q2 : v g ≤ w i + 1
          · rw [if_pos q2]
          · rw [if_neg q2, if_neg (by omega), if_neg (by omega)]
      · rw [if_neg c, if_neg c, if_neg c]
    rcases tg_cases (q := i) b1 t k e with ⟨d1, d2⟩ | ⟨g, g1, g2, g3, g4⟩
    · rw [d2, if_pos d1]
      refine ⟨_, rfl, rfl, ?_, ?_, fun j hj => ⟨?_, ?_⟩⟩
      · exact x1
      · exact x2
      · show X3 3 j = _
        rw [x3 j hj, two, if_neg (by omega)]
      · show k_wl X3 4 i _ 4 j = _
        have := hrc (7 + i)
        rw [x4 i (by omega), nL_min hawb (show v (7 + i) < 2 ^ 63 by omega), wl_eq, two]
        show (if j = i then _ else X3 4 j) = _
        by_cases q : j = i
        · rw [if_pos q, if_pos (show 7 + j = 7 + i by omega)]
        · rw [if_neg q, if_neg (show ¬ 7 + j = 7 + i by omega), x4 j hj]
    · rw [g4, g3, if_n1 (by omega), if_ok (show g < 7 by omega) (by decide), if_ok (show g < 7 by omega) (by decide), nI_clamp (show g < 2 ^ 31 by omega)]
      refine ⟨_, rfl, rfl, ?_, ?_, fun j hj => ⟨?_, ?_⟩⟩
      · exact x1
      · exact x2
      · show k_wl X3 3 g _ 3 j = _
        have := hrc g
        rw [x3 g (by omega), nL_min hawb (show v g < 2 ^ 63 by omega), wl_eq, two]
        show (if j = g then _ else X3 3 j) = _
        by_cases q : j = g
        · rw [if_pos q, if_pos q]
        · rw [if_neg q, if_neg q, x3 j hj]
      · show X3 4 j = _
        rw [x4 j hj, two, if_neg (by omega)]
  · obtain ⟨y, L1⟩ := st
    obtain ⟨h1, h2, h3, h4⟩ := hv1
    have h1 : y = nI n := h1
    have h4 : ∀ j, j < 7 → L1 3 j = nL (snF n t k e w n j) ∧ L1 4 j = nL (snF n t k e w n (7 + j)) := h4
    obtain ⟨L2, q1, q2⟩ := X0_takeNext_spec S L1
    refine ⟨L2, ?_, fun j hj => ?_⟩
    · show nX0_goOnByFewest_l23 (nI k) e y S L1 V = _
      unfold nX0_goOnByFewest_l23
      rw [h1, hv12, if_leT (Nat.le_refl n) (by omega), q1]
      rfl
    · rw [(q2 j hj).1, (q2 j hj).2]
      exact h4 j hj
/-- the first day, of 31, on which it stands at p -/
def snX (n : Nat) (t : Nat → Int32) (k d p : Nat) : Nat := fsF (fun x => !decide (snA n t k d x p = 1000)) 31 0
theorem X0_fewestDays_spec {V S : Nat → Nat → Int32} {L : Nat → Nat → Int64} {t : Nat → Int32} {n m un uc up d k p : Nat} (h : vr V t n m un uc up d 9999) (hk : k < m) (hp : p < n) : ∃ o, nX0_fewestDays S L V (nI k) (nI p) = some o ∧ (∀ c, c ≠ 0 → o.2.1 c = S c) ∧ ((snX n t k d p = 31 ∧ o.1 = -1) ∨ (snX n t k d p < 31 ∧ o.1 = nI (snX n t k d p) ∧ o.2.1 0 4 = nI (snA n t k d (snX n t k d p) p))) := by
  have hv := h
  obtain ⟨-, ⟨b1, b2, b3, b4, b5, b6⟩, ⟨v0, v1, v2, v3, v4, v5⟩, -⟩ := h
  have v14 : V 0 14 = nI d := v5
  obtain ⟨L0, e0, f0⟩ := X0_setOut_spec (S := S) (L := L) hv hk 1000 0
  obtain ⟨-, a2, a3, a4⟩ := fsF_spec (fun x => !decide (snA n t k d x p = 1000)) 31 0
  obtain ⟨X, hX⟩ : ∃ X, X = snX n t k d p := ⟨_, rfl⟩
  have hX' : X = fsF (fun x => !decide (snA n t k d x p = 1000)) 31 0 := hX
  rw [← hX'] at a2 a3 a4
  rw [← hX]
  unfold nX0_fewestDays
  rw [show (1000 : Int64) = nL 1000 from rfl, show (0 : Int64) = nL 0 from rfl, e0, b1_some]
  refine it_inv (fun i st => st.1 = nI i ∧ i ≤ X ∧ ∀ j, j < 7 → st.2 1 j = nL (snA n t k d i j) ∧ st.2 2 j = nL (snA n t k d i (7 + j))) 31 (by decide) (fun i st hi hv1 => ?_) (fun st hv1 => ?_) ⟨rfl, Nat.zero_le X, f0⟩
  · obtain ⟨y, L1⟩ := st
    obtain ⟨h1, h2, h3⟩ := hv1
    have h1 : y = nI i := h1
    have h3 : ∀ j, j < 7 → L1 1 j = nL (snA n t k d i j) ∧ L1 2 j = nL (snA n t k d i (7 + j)) := h3
    have hfar := snA_far n t k d i
    have hfp := hfar p
    have hun : nX0_fewestDays_l13 (nI k) (nI p) y S L1 V = nX0_fewestDays_l13 (nI k) (nI p) (nI i) S L1 V := by rw [h1]
    have ecmp : (0 ≤ lg_cmp (nL (snA n t k d i p)) (1000 : Int64)) = (1000 ≤ snA n t k d i p) := by
      rw [cmp_ge, show (1000 : Int64) = nL 1000 from rfl, nL_le (by decide) (by omega)]
    by_cases c : snA n t k d i p = 1000
    · left
      have hi31 : i < X := by
        rcases Nat.lt_or_ge i X with q | q
        · exact q
        · have : i = X := by omega
          have h5 : (!decide (snA n t k d X p = 1000)) = true := a4 (by omega)
          rw [← this, c] at h5
          exact absurd h5 (by decide)
      obtain ⟨L2, q1, q2⟩ := X0_goOnByFewest_spec (S := S) hv hk (nI (d + i)) (show i < 1000 by omega) hfar h3
      refine ⟨(nI (i + 1), L2), ?_, rfl, hi31, fun j hj => ?_⟩
      · show nX0_fewestDays_l13 (nI k) (nI p) y S L1 V = _
        rw [hun]
        unfold nX0_fewestDays_l13
        rw [show (30 : Int32) = nI 30 from rfl, if_ltF (show i ≤ 30 by omega) (by decide), if_ok (show p < 7 by omega) (by decide), nI_clamp (show p < 2 ^ 31 by omega), (h3 p (by omega)).1, if_pos (by rw [ecmp]; omega), v14, nI_add, q1, b1_some, nI_1]
      · rw [snA_s]; exact q2 j hj
    · right
      have hiX : X = i := by
        rcases Nat.lt_or_ge i X with q | q
        · have h5 : (!decide (snA n t k d i p = 1000)) = false := a3 i (Nat.zero_le i) q
          rw [decide_eq_false c] at h5
          exact absurd h5 (by decide)
        · omega
      refine ⟨(nI i, k_w S 0 4 (nI (snA n t k d i p)), L1), ?_, fun c hc => w_ne _ _ hc, Or.inr ⟨by omega, by rw [hiX], ?_⟩⟩
      · show nX0_fewestDays_l13 (nI k) (nI p) y S L1 V = _
        rw [hun]
        unfold nX0_fewestDays_l13
        have e32 : (nL (snA n t k d i p)).toInt32 = nI (snA n t k d i p) := Int64.toInt32_ofNat' ..
        rw [show (30 : Int32) = nI 30 from rfl, if_ltF (show i ≤ 30 by omega) (by decide), if_ok (show p < 7 by omega) (by decide), nI_clamp (show p < 2 ^ 31 by omega), (h3 p (by omega)).1, if_neg (by rw [ecmp]; omega), e32, if_okc (show p < 7 by omega) (by decide)]
        rfl
      · rw [hiX]
        exact w_at S 0 4 _
  · obtain ⟨y, L1⟩ := st
    obtain ⟨h1, h2, h3⟩ := hv1
    have h1 : y = nI 31 := h1
    refine ⟨(-1, S, L1), ?_, fun _ _ => rfl, Or.inl ⟨by omega, rfl⟩⟩
    show nX0_fewestDays_l13 (nI k) (nI p) y S L1 V = _
    unfold nX0_fewestDays_l13
    rw [h1, if_pos (by decide)]
    rfl
/-! the reference's side -/
def rfF (v : Nat) : Nat := if v = 1000 then 1000000 else v
theorem rf_lt {v B : Nat} (hB : B < 1000) (h : v = 1000 ∨ v ≤ B) : rfF v ≤ 1000000 ∧ (1000000 ≤ rfF v ↔ v = 1000) := by
  unfold rfF
  by_cases c : v = 1000
  · rw [if_pos c]; omega
  · rw [if_neg c]; omega
theorem reach7 {Z : Nat → Nat → Int32} {M : Nat → Nat → Int64} {v : Nat → Nat} {a b B : Nat} (hB : B < 1000) (hv : ∀ j, v j = 1000 ∨ v j ≤ B) (hZ : ∀ j, j < 14 → Z 8 j = nI (rfF (v j))) (ha : a < 14) (hb : b ≤ B) : ∃ Z', nX7_reach Z M (nI a) (nI b) = some Z' ∧ (∀ c, c ≠ 8 → Z' c = Z c) ∧ ∀ j, j < 14 → Z' 8 j = nI (rfF (rcF v a b j)) := by
  have h1 := rf_lt hB (hv a)
  unfold nX7_reach
  rw [if_ok ha (by decide), if_ok ha (by decide), if_ok ha (by decide), if_ok ha (by decide), nI_clamp (by omega), hZ a ha]
  by_cases c : rfF (v a) ≤ b
  · have c2 : v a ≠ 1000 := fun q => by have := h1.2.mpr q; omega
    rw [if_leT c (by omega)]
    refine ⟨_, rfl, fun c hc => w_ne _ _ hc, fun j hj => ?_⟩
    rw [w_eq]
    show (if j = a then _ else Z 8 j) = _
    unfold rcF
    by_cases q : j = a
    · rw [if_pos q, if_pos q, q, if_pos (by unfold rfF at c; rw [if_neg c2] at c; exact c)]
    · rw [if_neg q, if_neg q, hZ j hj]
  · rw [if_leF (by omega) (by omega)]
    refine ⟨_, rfl, fun c hc => w_ne _ _ hc, fun j hj => ?_⟩
    rw [w_eq]
    show (if j = a then _ else Z 8 j) = _
    unfold rcF
    by_cases q : j = a
    · have c3 : ¬ v a ≤ b := by
        unfold rfF at c
        by_cases r : v a = 1000
        · omega
        · rw [if_neg r] at c; exact c
      have hb2 : rfF b = b := by unfold rfF; rw [if_neg (by omega)]
      rw [if_pos q, if_pos q, q, if_neg c3, hb2]
    · rw [if_neg q, if_neg q, hZ j hj]
theorem rc_far {v : Nat → Nat} {B : Nat} (hB : B < 1000) (hv : ∀ j, v j = 1000 ∨ v j ≤ B) (a : Nat) {b : Nat} (hb : 1000 ≤ b) : rcF v a b = v := by
  funext j
  unfold rcF
  have := hv j
  by_cases q : j = a
  · rw [if_pos q, if_pos (by omega)]
  · rw [if_neg q]
theorem X7_goSending_spec {V T Z : Nat → Nat → Int32} {M : Nat → Nat → Int64} {n m un uc up d dm k B : Nat} (h : vr V (T 1) n m un uc up d dm) (z1 : Z 1 = T 1) (z5 : Z 5 = lcF T 1 n 5) (hk : k < m) (e : Int32) {w : Nat → Nat} (hB : B + 1 < 1000) (hw : ∀ j, w j = 1000 ∨ w j ≤ B) (hZ : ∀ j, j < 14 → Z 7 j = nI (rfF (w j))) : ∃ Z', nX7_goSending Z M (nI k) e = some Z' ∧ (∀ c, c ≠ 7 → c ≠ 8 → Z' c = Z c) ∧ ∀ j, j < 14 → Z' 7 j = nI (rfF (snF n (T 1) k e w n j)) := by
  have hv := h
  obtain ⟨⟨t0, t1, t2, t3, t4, t22⟩, ⟨b1, b2, b3, b4, b5, b6⟩, -⟩ := h
  have hb2 := fun p j => snF_far (n := n) (t := T 1) (k := k) (e := e) hw p j
  unfold nX7_goSending
  refine it_inv (fun i st => st.1 = nI i ∧ (∀ c, c ≠ 8 → st.2 c = Z c) ∧ ∀ j, j < i → st.2 8 j = nI 1000000) 14 (by decide) (fun i st hi hv1 => ?_) (fun st hv1 => ?_) ⟨rfl, fun _ _ => rfl, fun j hj => absurd hj (Nat.not_lt_zero j)⟩
  · obtain ⟨y, Y⟩ := st
    obtain ⟨h1, h2, h3⟩ := hv1
    have h1 : y = nI i := h1
    left
    refine ⟨(nI (i + 1), k_w Y 8 i (nI 1000000)), ?_, rfl, fun c hc => ?_, fun j hj => ?_⟩
    · show nX7_goSending_l2 (nI k) e y Y M = _
      unfold nX7_goSending_l2
      rw [h1, show (14 : Int32) = nI 14 from rfl, if_leF hi (by decide), if_ok hi (by decide), nI_clamp (by omega), nI_1]
      rfl
    · show k_w Y 8 i _ c = _
      rw [w_ne _ _ hc]; exact h2 c hc
    · show k_w Y 8 i _ 8 j = _
      by_cases q : j = i
      · rw [q, w_at]
      · rw [w_off _ q]; exact h3 j (by omega)
  · obtain ⟨y, Y⟩ := st
    obtain ⟨h1, h2, h3⟩ := hv1
    have h1 : y = nI 14 := h1
    have h2 : ∀ c, c ≠ 8 → Y c = Z c := h2
    have h3 : ∀ j, j < 14 → Y 8 j = nI 1000000 := h3
    have hmain : ∃ Z', k_it (fun st => nX7_goSending_l24 (nI k) e st.1 st.2 M) 1000 ((0 : Int32), Y) = some Z' ∧ (∀ c, c ≠ 7 → c ≠ 8 → Z' c = Z c) ∧ ∀ j, j < 14 → Z' 7 j = nI (rfF (snF n (T 1) k e w n j)) := by
      refine it_inv (fun i st => st.1 = nI i ∧ (∀ c, c ≠ 8 → st.2 c = Z c) ∧ ∀ j, j < 14 → st.2 8 j = nI (rfF (snF n (T 1) k e w i j))) n (by omega) (fun i st hi hv1 => ?_) (fun st hv1 => ?_) ⟨rfl, h2, h3⟩
      · obtain ⟨y, Y⟩ := st
        obtain ⟨h1, h2, h3⟩ := hv1
        have h1 : y = nI i := h1
        have h2 : ∀ c, c ≠ 8 → Y c = Z c := h2
        have h3 : ∀ j, j < 14 → Y 8 j = nI (rfF (snF n (T 1) k e w i j)) := h3
        left
        have y1 : Y 1 = T 1 := (h2 1 (by decide)).trans z1
        have y5 : Y 5 = lcF T 1 n 5 := (h2 5 (by decide)).trans z5
        have hwi := hw i
        have hw7 := hw (7 + i)
        have r1 := rf_lt (show B < 1000 by omega) hwi
        have r7 := rf_lt (show B < 1000 by omega) hw7
        have hgo : ∀ (g : Nat) (gi : Int32), gi = nI g → g < 14 → ∃ Y', nX7_goSending_i24_j77 (nI k) e (nI i) gi Y M = some (.inl (nI (i + 1), Y')) ∧ (∀ c, c ≠ 8 → Y' c = Z c) ∧ ∀ j, j < 14 → Y' 8 j = nI (rfF (rcF (rcF (rcF (snF n (T 1) k e w i) i (w i)) g (w i + 1)) g (w (7 + i)) j)) := by
          intro g gi hgi hg
          subst hgi
          have j115 : ∀ (Q : Nat → Nat → Int32) (v : Nat → Nat), (∀ c, c ≠ 8 → Q c = Z c) → (∀ j, v j = 1000 ∨ v j ≤ B + 1) → (∀ j, j < 14 → Q 8 j = nI (rfF (v j))) → ∃ Y', nX7_goSending_i24_j115 (nI k) e (nI i) (nI g) Q M = some (.inl (nI (i + 1), Y')) ∧ (∀ c, c ≠ 8 → Y' c = Z c) ∧ ∀ j, j < 14 → Y' 8 j = nI (rfF (rcF v g (w (7 + i)) j)) := by
            intro Q v q1 q2 q3
            unfold nX7_goSending_i24_j115
            rw [show (7 : Int32) + nI i = nI (7 + i) from nI_add 7 i, if_ok (show 7 + i < 14 by omega) (by decide), if_ok (show 7 + i < 14 by omega) (by decide), nI_clamp (by omega), q1 7 (by decide), hZ (7 + i) (by omega), show (1000000 : Int32) = nI 1000000 from rfl, nI_1]
            by_cases c : w (7 + i) = 1000
            · rw [if_leT (r7.2.mpr c) (by omega)]
              exact ⟨Q, rfl, q1, fun j hj => by rw [rc_far (show B + 1 < 1000 from hB) q2 g (by omega)]; exact q3 j hj⟩
            · have c2 : ¬ 1000000 ≤ rfF (w (7 + i)) := fun q => c (r7.2.mp q)
              have c3 : rfF (w (7 + i)) = w (7 + i) := by unfold rfF; rw [if_neg c]
              obtain ⟨Y', s1, s2, s3⟩ := reach7 (M := M) (show B + 1 < 1000 from hB) q2 q3 hg (show w (7 + i) ≤ B + 1 by omega)
              rw [if_leF (by omega) (by decide), c3, s1, b1_some]
              exact ⟨Y', rfl, fun c hc => (s2 c hc).trans (q1 c hc), s3⟩
          unfold nX7_goSending_i24_j77
          rw [if_ok (show i < 14 by omega) (by decide), if_ok (show i < 14 by omega) (by decide), nI_clamp (show i < 2 ^ 31 by omega), h2 7 (by decide), hZ i (by omega), show (1000000 : Int32) = nI 1000000 from rfl]
          by_cases c : w i = 1000
          · rw [if_leT (r1.2.mpr c) (by omega)]
            have e1 : rcF (snF n (T 1) k e w i) i (w i) = snF n (T 1) k e w i := rc_far (show B + 1 < 1000 from hB) (hb2 i) i (by omega)
            have e2 : rcF (snF n (T 1) k e w i) g (w i + 1) = snF n (T 1) k e w i := rc_far (show B + 1 < 1000 from hB) (hb2 i) g (by omega)
            rw [e1, e2]
            exact j115 Y _ h2 (hb2 i) h3
          · have c2 : ¬ 1000000 ≤ rfF (w i) := fun q => c (r1.2.mp q)
            have c3 : rfF (w i) = w i := by unfold rfF; rw [if_neg c]
            obtain ⟨Y1, s1, s2, s3⟩ := reach7 (M := M) (show B + 1 < 1000 from hB) (hb2 i) h3 (show i < 14 by omega) (show w i ≤ B + 1 by omega)
            have hv1 := rcF_far (hb2 i) i (b := w i) (by omega)
            obtain ⟨Y2, u1, u2, u3⟩ := reach7 (M := M) (show B + 1 < 1000 from hB) hv1 s3 hg (show w i + 1 ≤ B + 1 by omega)
            have hv2 := rcF_far hv1 g (b := w i + 1) (by omega)
            rw [if_leF (by omega) (by decide), c3, s1, b1_some, if_okc (show i < 14 by omega) (by decide), s2 7 (by decide), h2 7 (by decide), hZ i (by omega), c3, nI_1, u1, b1_some]
            exact j115 Y2 _ (fun c hc => ((u2 c hc).trans (s2 c hc)).trans (h2 c hc)) hv2 u3
        show ∃ st', nX7_goSending_l24 (nI k) e y Y M = _ ∧ _
        unfold nX7_goSending_l24 nX7_many
        rw [b1_some, h1, y1, t0, if_leF hi (by omega), show (65 : Int32) + nI k = nI (65 + k) from nI_add 65 k, show (70 : Int32) + nI k = nI (70 + k) from nI_add 70 k, if_ok (show 65 + k < 284 by omega) (by decide), if_ok (show 70 + k < 284 by omega) (by decide), nI_clamp (show 65 + k < 2 ^ 31 by omega), nI_clamp (show 70 + k < 2 ^ 31 by omega), show T 1 (65 + k) = Y 1 (65 + k) from by rw [y1], show T 1 (70 + k) = Y 1 (70 + k) from by rw [y1], dest7 hv y1 y5 hk hi e, b1_some]
        rcases tg_cases (q := i) b1 (T 1) k e with ⟨d1, d2⟩ | ⟨g, g1, g2, g3, g4⟩
        · obtain ⟨Y', s1, s2, s3⟩ := hgo (7 + i) (7 + nI i) (nI_add 7 i) (by omega)
          rw [d1, if_pos rfl, s1]
          refine ⟨_, rfl, rfl, s2, fun j hj => ?_⟩
          rw [snF_s, d2]; exact s3 j hj
        · obtain ⟨Y', s1, s2, s3⟩ := hgo g (nI g) rfl (by omega)
          rw [g3, if_n1 (by omega), s1]
          refine ⟨_, rfl, rfl, s2, fun j hj => ?_⟩
          rw [snF_s, g4]; exact s3 j hj
      · obtain ⟨y, Y⟩ := st
        obtain ⟨h1, h2, h3⟩ := hv1
        have h1 : y = nI n := h1
        have h2 : ∀ c, c ≠ 8 → Y c = Z c := h2
        have h3 : ∀ j, j < 14 → Y 8 j = nI (rfF (snF n (T 1) k e w n j)) := h3
        have hcp : ∃ Z', k_it (fun st => nX7_goSending_l152 st.1 st.2 M) 1000 ((0 : Int32), Y) = some Z' ∧ (∀ c, c ≠ 7 → c ≠ 8 → Z' c = Z c) ∧ ∀ j, j < 14 → Z' 7 j = nI (rfF (snF n (T 1) k e w n j)) := by
          refine it_inv (fun i st => st.1 = nI i ∧ (∀ c, c ≠ 7 → st.2 c = Y c) ∧ ∀ j, j < i → st.2 7 j = Y 8 j) 14 (by decide) (fun i st hi hv1 => ?_) (fun st hv1 => ?_) ⟨rfl, fun _ _ => rfl, fun j hj => absurd hj (Nat.not_lt_zero j)⟩
          · obtain ⟨y, Q⟩ := st
            obtain ⟨q1, q2, q3⟩ := hv1
            have q1 : y = nI i := q1
            have q2 : ∀ c, c ≠ 7 → Q c = Y c := q2
            left
            refine ⟨(nI (i + 1), k_w Q 7 i (Y 8 i)), ?_, rfl, fun c hc => ?_, fun j hj => ?_⟩
            · show nX7_goSending_l152 y Q M = _
              unfold nX7_goSending_l152
              rw [q1, show (14 : Int32) = nI 14 from rfl, if_leF hi (by decide), if_ok hi (by decide), if_ok hi (by decide), nI_clamp (by omega), nI_1, q2 8 (by decide)]
            · show k_w Q 7 i _ c = _
              rw [w_ne _ _ hc]; exact q2 c hc
            · show k_w Q 7 i _ 7 j = _
              by_cases q : j = i
              · rw [q, w_at]
              · rw [w_off _ q]; exact q3 j (by omega)
          · obtain ⟨y, Q⟩ := st
            obtain ⟨q1, q2, q3⟩ := hv1
            have q1 : y = nI 14 := q1
            have q2 : ∀ c, c ≠ 7 → Q c = Y c := q2
            have q3 : ∀ j, j < 14 → Q 7 j = Y 8 j := q3
            refine ⟨Q, ?_, fun c c7 c8 => (q2 c c7).trans (h2 c c8), fun j hj => (q3 j hj).trans (h3 j hj)⟩
            show nX7_goSending_l152 y Q M = _
            unfold nX7_goSending_l152
            rw [q1, if_pos (by decide)]
            rfl
        obtain ⟨Z', s1, s2, s3⟩ := hcp
        refine ⟨Z', ?_, s2, s3⟩
        show nX7_goSending_l24 (nI k) e y Y M = _
        unfold nX7_goSending_l24 nX7_many
        rw [b1_some, h1, h2 1 (by decide), z1, t0, if_leT (Nat.le_refl n) (by omega), s1]
        rfl
    obtain ⟨Z', s1, s2, s3⟩ := hmain
    refine ⟨Z', ?_, s2, s3⟩
    show nX7_goSending_l2 (nI k) e y Y M = _
    unfold nX7_goSending_l2
    rw [h1, if_pos (by decide), s1]
    rfl
theorem X7_layStart_spec {V T Z : Nat → Nat → Int32} {M : Nat → Nat → Int64} {n m un uc up d dm k : Nat} (h : vr V (T 1) n m un uc up d dm) (z1 : Z 1 = T 1) (hk : k < m) : ∃ Z', nX7_layStart Z M (nI k) = some Z' ∧ (∀ c, c ≠ 7 → Z' c = Z c) ∧ ∀ j, j < 14 → Z' 7 j = nI (rfF (s0F (T 1) k 1000 0 j)) := by
  obtain ⟨-, ⟨b1, b2, b3, b4, b5, b6⟩, -, hp, hnd, hth, -⟩ := h
  obtain ⟨-, -, -, -, -, -, -, -, ⟨p, hp7, ep⟩, -⟩ := hth k hk
  unfold nX7_layStart
  refine it_inv (fun i st => st.1 = nI i ∧ (∀ c, c ≠ 7 → st.2 c = Z c) ∧ ∀ j, j < i → st.2 7 j = nI 1000000) 14 (by decide) (fun i st hi hv1 => ?_) (fun st hv1 => ?_) ⟨rfl, fun _ _ => rfl, fun j hj => absurd hj (Nat.not_lt_zero j)⟩
  · obtain ⟨y, Y⟩ := st
    obtain ⟨h1, h2, h3⟩ := hv1
    have h1 : y = nI i := h1
    left
    refine ⟨(nI (i + 1), k_w Y 7 i (nI 1000000)), ?_, rfl, fun c hc => ?_, fun j hj => ?_⟩
    · show nX7_layStart_l2 (nI k) y Y M = _
      unfold nX7_layStart_l2
      rw [h1, show (14 : Int32) = nI 14 from rfl, if_leF hi (by decide), if_ok hi (by decide), nI_clamp (by omega), nI_1]
      rfl
    · show k_w Y 7 i _ c = _
      rw [w_ne _ _ hc]; exact h2 c hc
    · show k_w Y 7 i _ 7 j = _
      by_cases q : j = i
      · rw [q, w_at]
      · rw [w_off _ q]; exact h3 j (by omega)
  · obtain ⟨y, Y⟩ := st
    obtain ⟨h1, h2, h3⟩ := hv1
    have h1 : y = nI 14 := h1
    have h2 : ∀ c, c ≠ 7 → Y c = Z c := h2
    have h3 : ∀ j, j < 14 → Y 7 j = nI 1000000 := h3
    have y1 : Y 1 = T 1 := (h2 1 (by decide)).trans z1
    have fin : ∀ g, g < 14 → g = stF (T 1) k → (∀ c, c ≠ 7 → k_w Y 7 g 0 c = Z c) ∧ ∀ j, j < 14 → k_w Y 7 g 0 7 j = nI (rfF (s0F (T 1) k 1000 0 j)) := by
      intro g hg eg
      refine ⟨fun c hc => by rw [w_ne _ _ hc]; exact h2 c hc, fun j hj => ?_⟩
      unfold s0F
      by_cases q : j = g
      · rw [q, w_at, if_pos eg]; rfl
      · rw [w_off _ q, h3 j hj, if_neg (by omega)]; rfl
    show ∃ x, nX7_layStart_l2 (nI k) y Y M = _ ∧ _
    unfold nX7_layStart_l2
    rw [h1, if_pos (by decide), show (10 : Int32) + nI k = nI (10 + k) from nI_add 10 k, show (5 : Int32) + nI k = nI (5 + k) from nI_add 5 k, if_ok (show 10 + k < 284 by omega) (by decide), if_ok (show 5 + k < 284 by omega) (by decide), if_ok (show 5 + k < 284 by omega) (by decide), nI_clamp (show 10 + k < 2 ^ 31 by omega), nI_clamp (show 5 + k < 2 ^ 31 by omega), y1, ep, show (7 : Int32) + nI p = nI (7 + p) from nI_add 7 p, if_ok (show p < 14 by omega) (by decide), if_ok (show 7 + p < 14 by omega) (by decide), nI_clamp (show p < 2 ^ 31 by omega), nI_clamp (show 7 + p < 2 ^ 31 by omega)]
    by_cases c : T 1 (10 + k) = 0
    · rw [if_pos c]
      obtain ⟨f1, f2⟩ := fin p (by omega) (by unfold stF; rw [if_pos c, ep, nI_clamp (by omega)])
      exact ⟨_, rfl, f1, f2⟩
    · rw [if_neg c]
      obtain ⟨f1, f2⟩ := fin (7 + p) (by omega) (by unfold stF; rw [if_neg c, ep, nI_clamp (by omega)])
      exact ⟨_, rfl, f1, f2⟩
theorem X7_sending_spec {V T Z : Nat → Nat → Int32} {M : Nat → Nat → Int64} {n m un uc up d k p : Nat} (h : vr V (T 1) n m un uc up d 9999) (z1 : Z 1 = T 1) (z5 : Z 5 = lcF T 1 n 5) (hk : k < m) (hp : p < n) (p3 : Int32) (hZ : ∀ j, j < 14 → Z 7 j = nI (rfF (snA n (T 1) k d 0 j))) : ∃ o, k_it (fun st => nX7_send_l49 (nI k) (nI p) p3 st.1 st.2 M) 1000 ((0 : Int32), Z) = some o ∧ (∀ c, c ≠ 7 → c ≠ 8 → o.2 c = Z c) ∧ ((snX n (T 1) k d p = 31 ∧ o.1 = -1) ∨ (snX n (T 1) k d p < 31 ∧ o.1 = if p3 = 0 then nI (snX n (T 1) k d p) else nI (snA n (T 1) k d (snX n (T 1) k d p) p))) := by
  have hv := h
  obtain ⟨⟨t0, t1, t2, t3, t4, t22⟩, ⟨b1, b2, b3, b4, b5, b6⟩, -⟩ := h
  obtain ⟨-, a2, a3, a4⟩ := fsF_spec (fun x => !decide (snA n (T 1) k d x p = 1000)) 31 0
  obtain ⟨X, hX⟩ : ∃ X, X = snX n (T 1) k d p := ⟨_, rfl⟩
  have hX' : X = fsF (fun x => !decide (snA n (T 1) k d x p = 1000)) 31 0 := hX
  rw [← hX'] at a2 a3 a4
  rw [← hX]
  refine it_inv (fun i st => st.1 = nI i ∧ i ≤ X ∧ (∀ c, c ≠ 7 → c ≠ 8 → st.2 c = Z c) ∧ ∀ j, j < 14 → st.2 7 j = nI (rfF (snA n (T 1) k d i j))) 31 (by decide) (fun i st hi hv1 => ?_) (fun st hv1 => ?_) ⟨rfl, Nat.zero_le X, fun _ _ _ => rfl, hZ⟩
  · obtain ⟨y, Y⟩ := st
    obtain ⟨h1, h2, h3, h4⟩ := hv1
    have h1 : y = nI i := h1
    have h3 : ∀ c, c ≠ 7 → c ≠ 8 → Y c = Z c := h3
    have h4 : ∀ j, j < 14 → Y 7 j = nI (rfF (snA n (T 1) k d i j)) := h4
    have hfar := snA_far n (T 1) k d i
    have r1 := rf_lt (show i < 1000 by omega) (hfar p)
    have y1 : Y 1 = T 1 := (h3 1 (by decide) (by decide)).trans z1
    have y5 : Y 5 = lcF T 1 n 5 := (h3 5 (by decide) (by decide)).trans z5
    have hun : nX7_send_l49 (nI k) (nI p) p3 y Y M = nX7_send_l49 (nI k) (nI p) p3 (nI i) Y M := by rw [h1]
    by_cases c : snA n (T 1) k d i p = 1000
    · left
      have hi31 : i < X := by
        rcases Nat.lt_or_ge i X with q | q
        · exact q
        · have : i = X := by omega
          have h5 : (!decide (snA n (T 1) k d X p = 1000)) = true := a4 (by omega)
          rw [← this, c] at h5
          exact absurd h5 (by decide)
      obtain ⟨Y', q1, q2, q3⟩ := X7_goSending_spec (M := M) hv y1 y5 hk (nI (d + i)) (show i + 1 < 1000 by omega) hfar h4
      refine ⟨(nI (i + 1), Y'), ?_, rfl, hi31, fun c c7 c8 => (q2 c c7 c8).trans (h3 c c7 c8), fun j hj => ?_⟩
      · show nX7_send_l49 (nI k) (nI p) p3 y Y M = _
        rw [hun]
        unfold nX7_send_l49
        rw [show (30 : Int32) = nI 30 from rfl, if_ltF (show i ≤ 30 by omega) (by decide), if_ok (show p < 14 by omega) (by decide), nI_clamp (show p < 2 ^ 31 by omega), h4 p (by omega), show (1000000 : Int32) = nI 1000000 from rfl, if_leT (r1.2.mpr c) (by omega), y1, t22, nI_add, q1, b1_some, nI_1]
      · rw [snA_s]; exact q3 j hj
    · right
      have hiX : X = i := by
        rcases Nat.lt_or_ge i X with q | q
        · have h5 : (!decide (snA n (T 1) k d i p = 1000)) = false := a3 i (Nat.zero_le i) q
          rw [decide_eq_false c] at h5
          exact absurd h5 (by decide)
        · omega
      have c2 : ¬ 1000000 ≤ rfF (snA n (T 1) k d i p) := fun q => c (r1.2.mp q)
      have c3 : rfF (snA n (T 1) k d i p) = snA n (T 1) k d i p := by unfold rfF; rw [if_neg c]
      refine ⟨(if p3 = 0 then nI i else nI (snA n (T 1) k d i p), Y), ?_, h3, Or.inr ⟨by omega, by rw [hiX]⟩⟩
      show nX7_send_l49 (nI k) (nI p) p3 y Y M = _
      rw [hun]
      unfold nX7_send_l49
      rw [show (30 : Int32) = nI 30 from rfl, if_ltF (show i ≤ 30 by omega) (by decide), if_ok (show p < 14 by omega) (by decide), nI_clamp (show p < 2 ^ 31 by omega), h4 p (by omega), show (1000000 : Int32) = nI 1000000 from rfl, if_leF (by omega) (by decide), if_okc (show p < 14 by omega) (by decide), c3]
      by_cases q : p3 = 0
      · rw [if_pos q, if_pos q]; rfl
      · rw [if_neg q, if_neg q]; rfl
  · obtain ⟨y, Y⟩ := st
    obtain ⟨h1, h2, h3, h4⟩ := hv1
    have h1 : y = nI 31 := h1
    refine ⟨(-1, Y), ?_, h3, Or.inl ⟨by omega, rfl⟩⟩
    show nX7_send_l49 (nI k) (nI p) p3 y Y M = _
    unfold nX7_send_l49
    rw [h1, if_pos (by decide)]
    rfl
theorem op_send : k_op_send k_R := by
  intro S L T M p1 p2 p3 hR
  have hR0 := hR
  obtain ⟨⟨n, m, un, uc, up, d, hv⟩, -⟩ := hR
  have hv0 := hv
  obtain ⟨⟨t0, t1, t2, t3, t4, t22⟩, ⟨b1, b2, b3, b4, b5, b6⟩, ⟨v0, v1, v2, v3, v4, v5⟩, -⟩ := hv
  have v0 : S 1 12 = nI n := v0
  have v1 : S 1 13 = nI m := v1
  by_cases h1 : pz p1 m
  · by_cases h2 : pz p2 n
    · by_cases h3 : pz p3 2
      · obtain ⟨k, hk, rfl⟩ := h1
        obtain ⟨p, hp, rfl⟩ := h2
        obtain ⟨⟨r6, S6, L6⟩, e6, f6, g6⟩ := X0_fewestDays_spec (S := k_wi S 70) (L := k_wi L 70) hv0 hk hp
        have f6 : ∀ c, c ≠ 0 → S6 c = k_wi S 70 c := f6
        have e1 : lcF T 1 n 1 = T 1 := lcF_ne (by decide)
        obtain ⟨Z, e7, f7, g7⟩ := X7_layStart_spec (Z := lcF T 1 n) (M := M) hv0 e1 hk
        obtain ⟨⟨r7, Z7⟩, e8, f8, g8⟩ := X7_sending_spec (M := M) hv0 ((f7 1 (by decide)).trans e1) (f7 5 (by decide)) hk hp p3 g7
        have f8 : ∀ c, c ≠ 7 → c ≠ 8 → Z7 c = Z c := f8
        refine ⟨r7, k_sp S 70 5 S6, k_sp L 70 5 L6, Z7, ?_, ?_, R_congr (T := T) (fun c hc => sp_out (by omega)) (by rw [sp_out (by decide)]) (fun c hc => by rw [f8 c (by omega) (by omega), f7 c (by omega), lcF_ne (by omega)]) (by rw [f8 0 (by decide) (by decide), f7 0 (by decide), lcF_ne (by decide)]) ⟨by rw [sp_out (by decide)], by rw [sp_out (by decide)]⟩ ⟨rfl, rfl⟩ hR0⟩
        · unfold nX6_send
          rw [isThing_in v1 b2 (z_nI hk), b1_some, if_neg (by decide), isPerson_in v0 b1 (z_nI hp), b1_some, if_neg (by decide), upTo_inK 2 (by decide) 2 rfl h3, b1_some, if_neg (by decide), e6, b3_some]
          rcases g6 with ⟨q1, q2⟩ | ⟨q1, q2, q3⟩
          · have q2 : r6 = -1 := q2
            rcases g8 with ⟨u1, u2⟩ | ⟨u1, u2⟩
            · have u2 : r7 = -1 := u2
              rw [if_pos q2, q2, u2]
            · omega
          · have q2 : r6 = nI (snX n (T 1) k d p) := q2
            have q3 : S6 0 4 = nI (snA n (T 1) k d (snX n (T 1) k d p) p) := q3
            rcases g8 with ⟨u1, u2⟩ | ⟨u1, u2⟩
            · omega
            · have u2 : r7 = if p3 = 0 then nI (snX n (T 1) k d p) else nI (snA n (T 1) k d (snX n (T 1) k d p) p) := u2
              rw [q2, if_n1 (by omega), u2]
              by_cases q : p3 = 0
              · rw [if_pos q, if_pos q]
              · rw [if_neg q, if_neg q, sp_in (by decide) (by decide), q3]
        · unfold nX7_send
          rw [isThing7_in t1 b2 (z_nI hk), b1_some, if_neg (by decide), isOne7_in t0 b1 (z_nI hp), b1_some, if_neg (by decide), in_inK 2 (by decide) 1 (by decide) h3, b1_some, if_neg (by decide), X7_layCoats_1_spec b1 t0, b1_some, e7, b1_some, e8]
      · refine ⟨-2, _, L, _, ?_, ?_, R_bad 0 (by decide) hR0⟩
        · unfold nX6_send nX6_send_j24
          rw [isThing_in v1 b2 h1, b1_some, if_neg (by decide), isPerson_in v0 b1 h2, b1_some, if_neg (by decide), upTo_outK 2 (by decide) 2 rfl h3, b1_some, if_pos rfl, bad6]; rfl
        · unfold nX7_send nX7_send_j26
          rw [isThing7_in t1 b2 h1, b1_some, if_neg (by decide), isOne7_in t0 b1 h2, b1_some, if_neg (by decide), in_outK 2 (by decide) 1 (by decide) h3, b1_some, if_pos rfl, bad7]; rfl
    · refine ⟨-2, _, L, _, ?_, ?_, R_bad 0 (by decide) hR0⟩
      · unfold nX6_send nX6_send_j24
        rw [isThing_in v1 b2 h1, b1_some, if_neg (by decide), isPerson_out v0 b1 h2, b1_some, if_pos rfl, bad6]; rfl
      · unfold nX7_send nX7_send_j26
        rw [isThing7_in t1 b2 h1, b1_some, if_neg (by decide), isOne7_out t0 b1 h2, b1_some, if_pos rfl, bad7]; rfl
  · refine ⟨-2, _, L, _, ?_, ?_, R_bad 0 (by decide) hR0⟩
    · unfold nX6_send nX6_send_j24
      rw [isThing_out v1 b2 h1, b1_some, if_pos rfl, bad6]; rfl
    · unfold nX7_send nX7_send_j26
      rw [isThing7_out t1 b2 h1, b1_some, if_pos rfl, bad7]; rfl
