/-! the tokens of a text -/
theorem nb_f {P : Prop} [d : Decidable P] (h : (!decide P) = false) : P := by
  by_cases c : P
  · exact c
  · rw [decide_eq_false c] at h; exact absurd h (by decide)
theorem nb_t {P : Prop} [d : Decidable P] (h : (!decide P) = true) : ¬ P := fun c => by
  rw [decide_eq_true c] at h; exact absurd h (by decide)
theorem bn_f {b : Bool} (h : (!b) = false) : b = true := by cases b; exact absurd h (by decide); rfl
theorem bn_t {b : Bool} (h : (!b) = true) : ¬ b = true := by cases b; decide; exact absurd h (by decide)
def lwB (x : Int32) : Bool := !decide (x < 97) && !decide (122 < x)
def fgB (x : Int32) : Bool := !decide (x < 48) && !decide (57 < x)
theorem in_gen (x lo hi : Int32) : nX7_in x.toInt64 lo.toInt64 hi.toInt64 = some (if x < lo then 0 else if hi < x then 0 else 1) := by
  unfold nX7_in
  have e1 : (lg_cmp x.toInt64 lo.toInt64 < 0) = (x < lo) := by rw [cmp_lt, wide_lt]
  have e2 : (0 < lg_cmp x.toInt64 hi.toInt64) = (hi < x) := by rw [cmp_gt, wide_lt]
  by_cases h1 : x < lo
  · rw [if_pos (e1 ▸ h1), if_pos h1]
  · rw [if_neg (e1 ▸ h1), if_neg h1]
    by_cases h2 : hi < x
    · rw [if_pos (e2 ▸ h2), if_pos h2]
    · rw [if_neg (e2 ▸ h2), if_neg h2]
theorem isLetter_spec (x : Int32) : nX2_isLetter x = some (if lwB x = true then 1 else 0) := by
  unfold nX2_isLetter lwB
  by_cases h1 : x < 97
  · rw [if_pos h1, decide_eq_true h1]; rfl
  · rw [if_neg h1, decide_eq_false h1]
    by_cases h2 : 122 < x
    · rw [if_pos h2, decide_eq_true h2]; rfl
    · rw [if_neg h2, decide_eq_false h2]; rfl
theorem isFig2_spec (x : Int32) : nX2_isFigure x = some (if fgB x = true then 1 else 0) := by
  unfold nX2_isFigure fgB
  by_cases h1 : x < 48
  · rw [if_pos h1, decide_eq_true h1]; rfl
  · rw [if_neg h1, decide_eq_false h1]
    by_cases h2 : 57 < x
    · rw [if_pos h2, decide_eq_true h2]; rfl
    · rw [if_neg h2, decide_eq_false h2]; rfl
theorem isSmall_spec (x : Int32) : nX7_isSmall x = some (if lwB x = true then 1 else 0) := by
  unfold nX7_isSmall lwB
  rw [show (97 : Int64) = (97 : Int32).toInt64 from by decide, show (122 : Int64) = (122 : Int32).toInt64 from by decide, in_gen, b1_some]
  by_cases h1 : x < 97
  · rw [if_pos h1, decide_eq_true h1]; rfl
  · rw [if_neg h1, decide_eq_false h1]
    by_cases h2 : 122 < x
    · rw [if_pos h2, decide_eq_true h2]; rfl
    · rw [if_neg h2, decide_eq_false h2]; rfl
theorem isFig7_spec (x : Int32) : nX7_isFigure x = some (if fgB x = true then 1 else 0) := by
  unfold nX7_isFigure fgB
  rw [show (48 : Int64) = (48 : Int32).toInt64 from by decide, show (57 : Int64) = (57 : Int32).toInt64 from by decide, in_gen, b1_some]
  by_cases h1 : x < 48
  · rw [if_pos h1, decide_eq_true h1]; rfl
  · rw [if_neg h1, decide_eq_false h1]
    by_cases h2 : 57 < x
    · rw [if_pos h2, decide_eq_true h2]; rfl
    · rw [if_neg h2, decide_eq_false h2]; rfl
def atF (C : Nat → Int32) (len p : Nat) : Nat := fsF (fun i => !decide (C i = 32)) (len - p) p
def kdA (C : Nat → Int32) (len a : Nat) : Nat := if a = len then 0 else if lwB (C a) = true then 1 else if fgB (C a) = true then 2 else if C a = 59 then 3 else 4
def enA (C : Nat → Int32) (len a : Nat) : Nat := if kdA C len a = 0 then a else if kdA C len a = 1 then fsF (fun i => !lwB (C i)) (len - a) a else if kdA C len a = 2 then fsF (fun i => !fgB (C i)) (len - a) a else a + 1
def tkA (C : Nat → Int32) (len a : Nat) : Nat := if kdA C len a = 2 ∧ 2 < enA C len a - a then 4 else kdA C len a
def vaA (C : Nat → Int32) (len a : Nat) : Int32 := if enA C len a - a = 2 then ((10 * (C a - 48)) + C (a + 1)) - 48 else C a - 48
def enF (C : Nat → Int32) (len p : Nat) : Nat := enA C len (atF C len p)
def tkF (C : Nat → Int32) (len p : Nat) : Nat := tkA C len (atF C len p)
def vaF (C : Nat → Int32) (len p : Nat) : Int32 := vaA C len (atF C len p)
def ckF (k : Nat) : Nat := if k = 0 then 3 else if k = 4 then 4 else k - 1
theorem kd_le (C : Nat → Int32) (len a : Nat) : kdA C len a ≤ 4 := by
  unfold kdA
  by_cases c1 : a = len
  · rw [if_pos c1]; decide
  · rw [if_neg c1]
    by_cases c2 : lwB (C a) = true
    · rw [if_pos c2]; decide
    · rw [if_neg c2]
      by_cases c3 : fgB (C a) = true
      · rw [if_pos c3]; decide
      · rw [if_neg c3]
        by_cases c4 : C a = 59
        · rw [if_pos c4]; decide
        · rw [if_neg c4]; decide
theorem tk_le (C : Nat → Int32) (len a : Nat) : tkA C len a ≤ 4 := by
  unfold tkA
  by_cases c1 : kdA C len a = 2 ∧ 2 < enA C len a - a
  · rw [if_pos c1]; decide
  · rw [if_neg c1]; exact kd_le C len a
theorem ck_all {k : Nat} (h : k ≤ 4) : ((nI (ckF k) = 0) ↔ k = 1) ∧ ((nI (ckF k) = 1) ↔ k = 2) ∧ ((nI (ckF k) = 2) ↔ k = 3) ∧ ((nI (ckF k) = 3) ↔ k = 0) := by
  have hh : ∀ k : Fin 5, ((nI (ckF k.val) = 0) ↔ k.val = 1) ∧ ((nI (ckF k.val) = 1) ↔ k.val = 2) ∧ ((nI (ckF k.val) = 2) ↔ k.val = 3) ∧ ((nI (ckF k.val) = 3) ↔ k.val = 0) := by decide +kernel
  exact hh ⟨k, by omega⟩
theorem at_le (C : Nat → Int32) {len p : Nat} (h : p ≤ len) : p ≤ atF C len p ∧ atF C len p ≤ len := by
  obtain ⟨a1, a2, -⟩ := fsF_spec (fun i => !decide (C i = 32)) (len - p) p
  exact ⟨a1, Nat.le_trans a2 (by omega)⟩
/-- a run of such bytes ends behind its first one -/
theorem run_end (B : Int32 → Bool) (C : Nat → Int32) {len a : Nat} (h : a < len) (hb : B (C a) = true) : a < fsF (fun i => !B (C i)) (len - a) a ∧ fsF (fun i => !B (C i)) (len - a) a ≤ len ∧ (∀ j, a ≤ j → j < fsF (fun i => !B (C i)) (len - a) a → B (C j) = true) ∧ (fsF (fun i => !B (C i)) (len - a) a < len → ¬ B (C (fsF (fun i => !B (C i)) (len - a) a)) = true) := by
  obtain ⟨a1, a2, a3, a4⟩ := fsF_spec (fun i => !B (C i)) (len - a) a
  obtain ⟨e, he⟩ : ∃ e, e = fsF (fun i => !B (C i)) (len - a) a := ⟨_, rfl⟩
  rw [← he] at a1 a2 a3 a4 ⊢
  refine ⟨?_, by omega, fun j h1 h2 => bn_f (a3 j h1 h2), fun h1 => bn_t (a4 (by omega))⟩
  rcases Nat.eq_or_lt_of_le a1 with q | q
  · have := bn_t (a4 (by omega))
    rw [← q] at this
    exact absurd hb this
  · exact q
theorem kd_1 {C : Nat → Int32} {len a : Nat} (h : a < len) (h1 : lwB (C a) = true) : kdA C len a = 1 := by unfold kdA; rw [if_neg (by omega), if_pos h1]
theorem kd_2 {C : Nat → Int32} {len a : Nat} (h : a < len) (h1 : ¬ lwB (C a) = true) (h2 : fgB (C a) = true) : kdA C len a = 2 := by unfold kdA; rw [if_neg (by omega), if_neg h1, if_pos h2]
theorem kd_3 {C : Nat → Int32} {len a : Nat} (h : a < len) (h1 : ¬ lwB (C a) = true) (h2 : ¬ fgB (C a) = true) (h3 : C a = 59) : kdA C len a = 3 := by unfold kdA; rw [if_neg (by omega), if_neg h1, if_neg h2, if_pos h3]
theorem kd_4 {C : Nat → Int32} {len a : Nat} (h : a < len) (h1 : ¬ lwB (C a) = true) (h2 : ¬ fgB (C a) = true) (h3 : ¬ C a = 59) : kdA C len a = 4 := by unfold kdA; rw [if_neg (by omega), if_neg h1, if_neg h2, if_neg h3]
theorem kd_0 {C : Nat → Int32} {len a : Nat} (h : a = len) : kdA C len a = 0 := by unfold kdA; rw [if_pos h]
theorem en_0 {C : Nat → Int32} {len a : Nat} (h : kdA C len a = 0) : enA C len a = a := by unfold enA; rw [if_pos h]
theorem en_1 {C : Nat → Int32} {len a : Nat} (h : kdA C len a = 1) : enA C len a = fsF (fun i => !lwB (C i)) (len - a) a := by unfold enA; rw [h, if_neg (by decide), if_pos rfl]
theorem en_2 {C : Nat → Int32} {len a : Nat} (h : kdA C len a = 2) : enA C len a = fsF (fun i => !fgB (C i)) (len - a) a := by unfold enA; rw [h, if_neg (by decide), if_neg (by decide), if_pos rfl]
theorem en_3 {C : Nat → Int32} {len a : Nat} (h : 3 ≤ kdA C len a) : enA C len a = a + 1 := by unfold enA; rw [if_neg (by omega), if_neg (by omega), if_neg (by omega)]
theorem en_le (C : Nat → Int32) {len a : Nat} (h : a ≤ len) : a ≤ enA C len a ∧ enA C len a ≤ len ∧ (a < len → a < enA C len a) := by
  rcases Nat.eq_or_lt_of_le h with q | q
  · rw [en_0 (kd_0 q)]; omega
  · by_cases c2 : lwB (C a) = true
    · have := run_end lwB C q c2
      rw [en_1 (kd_1 q c2)]; omega
    · by_cases c3 : fgB (C a) = true
      · have := run_end fgB C q c3
        rw [en_2 (kd_2 q c2 c3)]; omega
      · have h3 : 3 ≤ kdA C len a := by
          by_cases c4 : C a = 59
          · rw [kd_3 q c2 c3 c4]; decide
          · rw [kd_4 q c2 c3 c4]; decide
        rw [en_3 h3]; omega
theorem enF_le (C : Nat → Int32) {len p : Nat} (h : p ≤ len) : p ≤ enF C len p ∧ enF C len p ≤ len ∧ (tkF C len p ≠ 0 → p < enF C len p) := by
  obtain ⟨h1, h2⟩ := at_le C h
  obtain ⟨h3, h4, h5⟩ := en_le C h2
  refine ⟨Nat.le_trans h1 h3, h4, fun h6 => ?_⟩
  rcases Nat.eq_or_lt_of_le h2 with q | q
  · exact absurd (show tkF C len p = 0 by
      unfold tkF tkA
      rw [kd_0 q, if_neg (by omega)]) h6
  · have := h5 q
    unfold enF
    omega
/-! the class's reader -/
theorem X2_l85_spec {Z : Nat → Nat → Int32} {C : Nat → Int32} {len a e : Nat} (hl : len ≤ 150) (h2 : Z 0 2 = nI len) (h1 : Z 1 = C) (h5 : Z 0 5 = nI a) (he : a ≤ e) (he2 : e ≤ len) (hb : ∀ j, a ≤ j → j < e → lwB (C j) = true) (hx : e < len → ¬ lwB (C e) = true) : ∃ S', k_it (fun st => nX2_toNextToken_l85 st) 1000 Z = some S' ∧ (∀ c, c ≠ 0 → S' c = Z c) ∧ (∀ j, j ≠ 5 → S' 0 j = Z 0 j) ∧ S' 0 5 = nI e := by
  refine it_inv (fun i st => (∀ c, c ≠ 0 → st c = Z c) ∧ (∀ j, j ≠ 5 → st 0 j = Z 0 j) ∧ st 0 5 = nI (a + i)) (e - a) (by omega) (fun i st hi hv => ?_) (fun st hv => ?_) ⟨fun _ _ => rfl, fun _ _ => rfl, h5⟩
  · obtain ⟨q1, q2, q3⟩ := hv
    left
    refine ⟨k_w st 0 5 (nI (a + i + 1)), ?_, fun c hc => by rw [w_ne _ _ hc]; exact q1 c hc, fun j hj => by rw [w_off _ hj]; exact q2 j hj, by rw [w_at]; rfl⟩
    show nX2_toNextToken_l85 st = _
    unfold nX2_toNextToken_l85
    rw [q2 2 (by decide), h2, q3, if_leF (show a + i < len by omega) (by omega), if_ok (show a + i < 150 by omega) (by decide), nI_clamp (by omega), q1 1 (by decide), h1, isLetter_spec, b1_some, if_pos (hb (a + i) (by omega) (by omega)), if_neg (by decide), nI_1]
  · obtain ⟨q1, q2, q3⟩ := hv
    rw [show a + (e - a) = e by omega] at q3
    refine ⟨st, ?_, q1, q2, q3⟩
    show nX2_toNextToken_l85 st = _
    unfold nX2_toNextToken_l85
    rw [q2 2 (by decide), h2, q3]
    rcases Nat.eq_or_lt_of_le he2 with q | q
    · rw [if_leT (by omega) (by omega)]; rfl
    · rw [if_leF q (by omega), if_ok (show e < 150 by omega) (by decide), nI_clamp (by omega), q1 1 (by decide), h1, isLetter_spec, b1_some, if_neg (hx q), if_pos rfl]; rfl
theorem X2_l139_spec {Z : Nat → Nat → Int32} {C : Nat → Int32} {len a e : Nat} (hl : len ≤ 150) (h2 : Z 0 2 = nI len) (h1 : Z 1 = C) (h4 : Z 0 4 = nI a) (h5 : Z 0 5 = nI a) (he : a ≤ e) (he2 : e ≤ len) (hb : ∀ j, a ≤ j → j < e → fgB (C j) = true) (hx : e < len → ¬ fgB (C e) = true) : ∃ S', k_it (fun st => nX2_toNextToken_l139 st) 1000 Z = some S' ∧ (∀ c, c ≠ 0 → S' c = Z c) ∧ (∀ j, j ≠ 5 → j ≠ 3 → S' 0 j = Z 0 j) ∧ S' 0 5 = nI e ∧ S' 0 3 = nI (if e - a ≤ 2 then 1 else 4) := by
  refine it_inv (fun i st => (∀ c, c ≠ 0 → st c = Z c) ∧ (∀ j, j ≠ 5 → st 0 j = Z 0 j) ∧ st 0 5 = nI (a + i)) (e - a) (by omega) (fun i st hi hv => ?_) (fun st hv => ?_) ⟨fun _ _ => rfl, fun _ _ => rfl, h5⟩
  · obtain ⟨q1, q2, q3⟩ := hv
    left
    refine ⟨k_w st 0 5 (nI (a + i + 1)), ?_, fun c hc => by rw [w_ne _ _ hc]; exact q1 c hc, fun j hj => by rw [w_off _ hj]; exact q2 j hj, by rw [w_at]; rfl⟩
    show nX2_toNextToken_l139 st = _
    unfold nX2_toNextToken_l139
    rw [q2 2 (by decide), h2, q3, if_leF (show a + i < len by omega) (by omega), if_ok (show a + i < 150 by omega) (by decide), nI_clamp (by omega), q1 1 (by decide), h1, isFig2_spec, b1_some, if_pos (hb (a + i) (by omega) (by omega)), if_neg (by decide), nI_1]
  · obtain ⟨q1, q2, q3⟩ := hv
    rw [show a + (e - a) = e by omega] at q3
    have hj : ∃ S', nX2_toNextToken_j178 st = some S' ∧ (∀ c, c ≠ 0 → S' c = Z c) ∧ (∀ j, j ≠ 5 → j ≠ 3 → S' 0 j = Z 0 j) ∧ S' 0 5 = nI e ∧ S' 0 3 = nI (if e - a ≤ 2 then 1 else 4) := by
      unfold nX2_toNextToken_j178 nX2_toNextToken_j197
      rw [q3, q2 4 (by decide), h4, pk_sub he, show (2 : Int32) = nI 2 from rfl]
      by_cases c : e - a ≤ 2
      · rw [if_leT c (by decide), if_pos c]
        exact ⟨_, rfl, fun c hc => by rw [w_ne _ _ hc]; exact q1 c hc, fun j h5 h3 => by rw [w_off _ h3]; exact q2 j h5, by rw [w_off _ (by decide)]; exact q3, by rw [w_at]; rfl⟩
      · rw [if_leF (by omega) (by omega), if_neg c]
        exact ⟨_, rfl, fun c hc => by rw [w_ne _ _ hc]; exact q1 c hc, fun j h5 h3 => by rw [w_off _ h3]; exact q2 j h5, by rw [w_off _ (by decide)]; exact q3, by rw [w_at]; rfl⟩
    obtain ⟨S', e1, e2⟩ := hj
    refine ⟨S', ?_, e2⟩
    show nX2_toNextToken_l139 st = _
    unfold nX2_toNextToken_l139
    rw [q2 2 (by decide), h2, q3, e1]
    rcases Nat.eq_or_lt_of_le he2 with q | q
    · rw [if_leT (by omega) (by omega)]; rfl
    · rw [if_leF q (by omega), if_ok (show e < 150 by omega) (by decide), nI_clamp (by omega), q1 1 (by decide), h1, isFig2_spec, b1_some, if_neg (hx q), if_pos rfl]; rfl
theorem X2_j38_spec {S : Nat → Nat → Int32} {C : Nat → Int32} {len a : Nat} (hl : len ≤ 150) (h2 : S 0 2 = nI len) (h1 : S 1 = C) (h5 : S 0 5 = nI a) (ha : a ≤ len) : ∃ S', nX2_toNextToken_j38 S = some S' ∧ (∀ c, c ≠ 0 → S' c = S c) ∧ S' 0 2 = nI len ∧ S' 0 3 = nI (ckF (tkA C len a)) ∧ S' 0 4 = nI a ∧ S' 0 5 = nI (enA C len a) := by
  obtain ⟨Z, hZ⟩ : ∃ Z, Z = k_w S 0 4 (S 0 5) := ⟨_, rfl⟩
  have z2 : Z 0 2 = nI len := by rw [hZ, w_off _ (by decide)]; exact h2
  have z4 : Z 0 4 = nI a := by rw [hZ, w_at]; exact h5
  have z5 : Z 0 5 = nI a := by rw [hZ, w_off _ (by decide)]; exact h5
  have zo : ∀ c, c ≠ 0 → Z c = S c := fun c hc => by rw [hZ, w_ne _ _ hc]
  have z1 : Z 1 = C := (zo 1 (by decide)).trans h1
  unfold nX2_toNextToken_j38
  rw [← hZ, z4, z2, z1]
  rcases Nat.eq_or_lt_of_le ha with q | q
  · rw [if_ltF (by omega) (by omega)]
    refine ⟨_, rfl, fun c hc => by rw [w_ne _ _ hc]; exact zo c hc, by rw [w_off _ (by decide)]; exact z2, ?_, by rw [w_off _ (by decide)]; exact z4, ?_⟩
    · rw [w_at]
      unfold tkA
      rw [kd_0 q, if_neg (by omega)]; rfl
    · rw [w_off _ (by decide), z5, en_0 (kd_0 q)]
  · rw [if_ltT q (by omega), if_ok (show a < 150 by omega) (by decide), nI_clamp (by omega), isLetter_spec, b1_some]
    by_cases c1 : lwB (C a) = true
    · have hk := kd_1 q c1
      have hr := run_end lwB C q c1
      rw [if_pos c1, if_neg (by decide)]
      obtain ⟨S', e1, e2, e3, e4⟩ := X2_l85_spec (Z := k_w Z 0 3 0) hl (by rw [w_off _ (by decide)]; exact z2) (by rw [w_ne _ _ (by decide)]; exact z1) (by rw [w_off _ (by decide)]; exact z5) (Nat.le_of_lt hr.1) hr.2.1 hr.2.2.1 hr.2.2.2
      refine ⟨S', e1, fun c hc => by rw [e2 c hc, w_ne _ _ hc]; exact zo c hc, by rw [e3 2 (by decide), w_off _ (by decide)]; exact z2, ?_, by rw [e3 4 (by decide), w_off _ (by decide)]; exact z4, by rw [e4, en_1 hk]⟩
      rw [e3 3 (by decide), w_at]
      unfold tkA
      rw [hk, if_neg (by omega)]; rfl
    · rw [if_neg c1, if_pos rfl, if_okc (show a < 150 by omega) (by decide), isFig2_spec, b1_some]
      by_cases c2 : fgB (C a) = true
      · have hk := kd_2 q c1 c2
        have hr := run_end fgB C q c2
        rw [if_pos c2, if_neg (by decide)]
        obtain ⟨S', e1, e2, e3, e4, e5⟩ := X2_l139_spec (Z := Z) hl z2 z1 z4 z5 (Nat.le_of_lt hr.1) hr.2.1 hr.2.2.1 hr.2.2.2
        refine ⟨S', e1, fun c hc => (e2 c hc).trans (zo c hc), by rw [e3 2 (by decide) (by decide)]; exact z2, ?_, by rw [e3 4 (by decide) (by decide)]; exact z4, by rw [e4, en_2 hk]⟩
        rw [e5]
        unfold tkA
        rw [hk, en_2 hk]
        by_cases c3 : fsF (fun i => !fgB (C i)) (len - a) a - a ≤ 2
        · rw [if_pos c3, if_neg (by omega)]; rfl
        · rw [if_neg c3, if_pos ⟨rfl, by omega⟩]; rfl
      · rw [if_neg c2, if_pos rfl, if_okc (show a < 150 by omega) (by decide)]
        have fin : ∀ (w : Nat) (k : Nat), kdA C len a = k → 3 ≤ k → w = ckF k → ∃ S', nX2_toNextToken_j223 (nI w) Z = some S' ∧ (∀ c, c ≠ 0 → S' c = S c) ∧ S' 0 2 = nI len ∧ S' 0 3 = nI (ckF (tkA C len a)) ∧ S' 0 4 = nI a ∧ S' 0 5 = nI (enA C len a) := by
          intro w k hk h3 hw
          unfold nX2_toNextToken_j223
          refine ⟨_, rfl, fun c hc => by rw [w_ne _ _ hc, w_ne _ _ hc]; exact zo c hc, by rw [w_off _ (by decide), w_off _ (by decide)]; exact z2, ?_, by rw [w_off _ (by decide), w_off _ (by decide)]; exact z4, ?_⟩
          · rw [w_off _ (by decide), w_at, hw]
            unfold tkA
            rw [hk, if_neg (by omega)]
          · rw [w_at, w_off _ (by decide), z5, nI_1, en_3 (by omega)]
        by_cases c3 : C a = 59
        · rw [if_pos c3]; exact fin 2 3 (kd_3 q c1 c2 c3) (by decide) rfl
        · rw [if_neg c3]; exact fin 4 4 (kd_4 q c1 c2 c3) (by decide) rfl
/-- the reader stands at the token that begins at p or behind it -/
def cT (S : Nat → Nat → Int32) (C : Nat → Int32) (len p : Nat) : Prop := S 1 = C ∧ S 0 2 = nI len ∧ S 0 3 = nI (ckF (tkF C len p)) ∧ S 0 4 = nI (atF C len p) ∧ S 0 5 = nI (enF C len p)
theorem X2_toNextToken_spec {S : Nat → Nat → Int32} {C : Nat → Int32} {len p : Nat} (hl : len ≤ 150) (h1 : S 1 = C) (h2 : S 0 2 = nI len) (h5 : S 0 5 = nI p) (hp : p ≤ len) : ∃ S', nX2_toNextToken S = some S' ∧ (∀ c, c ≠ 0 → S' c = S c) ∧ cT S' C len p := by
  obtain ⟨a1, a2, a3, a4⟩ := fsF_spec (fun i => !decide (C i = 32)) (len - p) p
  obtain ⟨a, ha⟩ : ∃ a, a = atF C len p := ⟨_, rfl⟩
  have ha' : a = fsF (fun i => !decide (C i = 32)) (len - p) p := ha
  rw [← ha'] at a1 a2 a3 a4
  unfold nX2_toNextToken
  refine it_inv (fun i st => (∀ c, c ≠ 0 → st c = S c) ∧ st 0 2 = nI len ∧ st 0 5 = nI (p + i)) (a - p) (by omega) (fun i st hi hv => ?_) (fun st hv => ?_) ⟨fun _ _ => rfl, h2, h5⟩
  · obtain ⟨q1, q2, q3⟩ := hv
    left
    refine ⟨k_w st 0 5 (nI (p + i + 1)), ?_, fun c hc => by rw [w_ne _ _ hc]; exact q1 c hc, by rw [w_off _ (by decide)]; exact q2, by rw [w_at]; rfl⟩
    show nX2_toNextToken_l0 st = _
    unfold nX2_toNextToken_l0
    rw [q2, q3, if_leF (show p + i < len by omega) (by omega), if_ok (show p + i < 150 by omega) (by decide), nI_clamp (by omega), q1 1 (by decide), h1, if_pos (nb_f (a3 (p + i) (by omega) (by omega))), nI_1]
  · obtain ⟨q1, q2, q3⟩ := hv
    rw [show p + (a - p) = a by omega] at q3
    obtain ⟨S', e1, e2, e3, e4, e5, e6⟩ := X2_j38_spec hl q2 ((q1 1 (by decide)).trans h1) q3 (show a ≤ len by omega)
    refine ⟨S', ?_, fun c hc => (e2 c hc).trans (q1 c hc), ?_, e3, ?_, ?_, ?_⟩
    · show nX2_toNextToken_l0 st = _
      unfold nX2_toNextToken_l0
      rw [q2, q3, e1]
      rcases Nat.eq_or_lt_of_le (show a ≤ len by omega) with q | q
      · rw [if_leT (by omega) (by omega)]; rfl
      · rw [if_leF q (by omega), if_ok (show a < 150 by omega) (by decide), nI_clamp (by omega), q1 1 (by decide), h1, if_neg (nb_t (a4 (by omega)))]; rfl
    · rw [e2 1 (by decide)]; exact (q1 1 (by decide)).trans h1
    · rw [e4, ha]; rfl
    · rw [e5, ha]
    · rw [e6, ha]; rfl
theorem X2_next_spec {S : Nat → Nat → Int32} {C : Nat → Int32} {len p : Nat} (hl : len ≤ 150) (hp : p ≤ len) (h : cT S C len p) : ∃ S', nX2_toNextToken S = some S' ∧ (∀ c, c ≠ 0 → S' c = S c) ∧ cT S' C len (enF C len p) :=
  X2_toNextToken_spec hl h.1 h.2.1 h.2.2.2.2 (enF_le C hp).2.1
/-! the reference's -/
theorem it_one {σ ρ : Type} {f : σ → Option (σ ⊕ ρ)} {N : Nat} {st : σ} {x : ρ} (h : f st = some (.inr x)) : k_it f (N + 1) st = some x := by rw [k_it, h]
theorem it_two {σ ρ : Type} {f : σ → Option (σ ⊕ ρ)} {N : Nat} {st st' : σ} (h : f st = some (.inl st')) : k_it f (N + 1) st = k_it f N st' := by rw [k_it, h]
theorem X7_l218_spec {Y : Nat → Nat → Int32} {M : Nat → Nat → Int64} {C : Nat → Int32} {len a e k : Nat} (hl : len ≤ 150) (hC : ∀ i, i < len → Y 16 i = C i) (ha : a < e) (he : e ≤ len) (hk : k ≤ 4) (h19 : Y 0 19 = nI a) (h20 : Y 0 20 = nI (e - a)) (h21 : Y 0 21 = nI k) (h22 : Y 0 22 = 0) : ∃ T', k_it (fun st => nX7_lookAt_l218 st.1 st.2 M) 1000 ((0 : Int32), Y) = some T' ∧ (∀ c, c ≠ 0 → T' c = Y c) ∧ (∀ j, j ≠ 21 → j ≠ 22 → T' 0 j = Y 0 j) ∧ T' 0 21 = nI (if k = 2 ∧ 2 < e - a then 4 else k) ∧ (k = 2 → e - a ≤ 2 → T' 0 22 = if e - a = 2 then ((10 * (C a - 48)) + C (a + 1)) - 48 else C a - 48) := by
  by_cases c : k = 2
  · subst c
    have j274 : ∀ Q : Nat → Nat → Int32, (∀ c, c ≠ 0 → Q c = Y c) → (∀ j, j ≠ 21 → j ≠ 22 → Q 0 j = Y 0 j) → Q 0 21 = nI 2 → (e - a ≤ 2 → Q 0 22 = if e - a = 2 then ((10 * (C a - 48)) + C (a + 1)) - 48 else C a - 48) → ∃ T', nX7_lookAt_j274 Q M = some T' ∧ (∀ c, c ≠ 0 → T' c = Y c) ∧ (∀ j, j ≠ 21 → j ≠ 22 → T' 0 j = Y 0 j) ∧ T' 0 21 = nI (if 2 = 2 ∧ 2 < e - a then 4 else 2) ∧ (2 = 2 → e - a ≤ 2 → T' 0 22 = if e - a = 2 then ((10 * (C a - 48)) + C (a + 1)) - 48 else C a - 48) := by
      intro Q g1 g2 g3 g4
      unfold nX7_lookAt_j274
      rw [g3, if_pos (show nI 2 = 2 from rfl), g2 20 (by decide) (by decide), h20, show (2 : Int32) = nI 2 from rfl]
      by_cases c2 : e - a ≤ 2
      · rw [if_leT c2 (by decide), if_neg (by omega)]
        exact ⟨_, rfl, fun c hc => by rw [w_ne _ _ hc]; exact g1 c hc, fun j p1 p2 => by rw [w_off _ p1]; exact g2 j p1 p2, by rw [w_at], fun _ _ => by rw [w_off _ (by decide)]; exact g4 c2⟩
      · rw [if_leF (by omega) (by omega), if_pos ⟨rfl, by omega⟩]
        exact ⟨_, rfl, fun c hc => by rw [w_ne _ _ hc]; exact g1 c hc, fun j p1 p2 => by rw [w_off _ p1]; exact g2 j p1 p2, by rw [w_at]; rfl, fun _ q => absurd q c2⟩
    have s0 : nX7_lookAt_l218 0 Y M = some (.inl (nI 1, k_w Y 0 22 (C a - 48))) := by
      unfold nX7_lookAt_l218
      have hz : Y 16 a = C a := hC a (by omega)
      rw [h20, h21, h19, h22, if_le0F (show 0 < e - a by omega) (by omega), if_neg (show ¬ (2 : Int32) ≤ 0 by decide), if_pos (show nI 2 = 2 from rfl), Int32.add_zero, if_ok (show a < 150 by omega) (by decide), nI_clamp (by omega), hz, show (10 : Int32) * 0 = 0 from by decide, Int32.zero_add (C a)]
      rfl
    have hY1 : (∀ c, c ≠ 0 → k_w Y 0 22 (C a - 48) c = Y c) := fun c hc => w_ne _ _ hc
    have hY2 : ∀ j, j ≠ 21 → j ≠ 22 → k_w Y 0 22 (C a - 48) 0 j = Y 0 j := fun j _ p2 => w_off _ p2
    by_cases c1 : e - a ≤ 1
    · obtain ⟨T', e1, e2⟩ := j274 (k_w Y 0 22 (C a - 48)) hY1 hY2 (by rw [w_off _ (by decide)]; exact h21) (fun _ => by rw [w_at, if_neg (by omega)])
      have s1 : nX7_lookAt_l218 (nI 1) (k_w Y 0 22 (C a - 48)) M = some (.inr T') := by
        unfold nX7_lookAt_l218
        rw [w_off _ (show (20 : Nat) ≠ 22 by decide), h20, if_leT c1 (by decide), e1]; rfl
      refine ⟨T', ?_, e2⟩
      show k_it _ (998 + 1 + 1) _ = _
      rw [it_two s0, it_one s1]
    · obtain ⟨Y2, hY⟩ : ∃ Y2, Y2 = k_w (k_w Y 0 22 (C a - 48)) 0 22 (((10 * (C a - 48)) + C (a + 1)) - 48) := ⟨_, rfl⟩
      obtain ⟨T', e1, e2⟩ := j274 Y2 (fun c hc => by rw [hY, w_ne _ _ hc]; exact hY1 c hc) (fun j p1 p2 => by rw [hY, w_off _ p2]; exact hY2 j p1 p2) (by rw [hY, w_off _ (by decide), w_off _ (by decide)]; exact h21) (fun q => by rw [hY, w_at, if_pos (by omega)])
      have s1 : nX7_lookAt_l218 (nI 1) (k_w Y 0 22 (C a - 48)) M = some (.inl (nI 2, Y2)) := by
        unfold nX7_lookAt_l218
        have hz : k_w Y 0 22 (C a - 48) 16 (a + 1) = C (a + 1) := by rw [w_ne _ _ (by decide)]; exact hC (a + 1) (by omega)
        rw [w_off _ (show (20 : Nat) ≠ 22 by decide), w_off _ (show (21 : Nat) ≠ 22 by decide), w_off _ (show (19 : Nat) ≠ 22 by decide), w_at, h20, h21, h19, if_leF (show 1 < e - a by omega) (by omega), if_neg (by decide), if_pos (show nI 2 = 2 from rfl), nI_add, if_ok (show a + 1 < 150 by omega) (by decide), nI_clamp (by omega), hz, ← hY]
        rfl
      have s2 : nX7_lookAt_l218 (nI 2) Y2 M = some (.inr T') := by
        unfold nX7_lookAt_l218
        have h20' : Y2 0 20 = nI (e - a) := by rw [hY, w_off _ (by decide), w_off _ (by decide)]; exact h20
        rw [h20', e1]
        by_cases c3 : e - a ≤ 2
        · rw [if_leT c3 (by decide)]; rfl
        · rw [if_leF (by omega) (by omega), if_pos (by decide)]; rfl
      refine ⟨T', ?_, e2⟩
      show k_it _ (997 + 1 + 1 + 1) _ = _
      rw [it_two s0, it_two s1, it_one s2]
  · have hne : ¬ nI k = 2 := fun q => c ((nI_eq (show k < 2 ^ 31 by omega) (show 2 < 2 ^ 31 by decide)).mp q)
    have s0 : nX7_lookAt_l218 0 Y M = some (.inr (k_w Y 0 21 (nI k))) := by
      unfold nX7_lookAt_l218 nX7_lookAt_j274
      rw [h20, h21, show (0 : Int32) = nI 0 from rfl, if_leF (show 0 < e - a by omega) (by omega), if_neg (by decide), if_neg hne, if_neg hne]; rfl
    refine ⟨k_w Y 0 21 (nI k), ?_, fun c hc => w_ne _ _ hc, fun j p1 _ => w_off _ p1, by rw [w_at, if_neg (by omega)], fun q => absurd q c⟩
    show k_it _ (999 + 1) _ = _
    rw [it_one s0]
theorem X7_l136_spec {Y : Nat → Nat → Int32} {M : Nat → Nat → Int64} {C : Nat → Int32} {len a e k : Nat} {x : Int32} (hl : len ≤ 150) (hC : ∀ i, i < len → Y 16 i = C i) (ha : a < e) (he : e ≤ len) (hk : k ≤ 4) (h18 : Y 0 18 = nI len) (h19 : Y 0 19 = nI a) (h20 : Y 0 20 = nI 1) (h21 : Y 0 21 = nI k) (h22 : Y 0 22 = 0) (hx : (x = 1 ∧ (∀ j, a ≤ j → j < e → (if k = 1 then lwB (C j) else fgB (C j)) = true) ∧ (e < len → ¬ (if k = 1 then lwB (C e) else fgB (C e)) = true)) ∨ (x = 0 ∧ e = a + 1)) : ∃ T', k_it (fun st => nX7_lookAt_l136 st.1 st.2 M) 1000 (x, Y) = some T' ∧ (∀ c, c ≠ 0 → T' c = Y c) ∧ T' 0 18 = nI len ∧ T' 0 19 = nI a ∧ T' 0 20 = nI (e - a) ∧ T' 0 21 = nI (if k = 2 ∧ 2 < e - a then 4 else k) ∧ (k = 2 → e - a ≤ 2 → T' 0 22 = if e - a = 2 then ((10 * (C a - 48)) + C (a + 1)) - 48 else C a - 48) := by
  have ex : ∀ Q : Nat → Nat → Int32, (∀ c, c ≠ 0 → Q c = Y c) → (∀ j, j ≠ 20 → Q 0 j = Y 0 j) → Q 0 20 = nI (e - a) → ∃ T', k_it (fun st => nX7_lookAt_l218 st.1 st.2 M) 1000 ((0 : Int32), Q) = some T' ∧ (∀ c, c ≠ 0 → T' c = Y c) ∧ T' 0 18 = nI len ∧ T' 0 19 = nI a ∧ T' 0 20 = nI (e - a) ∧ T' 0 21 = nI (if k = 2 ∧ 2 < e - a then 4 else k) ∧ (k = 2 → e - a ≤ 2 → T' 0 22 = if e - a = 2 then ((10 * (C a - 48)) + C (a + 1)) - 48 else C a - 48) := by
    intro Q g1 g2 g3
    obtain ⟨T', e1, e2, e3, e4, e5⟩ := X7_l218_spec (M := M) (Y := Q) (C := C) hl (fun i hi => by rw [g1 16 (by decide)]; exact hC i hi) ha he hk (by rw [g2 19 (by decide)]; exact h19) g3 (by rw [g2 21 (by decide)]; exact h21) (by rw [g2 22 (by decide)]; exact h22)
    exact ⟨T', e1, fun c hc => (e2 c hc).trans (g1 c hc), by rw [e3 18 (by decide) (by decide), g2 18 (by decide)]; exact h18, by rw [e3 19 (by decide) (by decide), g2 19 (by decide)]; exact h19, by rw [e3 20 (by decide) (by decide)]; exact g3, e4, e5⟩
  rcases hx with ⟨hx1, hB, hE⟩ | ⟨hx1, hx2⟩
  · refine it_inv (fun i st => (∀ c, c ≠ 0 → st.2 c = Y c) ∧ (∀ j, j ≠ 20 → st.2 0 j = Y 0 j) ∧ ((st.1 = 1 ∧ st.2 0 20 = nI (1 + i) ∧ a + 1 + i ≤ e) ∨ (st.1 = 0 ∧ st.2 0 20 = nI (e - a)))) 152 (by decide) (fun i st hi hv => ?_) (fun st hv => ?_) ⟨fun _ _ => rfl, fun _ _ => rfl, Or.inl ⟨hx1, h20, by omega⟩⟩
    · obtain ⟨y, Q⟩ := st
      obtain ⟨g1, g2, g3⟩ := hv
      have g1 : ∀ c, c ≠ 0 → Q c = Y c := g1
      have g2 : ∀ j, j ≠ 20 → Q 0 j = Y 0 j := g2
      rcases g3 with ⟨f1, f2, f3⟩ | ⟨f1, f2⟩
      · have f1 : y = 1 := f1
        have f2 : Q 0 20 = nI (1 + i) := f2
        rcases Nat.eq_or_lt_of_le (show a + (1 + i) ≤ len by omega) with q | q
        · right
          obtain ⟨T', e1, e2⟩ := ex Q g1 g2 (by rw [f2]; exact congrArg nI (by omega))
          refine ⟨T', ?_, e2⟩
          show nX7_lookAt_l136 y Q M = _
          unfold nX7_lookAt_l136
          rw [f1, if_neg (by decide), g2 18 (by decide), h18, g2 19 (by decide), h19, f2, nI_add, if_leT (by omega) (by omega), e1]; rfl
        · left
          have hc : Q 16 (a + (1 + i)) = C (a + (1 + i)) := by rw [g1 16 (by decide)]; exact hC _ q
          have hgo : ∀ b : Bool, b = (if k = 1 then lwB (C (a + (1 + i))) else fgB (C (a + (1 + i)))) → ∃ st', nX7_lookAt_i136_j193 (if b = true then 1 else 0) Q M = some (.inl st') ∧ (∀ c, c ≠ 0 → st'.2 c = Y c) ∧ (∀ j, j ≠ 20 → st'.2 0 j = Y 0 j) ∧ ((st'.1 = 1 ∧ st'.2 0 20 = nI (1 + (i + 1)) ∧ a + 1 + (i + 1) ≤ e) ∨ (st'.1 = 0 ∧ st'.2 0 20 = nI (e - a))) := by
            intro b hb
            unfold nX7_lookAt_i136_j193
            by_cases cb : b = true
            · rw [if_pos cb, if_neg (by decide), f2, nI_1]
              refine ⟨_, rfl, fun c hc => by show k_w Q 0 20 _ c = _; rw [w_ne _ _ hc]; exact g1 c hc, fun j hj => by show k_w Q 0 20 _ 0 j = _; rw [w_off _ hj]; exact g2 j hj, Or.inl ⟨rfl, by show k_w Q 0 20 _ 0 20 = _; rw [w_at]; rfl, ?_⟩⟩
              rcases Nat.lt_or_ge (a + (1 + i)) e with r | r
              · omega
              · have hee : a + (1 + i) = e := by omega
                rw [hee] at hb
                have := hE (by omega)
                rw [← hb] at this
                exact absurd cb this
            · rw [if_neg cb, if_pos rfl, f2]
              refine ⟨_, rfl, fun c hc => by show k_w Q 0 20 _ c = _; rw [w_ne _ _ hc]; exact g1 c hc, fun j hj => by show k_w Q 0 20 _ 0 j = _; rw [w_off _ hj]; exact g2 j hj, Or.inr ⟨rfl, ?_⟩⟩
              show k_w Q 0 20 _ 0 20 = _
              rw [w_at, Int32.add_zero]
              rcases Nat.lt_or_ge (a + (1 + i)) e with r | r
              · have := hB (a + (1 + i)) (by omega) r
                rw [← hb] at this
                exact absurd this cb
              · exact congrArg nI (by omega)
          show ∃ st', nX7_lookAt_l136 y Q M = _ ∧ _
          unfold nX7_lookAt_l136
          rw [f1, if_neg (by decide), g2 18 (by decide), h18, g2 19 (by decide), h19, f2, nI_add, if_leF q (by omega), if_ok (show a + (1 + i) < 150 by omega) (by decide), nI_clamp (by omega), g2 21 (by decide), h21, hc]
          by_cases ck : k = 1
          · rw [if_pos (show nI k = 1 by rw [ck]; rfl), isSmall_spec, b1_some]
            exact hgo _ (by rw [if_pos ck])
          · rw [if_neg (show ¬ nI k = 1 from fun q => ck ((nI_eq (show k < 2 ^ 31 by omega) (show 1 < 2 ^ 31 by decide)).mp q)), isFig7_spec, b1_some]
            exact hgo _ (by rw [if_neg ck])
      · right
        have f1 : y = 0 := f1
        obtain ⟨T', e1, e2⟩ := ex Q g1 g2 f2
        refine ⟨T', ?_, e2⟩
        show nX7_lookAt_l136 y Q M = _
        unfold nX7_lookAt_l136
        rw [f1, if_pos rfl, e1]; rfl
    · obtain ⟨y, Q⟩ := st
      obtain ⟨g1, g2, g3⟩ := hv
      rcases g3 with ⟨f1, f2, f3⟩ | ⟨f1, f2⟩
      · omega
      · have f1 : y = 0 := f1
        obtain ⟨T', e1, e2⟩ := ex Q g1 g2 f2
        refine ⟨T', ?_, e2⟩
        show nX7_lookAt_l136 y Q M = _
        unfold nX7_lookAt_l136
        rw [f1, if_pos rfl, e1]; rfl
  · obtain ⟨T', e1, e2⟩ := ex Y (fun _ _ => rfl) (fun _ _ => rfl) (by rw [h20]; exact congrArg nI (by omega))
    refine ⟨T', ?_, e2⟩
    show k_it _ (999 + 1) _ = _
    refine it_one ?_
    show nX7_lookAt_l136 x Y M = _
    unfold nX7_lookAt_l136
    rw [hx1, if_pos rfl, e1]; rfl
theorem X7_j43_spec {T : Nat → Nat → Int32} {M : Nat → Nat → Int64} {C : Nat → Int32} {len a : Nat} (hl : len ≤ 150) (h18 : T 0 18 = nI len) (hC : ∀ i, i < len → T 16 i = C i) (h19 : T 0 19 = nI a) (ha : a ≤ len) : ∃ T', nX7_lookAt_j43 T M = some T' ∧ (∀ c, c ≠ 0 → T' c = T c) ∧ T' 0 18 = nI len ∧ T' 0 19 = nI a ∧ T' 0 20 = nI (enA C len a - a) ∧ T' 0 21 = nI (tkA C len a) ∧ (tkA C len a = 2 → T' 0 22 = vaA C len a) := by
  obtain ⟨Z, hZ⟩ : ∃ Z, Z = k_w (k_w (k_w T 0 20 0) 0 21 0) 0 22 0 := ⟨_, rfl⟩
  have z18 : Z 0 18 = nI len := by rw [hZ, w_off _ (by decide), w_off _ (by decide), w_off _ (by decide)]; exact h18
  have z19 : Z 0 19 = nI a := by rw [hZ, w_off _ (by decide), w_off _ (by decide), w_off _ (by decide)]; exact h19
  have z20 : Z 0 20 = 0 := by rw [hZ, w_off _ (by decide), w_off _ (by decide), w_at]
  have z21 : Z 0 21 = 0 := by rw [hZ, w_off _ (by decide), w_at]
  have z22 : Z 0 22 = 0 := by rw [hZ, w_at]
  have zo : ∀ c, c ≠ 0 → Z c = T c := fun c hc => by rw [hZ, w_ne _ _ hc, w_ne _ _ hc, w_ne _ _ hc]
  unfold nX7_lookAt_j43
  rw [← hZ, z19, z18]
  rcases Nat.eq_or_lt_of_le ha with q | q
  · rw [if_eqT q]
    refine ⟨Z, rfl, zo, z18, z19, ?_, ?_, fun h => ?_⟩
    · rw [z20, en_0 (kd_0 q), Nat.sub_self]; rfl
    · unfold tkA
      rw [z21, kd_0 q, if_neg (by omega)]; rfl
    · unfold tkA at h
      rw [kd_0 q, if_neg (by omega)] at h
      omega
  · rw [if_eqF (by omega) (by omega) (by omega), if_ok (show a < 150 by omega) (by decide), nI_clamp (by omega), show Z 16 a = C a from by rw [zo 16 (by decide)]; exact hC a q, isSmall_spec, b1_some]
    have hel := en_le C ha
    have go : ∀ k : Nat, kdA C len a = k → k ≤ 4 → 1 ≤ k → (k < 3 → (∀ j, a ≤ j → j < enA C len a → (if k = 1 then lwB (C j) else fgB (C j)) = true) ∧ (enA C len a < len → ¬ (if k = 1 then lwB (C (enA C len a)) else fgB (C (enA C len a))) = true)) → ∃ T', nX7_lookAt_j114 (nI k) Z M = some T' ∧ (∀ c, c ≠ 0 → T' c = T c) ∧ T' 0 18 = nI len ∧ T' 0 19 = nI a ∧ T' 0 20 = nI (enA C len a - a) ∧ T' 0 21 = nI (tkA C len a) ∧ (tkA C len a = 2 → T' 0 22 = vaA C len a) := by
      intro k hk hk4 hk1 hrun
      obtain ⟨Y, hY⟩ : ∃ Y, Y = k_w (k_w Z 0 21 (nI k)) 0 20 1 := ⟨_, rfl⟩
      have y18 : Y 0 18 = nI len := by rw [hY, w_off _ (by decide), w_off _ (by decide)]; exact z18
      have y19 : Y 0 19 = nI a := by rw [hY, w_off _ (by decide), w_off _ (by decide)]; exact z19
      have y20 : Y 0 20 = nI 1 := by rw [hY, w_at]; rfl
      have y21 : Y 0 21 = nI k := by rw [hY, w_off _ (by decide), w_at]
      have y22 : Y 0 22 = 0 := by rw [hY, w_off _ (by decide), w_off _ (by decide)]; exact z22
      have yo : ∀ c, c ≠ 0 → Y c = T c := fun c hc => by rw [hY, w_ne _ _ hc, w_ne _ _ hc]; exact zo c hc
      have yC : ∀ i, i < len → Y 16 i = C i := fun i hi => by rw [yo 16 (by decide)]; exact hC i hi
      have fin : ∀ x : Int32, ((x = 1 ∧ (∀ j, a ≤ j → j < enA C len a → (if k = 1 then lwB (C j) else fgB (C j)) = true) ∧ (enA C len a < len → ¬ (if k = 1 then lwB (C (enA C len a)) else fgB (C (enA C len a))) = true)) ∨ (x = 0 ∧ enA C len a = a + 1)) → ∃ T', k_it (fun st => nX7_lookAt_l136 st.1 st.2 M) 1000 (x, Y) = some T' ∧ (∀ c, c ≠ 0 → T' c = T c) ∧ T' 0 18 = nI len ∧ T' 0 19 = nI a ∧ T' 0 20 = nI (enA C len a - a) ∧ T' 0 21 = nI (tkA C len a) ∧ (tkA C len a = 2 → T' 0 22 = vaA C len a) := by
        intro x hx
        obtain ⟨T', e1, e2, e3, e4, e5, e6, e7⟩ := X7_l136_spec (M := M) hl yC (hel.2.2 q) hel.2.1 hk4 y18 y19 y20 y21 y22 hx
        refine ⟨T', e1, fun c hc => (e2 c hc).trans (yo c hc), e3, e4, e5, ?_, fun h => ?_⟩
        · unfold tkA
          rw [hk]; exact e6
        · unfold tkA at h
          rw [hk] at h
          unfold vaA
          by_cases c : k = 2 ∧ 2 < enA C len a - a
          · rw [if_pos c] at h; omega
          · rw [if_neg c] at h
            exact e7 h (by omega)
      unfold nX7_lookAt_j114
      rw [← hY, y21, show (3 : Int32) = nI 3 from rfl]
      rcases Nat.lt_or_ge k 3 with r | r
      · rw [if_leF r (by decide)]
        exact fin 1 (Or.inl ⟨rfl, hrun r⟩)
      · rw [if_leT r (by omega)]
        exact fin 0 (Or.inr ⟨rfl, en_3 (by omega)⟩)
    by_cases c1 : lwB (C a) = true
    · rw [if_pos c1, if_neg (by decide)]
      have hk := kd_1 q c1
      have hr := run_end lwB C q c1
      refine go 1 hk (by decide) (by decide) (fun _ => ?_)
      rw [en_1 hk]
      exact ⟨fun j h1 h2 => by rw [if_pos rfl]; exact hr.2.2.1 j h1 h2, fun h1 => by rw [if_pos rfl]; exact hr.2.2.2 h1⟩
    · rw [if_neg c1, if_pos rfl, isFig7_spec, b1_some]
      by_cases c2 : fgB (C a) = true
      · rw [if_pos c2, if_neg (by decide)]
        have hk := kd_2 q c1 c2
        have hr := run_end fgB C q c2
        refine go 2 hk (by decide) (by decide) (fun _ => ?_)
        rw [en_2 hk]
        exact ⟨fun j h1 h2 => by rw [if_neg (by decide)]; exact hr.2.2.1 j h1 h2, fun h1 => by rw [if_neg (by decide)]; exact hr.2.2.2 h1⟩
      · rw [if_neg c2, if_pos rfl]
        by_cases c3 : C a = 59
        · rw [if_pos c3]; exact go 3 (kd_3 q c1 c2 c3) (by decide) (by decide) (fun h => absurd h (by decide))
        · rw [if_neg c3]; exact go 4 (kd_4 q c1 c2 c3) (by decide) (by decide) (fun h => absurd h (by decide))
def rT (T : Nat → Nat → Int32) (C : Nat → Int32) (len p : Nat) : Prop := T 0 18 = nI len ∧ (∀ i, i < len → T 16 i = C i) ∧ T 0 19 = nI (atF C len p) ∧ T 0 20 = nI (enF C len p - atF C len p) ∧ T 0 21 = nI (tkF C len p) ∧ (tkF C len p = 2 → T 0 22 = vaF C len p)
theorem X7_lookAt_spec {T : Nat → Nat → Int32} {M : Nat → Nat → Int64} {C : Nat → Int32} {len p : Nat} (hl : len ≤ 150) (h18 : T 0 18 = nI len) (hC : ∀ i, i < len → T 16 i = C i) (hp : p ≤ len) : ∃ T', nX7_lookAt T M (nI p) = some T' ∧ (∀ c, c ≠ 0 → T' c = T c) ∧ rT T' C len p := by
  obtain ⟨a1, a2, a3, a4⟩ := fsF_spec (fun i => !decide (C i = 32)) (len - p) p
  obtain ⟨a, ha⟩ : ∃ a, a = atF C len p := ⟨_, rfl⟩
  have ha' : a = fsF (fun i => !decide (C i = 32)) (len - p) p := ha
  rw [← ha'] at a1 a2 a3 a4
  unfold nX7_lookAt
  refine it_inv (fun i st => (∀ c, c ≠ 0 → st c = T c) ∧ st 0 18 = nI len ∧ st 0 19 = nI (p + i)) (a - p) (by omega) (fun i st hi hv => ?_) (fun st hv => ?_) ⟨fun c hc => w_ne _ _ hc, by rw [w_off _ (by decide)]; exact h18, by rw [w_at]; rfl⟩
  · obtain ⟨q1, q2, q3⟩ := hv
    left
    refine ⟨k_w st 0 19 (nI (p + i + 1)), ?_, fun c hc => by rw [w_ne _ _ hc]; exact q1 c hc, by rw [w_off _ (by decide)]; exact q2, by rw [w_at]; rfl⟩
    show nX7_lookAt_l5 st M = _
    unfold nX7_lookAt_l5
    rw [q2, q3, if_leF (show p + i < len by omega) (by omega), if_ok (show p + i < 150 by omega) (by decide), nI_clamp (by omega), q1 16 (by decide), hC (p + i) (by omega), if_pos (nb_f (a3 (p + i) (by omega) (by omega))), nI_1]
  · obtain ⟨q1, q2, q3⟩ := hv
    rw [show p + (a - p) = a by omega] at q3
    have hC' : ∀ i, i < len → st 16 i = C i := fun i hi => by rw [q1 16 (by decide)]; exact hC i hi
    obtain ⟨T', e1, e2, e3, e4, e5, e6, e7⟩ := X7_j43_spec (M := M) hl q2 hC' q3 (show a ≤ len by omega)
    refine ⟨T', ?_, fun c hc => (e2 c hc).trans (q1 c hc), e3, fun i hi => by rw [e2 16 (by decide)]; exact hC' i hi, ?_, ?_, ?_, ?_⟩
    · show nX7_lookAt_l5 st M = _
      unfold nX7_lookAt_l5
      rw [q2, q3, e1]
      rcases Nat.eq_or_lt_of_le (show a ≤ len by omega) with q | q
      · rw [if_leT (by omega) (by omega)]; rfl
      · rw [if_leF q (by omega), if_ok (show a < 150 by omega) (by decide), nI_clamp (by omega), hC' a q, if_neg (nb_t (a4 (by omega)))]; rfl
    · rw [e4, ha]
    · rw [e5, ha]; rfl
    · rw [e6, ha]; rfl
    · intro h
      have h' : tkA C len a = 2 := by rw [ha]; exact h
      rw [e7 h', ha]; rfl
theorem X7_goBehind_spec {T : Nat → Nat → Int32} {M : Nat → Nat → Int64} {C : Nat → Int32} {len p : Nat} (hl : len ≤ 150) (hp : p ≤ len) (h : rT T C len p) : ∃ T', nX7_goBehind T M = some T' ∧ (∀ c, c ≠ 0 → T' c = T c) ∧ rT T' C len (enF C len p) := by
  obtain ⟨h18, hC, h19, h20, -⟩ := h
  obtain ⟨b1, b2⟩ := at_le C hp
  have b3 := en_le C b2
  have e : atF C len p + (enF C len p - atF C len p) = enF C len p := by
    unfold enF; omega
  obtain ⟨T', e1, e2, e3⟩ := X7_lookAt_spec (M := M) hl h18 hC (enF_le C hp).2.1
  refine ⟨T', ?_, e2, e3⟩
  unfold nX7_goBehind
  rw [h19, h20, nI_add, e, e1, b1_some]
