/-! numbers below a bound; loops; what the small checks answer -/
def pz (x : Int32) (N : Nat) : Prop := ∃ j : Nat, j < N ∧ x = nI j
theorem up_some {σ ρ : Type} (x : ρ) : (k_up (some x) : Option (σ ⊕ ρ)) = some (.inr x) := rfl
theorem b1_some {α γ : Type} (a : α) (f : α → Option γ) : k_b1 (some a) f = f a := rfl
theorem b2_some {α β γ : Type} (a : α) (b : β) (f : α → β → Option γ) : k_b2 (some (a, b)) f = f a b := rfl
theorem b3_some {α β δ γ : Type} (a : α) (b : β) (d : δ) (f : α → β → δ → Option γ) : k_b3 (some (a, b, d)) f = f a b d := rfl
theorem ok_ix {i N : Nat} (h : i < N) (hN : N < 2 ^ 31) : (nI i < 0 ∨ N ≤ (nI i).toNatClampNeg) = False := eq_false (nI_in h hN)
theorem wi_at {α : Type} (S : Nat → α) (b i : Nat) : k_wi S b i = S (b + i) := rfl
theorem sp_in {α : Type} {S V : Nat → α} {b n i : Nat} (h1 : b ≤ i) (h2 : i < b + n) : k_sp S b n V i = V (i - b) := if_pos ⟨h1, h2⟩
theorem sp_out {α : Type} {S V : Nat → α} {b n i : Nat} (h : i < b ∨ b + n ≤ i) : k_sp S b n V i = S i := if_neg (by omega)
theorem sp_wi {α : Type} {S V : Nat → α} {b n : Nat} : ∀ i, i < n → k_wi (k_sp S b n V) b i = V i := fun i hi => by
  rw [wi_at, sp_in (by omega) (by omega), Nat.add_sub_cancel_left]
theorem w_eq (S : Nat → Nat → Int32) (c k : Nat) (x : Int32) : k_w S c k x c = upd (S c) k x := if_pos rfl
theorem w_ne {S : Nat → Nat → Int32} {c i : Nat} (k : Nat) (x : Int32) (h : i ≠ c) : k_w S c k x i = S i := if_neg h
theorem w_at (S : Nat → Nat → Int32) (c k : Nat) (x : Int32) : k_w S c k x c k = x := by rw [w_eq]; exact if_pos rfl
theorem w_off {S : Nat → Nat → Int32} {c k j : Nat} (x : Int32) (h : j ≠ k) : k_w S c k x c j = S c j := by rw [w_eq]; exact if_neg h
theorem wl_eq (S : Nat → Nat → Int64) (c k : Nat) (x : Int64) : k_wl S c k x c = vp_updL (S c) k x := if_pos rfl
theorem wl_ne {S : Nat → Nat → Int64} {c i : Nat} (k : Nat) (x : Int64) (h : i ≠ c) : k_wl S c k x i = S i := if_neg h
theorem r_eq {α : Type} (S : Nat → Nat → α) (c : Nat) (f : Nat → α) : k_r S c f c = f := if_pos rfl
theorem r_ne {α : Type} {S : Nat → Nat → α} {c i : Nat} (f : Nat → α) (h : i ≠ c) : k_r S c f i = S i := if_neg h
theorem upd_at (f : Nat → Int32) (k : Nat) (x : Int32) : upd f k x k = x := if_pos rfl
theorem upd_off {f : Nat → Int32} {k j : Nat} (x : Int32) (h : j ≠ k) : upd f k x j = f j := if_neg h
/-- small numbers -/
theorem e_le {a b : Nat} (ha : a < 2 ^ 31) (hb : b < 2 ^ 31) : (nI a ≤ nI b) = (a ≤ b) := propext (nI_leI ha hb)
theorem e_lt {a b : Nat} (ha : a < 2 ^ 31) (hb : b < 2 ^ 31) : (nI a < nI b) = (a < b) := propext (nI_ltI ha hb)
theorem e_eq {a b : Nat} (ha : a < 2 ^ 31) (hb : b < 2 ^ 31) : (nI a = nI b) = (a = b) := propext (nI_eq ha hb)
theorem e_eq0 {a : Nat} (ha : a < 2 ^ 31) : (nI a = 0) = (a = 0) := by
  rw [← nI_0]; exact e_eq ha (by decide)
theorem e_ne1 {a : Nat} (ha : a < 2 ^ 31) : (nI a = -1) = False := eq_false (fun h => by
  have h1 := congrArg Int32.toInt h
  rw [nI_toInt ha, show ((-1 : Int32).toInt) = -1 from by decide] at h1
  omega)
theorem e_neg {a : Nat} (ha : a < 2 ^ 31) : (nI a < 0) = False := eq_false (nI_pos ha)
theorem if_ok {α : Type} {i N : Nat} {x y : α} (h : i < N) (hN : N < 2 ^ 31) : (if nI i < 0 ∨ N ≤ (nI i).toNatClampNeg then x else y) = y := if_neg (nI_in h hN)
theorem if_leT {α : Type} {a b : Nat} {x y : α} (h : a ≤ b) (hb : b < 2 ^ 31) : (if nI a ≤ nI b then x else y) = x := if_pos ((nI_leI (Nat.lt_of_le_of_lt h hb) hb).mpr h)
theorem if_leF {α : Type} {a b : Nat} {x y : α} (h : b < a) (ha : a < 2 ^ 31) : (if nI a ≤ nI b then x else y) = y := if_neg (fun q => absurd ((nI_leI ha (Nat.lt_trans h ha)).mp q) (Nat.not_le.mpr h))
theorem if_ltT {α : Type} {a b : Nat} {x y : α} (h : a < b) (hb : b < 2 ^ 31) : (if nI a < nI b then x else y) = x := if_pos ((nI_ltI (Nat.lt_trans h hb) hb).mpr h)
theorem if_ltF {α : Type} {a b : Nat} {x y : α} (h : b ≤ a) (ha : a < 2 ^ 31) : (if nI a < nI b then x else y) = y := if_neg (fun q => absurd ((nI_ltI ha (Nat.lt_of_le_of_lt h ha)).mp q) (Nat.not_lt.mpr h))
theorem if_eqT {α : Type} {a b : Nat} {x y : α} (h : a = b) : (if nI a = nI b then x else y) = x := if_pos (congrArg nI h)
theorem if_eqF {α : Type} {a b : Nat} {x y : α} (h : a ≠ b) (ha : a < 2 ^ 31) (hb : b < 2 ^ 31) : (if nI a = nI b then x else y) = y := if_neg (fun q => h ((nI_eq ha hb).mp q))
theorem if_n1 {α : Type} {a : Nat} {x y : α} (ha : a < 2 ^ 31) : (if nI a = -1 then x else y) = y := if_neg (fun q => cast (e_ne1 ha) q)
theorem if_z {α : Type} {a : Nat} {x y : α} (h : a ≠ 0) (ha : a < 2 ^ 31) : (if nI a = 0 then x else y) = y := if_neg (fun q => h (cast (e_eq0 ha) q))
theorem z_of {x : Int32} {N M : Nat} (h : pz x N) (hM : N ≤ M) : pz x M := by
  obtain ⟨j, h1, h2⟩ := h; exact ⟨j, by omega, h2⟩
theorem z_nI {j N : Nat} (h : j < N) : pz (nI j) N := ⟨j, h, rfl⟩
/-- a number is one of the first N exactly if it is not below 0 and below nI N -/
theorem z_iff {x : Int32} {N : Nat} (hN : N < 2 ^ 31) : pz x N ↔ ¬ x < 0 ∧ ¬ nI N ≤ x := by
  constructor
  · rintro ⟨j, h1, rfl⟩
    exact ⟨nI_pos (by omega), fun h => by rw [nI_leI hN (by omega)] at h; omega⟩
  · rintro ⟨h1, h2⟩
    obtain ⟨j, hj, rfl⟩ := nI_of h1
    rw [nI_leI hN hj] at h2
    exact ⟨j, by omega, rfl⟩
theorem upTo_in {x : Int32} {N : Nat} (hN : N < 2 ^ 31) (h : pz x N) : nX6_upTo x (nI N) = some 1 := by
  obtain ⟨h1, h2⟩ := (z_iff hN).mp h
  unfold nX6_upTo
  rw [if_neg h1, if_neg h2]
theorem upTo_out {x : Int32} {N : Nat} (hN : N < 2 ^ 31) (h : ¬ pz x N) : nX6_upTo x (nI N) = some 0 := by
  unfold nX6_upTo
  by_cases h1 : x < 0
  · rw [if_pos h1]
  · rw [if_neg h1]
    by_cases h2 : nI N ≤ x
    · rw [if_pos h2]
    · exact absurd ((z_iff hN).mpr ⟨h1, h2⟩) h
theorem cmp_lt (x y : Int64) : (lg_cmp x y < 0) = (x < y) := by
  unfold lg_cmp
  by_cases h1 : x > y
  · rw [if_pos h1]
    exact propext ⟨fun h => absurd h (by decide), fun h => absurd (Int64.lt_trans h h1) Int64.lt_irrefl⟩
  · rw [if_neg h1]
    by_cases h2 : x = y
    · rw [if_pos h2]
      exact propext ⟨fun h => absurd h (by decide), fun h => by rw [h2] at h; exact absurd h Int64.lt_irrefl⟩
    · rw [if_neg h2]
      exact propext ⟨fun _ => Int64.lt_of_le_of_ne (Int64.not_lt.mp h1) h2, fun _ => by decide⟩
theorem cmp_gt (x y : Int64) : (0 < lg_cmp x y) = (y < x) := by
  unfold lg_cmp
  by_cases h1 : x > y
  · rw [if_pos h1]
    exact propext ⟨fun _ => h1, fun _ => by decide⟩
  · rw [if_neg h1]
    by_cases h2 : x = y
    · rw [if_pos h2]
      exact propext ⟨fun h => absurd h (by decide), fun h => absurd h h1⟩
    · rw [if_neg h2]
      exact propext ⟨fun h => absurd h (by decide), fun h => absurd h h1⟩
theorem wide_lt (a b : Int32) : (a.toInt64 < b.toInt64) = (a < b) := propext (by
  rw [Int64.lt_iff_toInt_lt, Int32.lt_iff_toInt_lt, Int32.toInt_toInt64, Int32.toInt_toInt64])
/-- the check of the reference, low 0 -/
theorem in_spec (x hi : Int32) : nX7_in x.toInt64 (0 : Int64) hi.toInt64 = some (if x < 0 then 0 else if hi < x then 0 else 1) := by
  unfold nX7_in
  have e1 : (lg_cmp x.toInt64 0 < 0) = (x < 0) := by
    rw [cmp_lt, show (0 : Int64) = (0 : Int32).toInt64 from by decide, wide_lt]
  have e2 : (0 < lg_cmp x.toInt64 hi.toInt64) = (hi < x) := by rw [cmp_gt, wide_lt]
  by_cases h1 : x < 0
  · rw [if_pos (e1 ▸ h1), if_pos h1]
  · rw [if_neg (e1 ▸ h1), if_neg h1]
    by_cases h2 : hi < x
    · rw [if_pos (e2 ▸ h2), if_pos h2]
    · rw [if_neg (e2 ▸ h2), if_neg h2]
theorem in_in {x hi : Int32} {N : Nat} (hN : N < 2 ^ 31) (hh : hi = nI N - 1) (h : pz x N) : nX7_in x.toInt64 (0 : Int64) hi.toInt64 = some 1 := by
  rw [in_spec]
  obtain ⟨j, h1, rfl⟩ := h
  rw [if_neg (nI_pos (by omega)), if_neg]
  rw [hh, show nI N - 1 = nI (N - 1) from pk_sub (Nat.lt_of_le_of_lt (Nat.zero_le j) h1), nI_ltI (Nat.lt_of_le_of_lt (Nat.sub_le N 1) hN) (Nat.lt_trans h1 hN)]
  exact Nat.not_lt.mpr (Nat.le_sub_one_of_lt h1)
theorem in_out {x hi : Int32} {N : Nat} (hN : N < 2 ^ 31) (hh : hi = nI N - 1) (h : ¬ pz x N) : nX7_in x.toInt64 (0 : Int64) hi.toInt64 = some 0 := by
  rw [in_spec]
  by_cases h1 : x < 0
  · rw [if_pos h1]
  · rw [if_neg h1, if_pos]
    obtain ⟨j, hj, rfl⟩ := nI_of h1
    have hjN : N ≤ j := by
      rcases Nat.lt_or_ge j N with q | q
      · exact absurd ⟨j, q, rfl⟩ h
      · exact q
    rw [hh, Int32.lt_iff_toInt_lt, show (1 : Int32) = nI 1 from rfl, nI_toInt hj]
    rcases Nat.eq_zero_or_pos N with q | q
    · subst q
      have : (nI 0 - nI 1).toInt = -1 := by decide
      omega
    · rw [pk_sub (by omega), nI_toInt (by omega)]
      omega
