/-! choices as numbers -/
def b5F (b0 b1 b2 b3 b4 : Bool) (j : Nat) : Bool := if j = 0 then b0 else if j = 1 then b1 else if j = 2 then b2 else if j = 3 then b3 else if j = 4 then b4 else false
theorem bits_spec {x : Nat} (h : x < 32) : nX7_bits (nI x) = some (nI (cnF (btF (nI x)) 5)) := by
  have hh : ∀ x : Fin 32, nX7_bits (nI x.val) = some (nI (cnF (btF (nI x.val)) 5)) := by decide +kernel
  exact hh ⟨x, h⟩
theorem bits_low {x len : Nat} (hl : len ≤ 5) (h : x < 2 ^ len) : cnF (btF (nI x)) 5 = cnF (btF (nI x)) len := by
  have hh : ∀ l : Fin 6, ∀ x : Fin 32, x.val < 2 ^ l.val → cnF (btF (nI x.val)) 5 = cnF (btF (nI x.val)) l.val := by decide +kernel
  have h32 : x < 32 := Nat.lt_of_lt_of_le h (Nat.pow_le_pow_right (by decide) hl)
  exact hh ⟨len, by omega⟩ ⟨x, h32⟩ h
theorem bits_ex {len : Nat} (hl : len ≤ 5) (B : Nat → Bool) : ∃ x, x < 2 ^ len ∧ ∀ j, j < len → btF (nI x) j = B j := by
  have hh : ∀ l : Fin 6, ∀ b0 b1 b2 b3 b4 : Bool, ∃ x : Fin 32, x.val < 2 ^ l.val ∧ ∀ j : Fin 5, j.val < l.val → btF (nI x.val) j.val = b5F b0 b1 b2 b3 b4 j.val := by decide +kernel
  obtain ⟨x, h1, h2⟩ := hh ⟨len, by omega⟩ (B 0) (B 1) (B 2) (B 3) (B 4)
  refine ⟨x.val, h1, fun j hj => (h2 ⟨j, by omega⟩ hj).trans ?_⟩
  rcases (show j = 0 ∨ j = 1 ∨ j = 2 ∨ j = 3 ∨ j = 4 by omega) with rfl | rfl | rfl | rfl | rfl <;> rfl
theorem shl_spec {len : Nat} (hl : len ≤ 5) : (1 : Int32) <<< (nI len &&& 31) = nI (2 ^ len) := by
  have hh : ∀ l : Fin 6, (1 : Int32) <<< (nI l.val &&& 31) = nI (2 ^ l.val) := by decide +kernel
  exact hh ⟨len, by omega⟩
