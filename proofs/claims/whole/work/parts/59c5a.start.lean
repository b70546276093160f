set_option maxHeartbeats 16000000 in
set_option maxRecDepth 100000 in
theorem law_texts {p : Program} {s : State} {m : MethodId} {meth : Method} {c : Code} {b L : Nat} {xs : Nat → Int32} (C0 : lw_At p s m meth c b L xs) : ∃ (adK adV : Nat → Nat) (zt : Option Nat), k_T adK adV zt (fun q : Nat => s.heap.size ≤ q) s := by
  obtain ⟨hx, hb, hr, hml, hown, hts, hX, hbl, hlocks, hgv⟩ := C0
  have hs := flat_of_before _ hgv
  have hA : ∀ a : Nat, a < s.heap.size → ¬ (fun q : Nat => s.heap.size ≤ q) a := fun a h => Nat.not_le.mpr h
  have hex : ∀ i : Nat, i < 6 → (Cond.exactly ((fun i => Term.string "LeastNeed$Reader" (([34, 50, 56, 61, 66, 71] : List Nat).getD i 0)) i) "java/lang/String").before #[Value.ref b] s = true := fun i hi => by
    match i, hi with
    | 0, _ => exact hs (.exactly (.string "LeastNeed$Reader" 34) "java/lang/String") (by decide +kernel)
    | 1, _ => exact hs (.exactly (.string "LeastNeed$Reader" 50) "java/lang/String") (by decide +kernel)
    | 2, _ => exact hs (.exactly (.string "LeastNeed$Reader" 56) "java/lang/String") (by decide +kernel)
    | 3, _ => exact hs (.exactly (.string "LeastNeed$Reader" 61) "java/lang/String") (by decide +kernel)
    | 4, _ => exact hs (.exactly (.string "LeastNeed$Reader" 66) "java/lang/String") (by decide +kernel)
    | 5, _ => exact hs (.exactly (.string "LeastNeed$Reader" 71) "java/lang/String") (by decide +kernel)
    | k + 6, h => exact absurd h (by omega)
  have hco : ∀ i : Nat, i < 6 → (Cond.eq (.field ((fun i => Term.string "LeastNeed$Reader" (([34, 50, 56, 61, 66, 71] : List Nat).getD i 0)) i) "java/lang/String" "coder" "B") (.int 0)).before #[Value.ref b] s = true := fun i hi => by
    match i, hi with
    | 0, _ => exact hs (.eq (.field (.string "LeastNeed$Reader" 34) "java/lang/String" "coder" "B") (.int 0)) (by decide +kernel)
    | 1, _ => exact hs (.eq (.field (.string "LeastNeed$Reader" 50) "java/lang/String" "coder" "B") (.int 0)) (by decide +kernel)
    | 2, _ => exact hs (.eq (.field (.string "LeastNeed$Reader" 56) "java/lang/String" "coder" "B") (.int 0)) (by decide +kernel)
    | 3, _ => exact hs (.eq (.field (.string "LeastNeed$Reader" 61) "java/lang/String" "coder" "B") (.int 0)) (by decide +kernel)
    | 4, _ => exact hs (.eq (.field (.string "LeastNeed$Reader" 66) "java/lang/String" "coder" "B") (.int 0)) (by decide +kernel)
    | 5, _ => exact hs (.eq (.field (.string "LeastNeed$Reader" 71) "java/lang/String" "coder" "B") (.int 0)) (by decide +kernel)
    | k + 6, h => exact absurd h (by omega)
  have har : ∀ i : Nat, i < 6 → (Cond.arrayOf (.field ((fun i => Term.string "LeastNeed$Reader" (([34, 50, 56, 61, 66, 71] : List Nat).getD i 0)) i) "java/lang/String" "value" "[B") .byte).before #[Value.ref b] s = true := fun i hi => by
    match i, hi with
    | 0, _ => exact hs (.arrayOf (.field (.string "LeastNeed$Reader" 34) "java/lang/String" "value" "[B") .byte) (by decide +kernel)
    | 1, _ => exact hs (.arrayOf (.field (.string "LeastNeed$Reader" 50) "java/lang/String" "value" "[B") .byte) (by decide +kernel)
    | 2, _ => exact hs (.arrayOf (.field (.string "LeastNeed$Reader" 56) "java/lang/String" "value" "[B") .byte) (by decide +kernel)
    | 3, _ => exact hs (.arrayOf (.field (.string "LeastNeed$Reader" 61) "java/lang/String" "value" "[B") .byte) (by decide +kernel)
    | 4, _ => exact hs (.arrayOf (.field (.string "LeastNeed$Reader" 66) "java/lang/String" "value" "[B") .byte) (by decide +kernel)
    | 5, _ => exact hs (.arrayOf (.field (.string "LeastNeed$Reader" 71) "java/lang/String" "value" "[B") .byte) (by decide +kernel)
    | k + 6, h => exact absurd h (by omega)
  have hle : ∀ i : Nat, i < 6 → (Cond.eq (.length (.field ((fun i => Term.string "LeastNeed$Reader" (([34, 50, 56, 61, 66, 71] : List Nat).getD i 0)) i) "java/lang/String" "value" "[B")) (.int (Int32.ofNat (k_len.getD i 0)))).before #[Value.ref b] s = true := fun i hi => by
    match i, hi with
    | 0, _ => exact hs (.eq (.length (.field (.string "LeastNeed$Reader" 34) "java/lang/String" "value" "[B")) (.int 6)) (by decide +kernel)
    | 1, _ => exact hs (.eq (.length (.field (.string "LeastNeed$Reader" 50) "java/lang/String" "value" "[B")) (.int 6)) (by decide +kernel)
    | 2, _ => exact hs (.eq (.length (.field (.string "LeastNeed$Reader" 56) "java/lang/String" "value" "[B")) (.int 4)) (by decide +kernel)
    | 3, _ => exact hs (.eq (.length (.field (.string "LeastNeed$Reader" 61) "java/lang/String" "value" "[B")) (.int 5)) (by decide +kernel)
    | 4, _ => exact hs (.eq (.length (.field (.string "LeastNeed$Reader" 66) "java/lang/String" "value" "[B")) (.int 4)) (by decide +kernel)
    | 5, _ => exact hs (.eq (.length (.field (.string "LeastNeed$Reader" 71) "java/lang/String" "value" "[B")) (.int 4)) (by decide +kernel)
    | k + 6, h => exact absurd h (by omega)
  have hel : ∀ i : Nat, i < 6 → ∀ j : Nat, j < k_len.getD i 0 → (Cond.eq (.elem (.field ((fun i => Term.string "LeastNeed$Reader" (([34, 50, 56, 61, 66, 71] : List Nat).getD i 0)) i) "java/lang/String" "value" "[B") (.int (Int32.ofNat j))) (.int ((k_byt.getD i []).getD j 0))).before #[Value.ref b] s = true := fun i hi => by
    match i, hi with
    | 0, _ => exact (fun j hj => by
      match j, hj with
      | 0, _ => exact hs (.eq (.elem (.field (.string "LeastNeed$Reader" 34) "java/lang/String" "value" "[B") (.int 0)) (.int 118)) (by decide +kernel)
      | 1, _ => exact hs (.eq (.elem (.field (.string "LeastNeed$Reader" 34) "java/lang/String" "value" "[B") (.int 1)) (.int 97)) (by decide +kernel)
      | 2, _ => exact hs (.eq (.elem (.field (.string "LeastNeed$Reader" 34) "java/lang/String" "value" "[B") (.int 2)) (.int 108)) (by decide +kernel)
      | 3, _ => exact hs (.eq (.elem (.field (.string "LeastNeed$Reader" 34) "java/lang/String" "value" "[B") (.int 3)) (.int 108)) (by decide +kernel)
      | 4, _ => exact hs (.eq (.elem (.field (.string "LeastNeed$Reader" 34) "java/lang/String" "value" "[B") (.int 4)) (.int 101)) (by decide +kernel)
      | 5, _ => exact hs (.eq (.elem (.field (.string "LeastNeed$Reader" 34) "java/lang/String" "value" "[B") (.int 5)) (.int 121)) (by decide +kernel)
      | j + 6, h => exact absurd h (by show ¬ j + 6 < 6; omega))
    | 1, _ => exact (fun j hj => by
      match j, hj with
      | 0, _ => exact hs (.eq (.elem (.field (.string "LeastNeed$Reader" 50) "java/lang/String" "value" "[B") (.int 0)) (.int 112)) (by decide +kernel)
      | 1, _ => exact hs (.eq (.elem (.field (.string "LeastNeed$Reader" 50) "java/lang/String" "value" "[B") (.int 1)) (.int 101)) (by decide +kernel)
      | 2, _ => exact hs (.eq (.elem (.field (.string "LeastNeed$Reader" 50) "java/lang/String" "value" "[B") (.int 2)) (.int 114)) (by decide +kernel)
      | 3, _ => exact hs (.eq (.elem (.field (.string "LeastNeed$Reader" 50) "java/lang/String" "value" "[B") (.int 3)) (.int 115)) (by decide +kernel)
      | 4, _ => exact hs (.eq (.elem (.field (.string "LeastNeed$Reader" 50) "java/lang/String" "value" "[B") (.int 4)) (.int 111)) (by decide +kernel)
      | 5, _ => exact hs (.eq (.elem (.field (.string "LeastNeed$Reader" 50) "java/lang/String" "value" "[B") (.int 5)) (.int 110)) (by decide +kernel)
      | j + 6, h => exact absurd h (by show ¬ j + 6 < 6; omega))
    | 2, _ => exact (fun j hj => by
      match j, hj with
      | 0, _ => exact hs (.eq (.elem (.field (.string "LeastNeed$Reader" 56) "java/lang/String" "value" "[B") (.int 0)) (.int 99)) (by decide +kernel)
      | 1, _ => exact hs (.eq (.elem (.field (.string "LeastNeed$Reader" 56) "java/lang/String" "value" "[B") (.int 1)) (.int 111)) (by decide +kernel)
      | 2, _ => exact hs (.eq (.elem (.field (.string "LeastNeed$Reader" 56) "java/lang/String" "value" "[B") (.int 2)) (.int 97)) (by decide +kernel)
      | 3, _ => exact hs (.eq (.elem (.field (.string "LeastNeed$Reader" 56) "java/lang/String" "value" "[B") (.int 3)) (.int 116)) (by decide +kernel)
      | j + 4, h => exact absurd h (by show ¬ j + 4 < 4; omega))
    | 3, _ => exact (fun j hj => by
      match j, hj with
      | 0, _ => exact hs (.eq (.elem (.field (.string "LeastNeed$Reader" 61) "java/lang/String" "value" "[B") (.int 0)) (.int 116)) (by decide +kernel)
      | 1, _ => exact hs (.eq (.elem (.field (.string "LeastNeed$Reader" 61) "java/lang/String" "value" "[B") (.int 1)) (.int 104)) (by decide +kernel)
      | 2, _ => exact hs (.eq (.elem (.field (.string "LeastNeed$Reader" 61) "java/lang/String" "value" "[B") (.int 2)) (.int 105)) (by decide +kernel)
      | 3, _ => exact hs (.eq (.elem (.field (.string "LeastNeed$Reader" 61) "java/lang/String" "value" "[B") (.int 3)) (.int 110)) (by decide +kernel)
      | 4, _ => exact hs (.eq (.elem (.field (.string "LeastNeed$Reader" 61) "java/lang/String" "value" "[B") (.int 4)) (.int 103)) (by decide +kernel)
      | j + 5, h => exact absurd h (by show ¬ j + 5 < 5; omega))
    | 4, _ => exact (fun j hj => by
      match j, hj with
      | 0, _ => exact hs (.eq (.elem (.field (.string "LeastNeed$Reader" 66) "java/lang/String" "value" "[B") (.int 0)) (.int 108)) (by decide +kernel)
      | 1, _ => exact hs (.eq (.elem (.field (.string "LeastNeed$Reader" 66) "java/lang/String" "value" "[B") (.int 1)) (.int 111)) (by decide +kernel)
      | 2, _ => exact hs (.eq (.elem (.field (.string "LeastNeed$Reader" 66) "java/lang/String" "value" "[B") (.int 2)) (.int 115)) (by decide +kernel)
      | 3, _ => exact hs (.eq (.elem (.field (.string "LeastNeed$Reader" 66) "java/lang/String" "value" "[B") (.int 3)) (.int 101)) (by decide +kernel)
      | j + 4, h => exact absurd h (by show ¬ j + 4 < 4; omega))
    | 5, _ => exact (fun j hj => by
      match j, hj with
      | 0, _ => exact hs (.eq (.elem (.field (.string "LeastNeed$Reader" 71) "java/lang/String" "value" "[B") (.int 0)) (.int 100)) (by decide +kernel)
      | 1, _ => exact hs (.eq (.elem (.field (.string "LeastNeed$Reader" 71) "java/lang/String" "value" "[B") (.int 1)) (.int 97)) (by decide +kernel)
      | 2, _ => exact hs (.eq (.elem (.field (.string "LeastNeed$Reader" 71) "java/lang/String" "value" "[B") (.int 2)) (.int 121)) (by decide +kernel)
      | 3, _ => exact hs (.eq (.elem (.field (.string "LeastNeed$Reader" 71) "java/lang/String" "value" "[B") (.int 3)) (.int 115)) (by decide +kernel)
      | j + 4, h => exact absurd h (by show ¬ j + 4 < 4; omega))
    | k + 6, h => exact absurd h (by omega)
  have hne : ∀ i j : Nat, i < 6 → j < 6 → i ≠ j → (Cond.not (Cond.eq ((fun i => Term.string "LeastNeed$Reader" (([34, 50, 56, 61, 66, 71] : List Nat).getD i 0)) i) ((fun i => Term.string "LeastNeed$Reader" (([34, 50, 56, 61, 66, 71] : List Nat).getD i 0)) j))).before #[Value.ref b] s = true ∨ (Cond.not (Cond.eq ((fun i => Term.string "LeastNeed$Reader" (([34, 50, 56, 61, 66, 71] : List Nat).getD i 0)) j) ((fun i => Term.string "LeastNeed$Reader" (([34, 50, 56, 61, 66, 71] : List Nat).getD i 0)) i))).before #[Value.ref b] s = true := fun i j hi hj hij => by
    match i, j, hi, hj, hij with
    | 0, 0, _, _, h => exact absurd rfl h
    | 0, 1, _, _, _ => exact Or.inl (hs (.not (.eq (.string "LeastNeed$Reader" 34) (.string "LeastNeed$Reader" 50))) (by decide +kernel))
    | 0, 2, _, _, _ => exact Or.inl (hs (.not (.eq (.string "LeastNeed$Reader" 34) (.string "LeastNeed$Reader" 56))) (by decide +kernel))
    | 0, 3, _, _, _ => exact Or.inl (hs (.not (.eq (.string "LeastNeed$Reader" 34) (.string "LeastNeed$Reader" 61))) (by decide +kernel))
    | 0, 4, _, _, _ => exact Or.inl (hs (.not (.eq (.string "LeastNeed$Reader" 34) (.string "LeastNeed$Reader" 66))) (by decide +kernel))
    | 0, 5, _, _, _ => exact Or.inl (hs (.not (.eq (.string "LeastNeed$Reader" 34) (.string "LeastNeed$Reader" 71))) (by decide +kernel))
    | 1, 0, _, _, _ => exact Or.inr (hs (.not (.eq (.string "LeastNeed$Reader" 34) (.string "LeastNeed$Reader" 50))) (by decide +kernel))
    | 1, 1, _, _, h => exact absurd rfl h
    | 1, 2, _, _, _ => exact Or.inl (hs (.not (.eq (.string "LeastNeed$Reader" 50) (.string "LeastNeed$Reader" 56))) (by decide +kernel))
    | 1, 3, _, _, _ => exact Or.inl (hs (.not (.eq (.string "LeastNeed$Reader" 50) (.string "LeastNeed$Reader" 61))) (by decide +kernel))
    | 1, 4, _, _, _ => exact Or.inl (hs (.not (.eq (.string "LeastNeed$Reader" 50) (.string "LeastNeed$Reader" 66))) (by decide +kernel))
    | 1, 5, _, _, _ => exact Or.inl (hs (.not (.eq (.string "LeastNeed$Reader" 50) (.string "LeastNeed$Reader" 71))) (by decide +kernel))
    | 2, 0, _, _, _ => exact Or.inr (hs (.not (.eq (.string "LeastNeed$Reader" 34) (.string "LeastNeed$Reader" 56))) (by decide +kernel))
    | 2, 1, _, _, _ => exact Or.inr (hs (.not (.eq (.string "LeastNeed$Reader" 50) (.string "LeastNeed$Reader" 56))) (by decide +kernel))
    | 2, 2, _, _, h => exact absurd rfl h
    | 2, 3, _, _, _ => exact Or.inl (hs (.not (.eq (.string "LeastNeed$Reader" 56) (.string "LeastNeed$Reader" 61))) (by decide +kernel))
    | 2, 4, _, _, _ => exact Or.inl (hs (.not (.eq (.string "LeastNeed$Reader" 56) (.string "LeastNeed$Reader" 66))) (by decide +kernel))
    | 2, 5, _, _, _ => exact Or.inl (hs (.not (.eq (.string "LeastNeed$Reader" 56) (.string "LeastNeed$Reader" 71))) (by decide +kernel))
    | 3, 0, _, _, _ => exact Or.inr (hs (.not (.eq (.string "LeastNeed$Reader" 34) (.string "LeastNeed$Reader" 61))) (by decide +kernel))
    | 3, 1, _, _, _ => exact Or.inr (hs (.not (.eq (.string "LeastNeed$Reader" 50) (.string "LeastNeed$Reader" 61))) (by decide +kernel))
    | 3, 2, _, _, _ => exact Or.inr (hs (.not (.eq (.string "LeastNeed$Reader" 56) (.string "LeastNeed$Reader" 61))) (by decide +kernel))
    | 3, 3, _, _, h => exact absurd rfl h
    | 3, 4, _, _, _ => exact Or.inl (hs (.not (.eq (.string "LeastNeed$Reader" 61) (.string "LeastNeed$Reader" 66))) (by decide +kernel))
    | 3, 5, _, _, _ => exact Or.inl (hs (.not (.eq (.string "LeastNeed$Reader" 61) (.string "LeastNeed$Reader" 71))) (by decide +kernel))
    | 4, 0, _, _, _ => exact Or.inr (hs (.not (.eq (.string "LeastNeed$Reader" 34) (.string "LeastNeed$Reader" 66))) (by decide +kernel))
    | 4, 1, _, _, _ => exact Or.inr (hs (.not (.eq (.string "LeastNeed$Reader" 50) (.string "LeastNeed$Reader" 66))) (by decide +kernel))
    | 4, 2, _, _, _ => exact Or.inr (hs (.not (.eq (.string "LeastNeed$Reader" 56) (.string "LeastNeed$Reader" 66))) (by decide +kernel))
    | 4, 3, _, _, _ => exact Or.inr (hs (.not (.eq (.string "LeastNeed$Reader" 61) (.string "LeastNeed$Reader" 66))) (by decide +kernel))
    | 4, 4, _, _, h => exact absurd rfl h
    | 4, 5, _, _, _ => exact Or.inl (hs (.not (.eq (.string "LeastNeed$Reader" 66) (.string "LeastNeed$Reader" 71))) (by decide +kernel))
    | 5, 0, _, _, _ => exact Or.inr (hs (.not (.eq (.string "LeastNeed$Reader" 34) (.string "LeastNeed$Reader" 71))) (by decide +kernel))
    | 5, 1, _, _, _ => exact Or.inr (hs (.not (.eq (.string "LeastNeed$Reader" 50) (.string "LeastNeed$Reader" 71))) (by decide +kernel))
    | 5, 2, _, _, _ => exact Or.inr (hs (.not (.eq (.string "LeastNeed$Reader" 56) (.string "LeastNeed$Reader" 71))) (by decide +kernel))
    | 5, 3, _, _, _ => exact Or.inr (hs (.not (.eq (.string "LeastNeed$Reader" 61) (.string "LeastNeed$Reader" 71))) (by decide +kernel))
    | 5, 4, _, _, _ => exact Or.inr (hs (.not (.eq (.string "LeastNeed$Reader" 66) (.string "LeastNeed$Reader" 71))) (by decide +kernel))
    | 5, 5, _, _, h => exact absurd rfl h
    | i + 6, _, h, _, _ => exact absurd h (by omega)
    | _, j + 6, _, h, _ => exact absurd h (by omega)
  obtain ⟨adK, adV, hV, hK⟩ := vk_Sof (N := 6) (tm := (fun i => Term.string "LeastNeed$Reader" (([34, 50, 56, 61, 66, 71] : List Nat).getD i 0))) (len := k_len) (byt := k_byt) (A := fun q : Nat => s.heap.size ≤ q) (fun i hi => Nat.lt_of_le_of_lt (k_len_le i hi) (by decide)) hex hco har hle hel hne hA
  obtain ⟨v, hv, hvr⟩ := Cond.isRef_spec (hs (.isRef (.static "jdk/internal/util/Preconditions" "SIOOBE_FORMATTER" "Ljava/util/function/BiFunction;")) (by decide +kernel))
  have hvz : ∃ zt : Option Nat, v = k_vz zt := by
    cases v <;> first | exact ⟨some _, rfl⟩ | exact ⟨none, rfl⟩ | simp [Value.isRef] at hvr
  obtain ⟨zt, rfl⟩ := hvz
  refine ⟨adK, adV, zt, hV, ?_, ?_, vk_R.of (hts (.stringRef RX2 34 "valley") (by decide +kernel)) (hK 0 (by decide)), vk_R.of (hts (.stringRef RX2 50 "person") (by decide +kernel)) (hK 1 (by decide)), vk_R.of (hts (.stringRef RX2 56 "coat") (by decide +kernel)) (hK 2 (by decide)), vk_R.of (hts (.stringRef RX2 61 "thing") (by decide +kernel)) (hK 3 (by decide)), vk_R.of (hts (.stringRef RX2 66 "lose") (by decide +kernel)) (hK 4 (by decide)), vk_R.of (hts (.stringRef RX2 71 "days") (by decide +kernel)) (hK 5 (by decide))⟩
  · exact va_Zof (hts (.laysStatic "java/lang/String" "COMPACT_STRINGS" "Z") (by decide +kernel)) (hts (.initialized "java/lang/String") (by decide +kernel)) (va_eqt (hs (.eq (.static "java/lang/String" "COMPACT_STRINGS" "Z") (.int 1)) (by decide +kernel))) hA
  · exact va_Zof (hts (.laysStatic "jdk/internal/util/Preconditions" "SIOOBE_FORMATTER" "Ljava/util/function/BiFunction;") (by decide +kernel)) (hts (.initialized "jdk/internal/util/Preconditions") (by decide +kernel)) hv hA
