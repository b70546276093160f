set_option maxHeartbeats 8000000 in
set_option maxRecDepth 100000 in
theorem mIX2 (l : Launch) (D : va_G) (cs : Nat → ClassId) (h0 : Nat) (sz : Nat) : Met l yX2_init wsX2_init ({ frames := 1, cells := 2, slots := 156, locals := 12 }) (k_Pc D cs [.ref h0] [(h0, .inr (1, [.null, .null, .int 0, .int 0, .int 0, .int 0]))] sz) (va_Qv (S := Nat → Nat) (fun a => a 0 = h0) (fun a t => va_P D vwCl (wX2 cs a k_z) t.heap ∧ va_D (va_A [(h0, .inr (1, [.null, .null, .int 0, .int 0, .int 0, .int 0]))] sz) (wX2 cs a k_z)) (va_A [(h0, .inr (1, [.null, .null, .int 0, .int 0, .int 0, .int 0]))] sz)) 2 (156) (va_A [(h0, .inr (1, [.null, .null, .int 0, .int 0, .int 0, .int 0]))] sz) := by
  refine Met.ofW (cc := cX2_init) (maxL := 1) (ret := none) (by decide) rfl ?_
  intro p e s m args below meth c s₁ B hml hv
  obtain ⟨rfl, hsz, hP, hK, hD0, hNn⟩ := hv
  have hx := B.exec
  have hb := B.bytes
  have hr := B.returns
  have hts := atoms_spec (ws := wsX2_init) B.pre
  have hown : s.vm.findClass RX2 = some m.cls := findClass_of_methodNamed B.named
  have hlocks := B.notSynchronized
  have hin : meth.name = "<init>" := (name_of_methodNamed B.named B.method).1
  subst hsz
  have hD := hD0.self (sz := s.heap.size)
  generalize hAe : va_A [(h0, .inr (1, [.null, .null, .int 0, .int 0, .int 0, .int 0]))] s.heap.size = A at hD ⊢
  have hA : ∀ q : Nat, s.heap.size ≤ q → A q := fun q h => by rw [← hAe]; exact Or.inr h
  have hS : va_S A s.heap s.heap [] := va_S.rf
  have hP : va_P D vwCl [(h0, .inr (1, [.null, .null, .int 0, .int 0, .int 0, .int 0]))] s.heap := hP
  have hl := lv_entry ([.ref h0]) (n := 1) (Nat.le_of_ble_eq_true rfl)
  rw [lg_entry_eq]
  generalize (lg_sl ([.ref h0]) ++ List.replicate (1 - (lg_sl ([.ref h0])).length) Slot.unset).toArray = ls at hl ⊢
  have hl : lv_has ls 1 [(0, .ref h0)] := hl
  have hP := hP
  refine lv_aload_n hx hb dX2_init_0 rfl (lv_at hl 0 rfl) ?_
  refine W.objInit hx hb hown (hts (.methodLink RX2 3 objectInit) (List.mem_of_getElem? (i := 1) rfl)) (hts (.instanceMethod objectInit) (List.mem_of_getElem? (i := 2) rfl)) (hts _ (List.mem_of_getElem? (i := 3) rfl)) rfl (by rw [hml]; exact hl.1) rfl dX2_init_1 (Nat.le_of_ble_eq_true rfl) (Nat.le_of_ble_eq_true rfl) ?_
  refine W.eq (g2 := F0 m 4 ls []) rfl ?_
  refine lv_aload_n hx hb dX2_init_4 rfl (lv_at hl 0 rfl) ?_
  refine lv_sipush (v := (150 : Int32)) hx hb dX2_init_5 (by decide) ?_
  refine k_newa (a0 := (150, .inl (fun _ => 0))) (N' := 150) (atype := .char) hx hb (hts (.arrayClass .char) (List.mem_of_getElem? (i := 4) rfl)) (ty := .char) rfl hK hP hD hS hA 0 rfl (fun _ => rfl) (by decide) (by rfl) (by decide) (Nat.le_of_ble_eq_true rfl) (Nat.le_of_ble_eq_true rfl) dX2_init_8 (fun q8 H hP hD hS => ?_)
  have hP : va_P D vwCl [(h0, .inr (1, [.null, .null, .int 0, .int 0, .int 0, .int 0])), (q8, .inl (cs 0, 150, .inl (fun _ => 0)))] _ := hP
  have hD : va_D A [(h0, .inr (1, [.null, .null, .int 0, .int 0, .int 0, .int 0])), (q8, .inl (cs 0, 150, .inl (fun _ => 0)))] := hD
  refine W.widen (k := 1) (n := 150) (by omega) (by omega) ?_
  refine va_putF (D := D) (ci := 1) (v := .ref q8) (ty := (tyX2 0)) (C := RX2) (T := TX2) (N := 6) hx hb hts (fun w h => List.mem_cons_of_mem _ (List.mem_append_right _ h)) tyX2 tyX2_ok nmX2 hown hK hP hD hS 0 rfl rfl 0 (by decide) (hts (.fieldLink RX2 9 "LeastNeed$Reader" "text" "[C") (List.mem_of_getElem? (i := 5) rfl)) (fun _ h9 => h9) rfl hin rfl (by decide +kernel) rfl rfl (Nat.le_of_ble_eq_true rfl) dX2_init_10 (fun H locs hP hD hS => ?_)
  have hP : va_P D vwCl [(h0, .inr (1, [.ref q8, .null, .int 0, .int 0, .int 0, .int 0])), (q8, .inl (cs 0, 150, .inl (fun _ => 0)))] _ := hP
  have hD : va_D A [(h0, .inr (1, [.ref q8, .null, .int 0, .int 0, .int 0, .int 0])), (q8, .inl (cs 0, 150, .inl (fun _ => 0)))] := hD
  refine lv_aload_n hx hb dX2_init_13 rfl (lv_at hl 0 rfl) ?_
  refine lv_bipush (v := (6 : Int32)) hx hb dX2_init_14 (by decide) ?_
  refine k_newa (a0 := (6, .inl (fun _ => 0))) (N' := 6) (atype := .int) hx hb (hts (.arrayClass .int) (List.mem_of_getElem? (i := 6) rfl)) (ty := .int) rfl hK hP hD hS hA 1 rfl (fun _ => rfl) (by decide) (by rfl) (by decide) (Nat.le_of_ble_eq_true rfl) (Nat.le_of_ble_eq_true rfl) dX2_init_16 (fun q16 H hP hD hS => ?_)
  have hP : va_P D vwCl [(h0, .inr (1, [.ref q8, .null, .int 0, .int 0, .int 0, .int 0])), (q8, .inl (cs 0, 150, .inl (fun _ => 0))), (q16, .inl (cs 1, 6, .inl (fun _ => 0)))] _ := hP
  have hD : va_D A [(h0, .inr (1, [.ref q8, .null, .int 0, .int 0, .int 0, .int 0])), (q8, .inl (cs 0, 150, .inl (fun _ => 0))), (q16, .inl (cs 1, 6, .inl (fun _ => 0)))] := hD
  refine W.widen (k := 2) (n := 156) (by omega) (by omega) ?_
  refine va_putF (D := D) (ci := 1) (v := .ref q16) (ty := (tyX2 1)) (C := RX2) (T := TX2) (N := 6) hx hb hts (fun w h => List.mem_cons_of_mem _ (List.mem_append_right _ h)) tyX2 tyX2_ok nmX2 hown hK hP hD hS 0 rfl rfl 1 (by decide) (hts (.fieldLink RX2 15 "LeastNeed$Reader" "numbers" "[I") (List.mem_of_getElem? (i := 7) rfl)) (fun _ h9 => h9) rfl hin rfl (by decide +kernel) rfl rfl (Nat.le_of_ble_eq_true rfl) dX2_init_18 (fun H locs hP hD hS => ?_)
  have hP : va_P D vwCl [(h0, .inr (1, [.ref q8, .ref q16, .int 0, .int 0, .int 0, .int 0])), (q8, .inl (cs 0, 150, .inl (fun _ => 0))), (q16, .inl (cs 1, 6, .inl (fun _ => 0)))] _ := hP
  have hD : va_D A [(h0, .inr (1, [.ref q8, .ref q16, .int 0, .int 0, .int 0, .int 0])), (q8, .inl (cs 0, 150, .inl (fun _ => 0))), (q16, .inl (cs 1, 6, .inl (fun _ => 0)))] := hD
  have hP9 : va_P D vwCl (wX2 cs (fun k => ([h0, q8, q16] : List Nat).getD k 0) k_z) _ := k_sub hP [0, 1, 2] rfl
  have hD9 : va_D A (wX2 cs (fun k => ([h0, q8, q16] : List Nat).getD k 0) k_z) := hD.sub [0, 1, 2] (by decide) rfl
  exact W.vret hx hb hr (fun t ht hW => ⟨⟨(fun k => ([h0, q8, q16] : List Nat).getD k 0), rfl, rfl, by rw [ht]; exact hP9, hD9⟩, hS.F ht⟩) hS.2.2 dX2_init_21
set_option maxHeartbeats 8000000 in
set_option maxRecDepth 100000 in
theorem mIX0 (l : Launch) (D : va_G) (cs : Nat → ClassId) (h0 : Nat) (sz : Nat) : Met l yX0_init wsX0_init ({ frames := 1, cells := 4, slots := 28, locals := 12 }) (k_Pc D cs [.ref h0] [(h0, .inr (0, [.null, .null, .null, .null, .int 0]))] sz) (va_Qv (S := Nat → Nat) (fun a => a 0 = h0) (fun a t => va_P D vwCl (wX0 cs a k_z k_zl) t.heap ∧ va_D (va_A [(h0, .inr (0, [.null, .null, .null, .null, .int 0]))] sz) (wX0 cs a k_z k_zl)) (va_A [(h0, .inr (0, [.null, .null, .null, .null, .int 0]))] sz)) 4 (28) (va_A [(h0, .inr (0, [.null, .null, .null, .null, .int 0]))] sz) := by
  refine Met.ofW (cc := cX0_init) (maxL := 1) (ret := none) (by decide) rfl ?_
  intro p e s m args below meth c s₁ B hml hv
  obtain ⟨rfl, hsz, hP, hK, hD0, hNn⟩ := hv
  have hx := B.exec
  have hb := B.bytes
  have hr := B.returns
  have hts := atoms_spec (ws := wsX0_init) B.pre
  have hown : s.vm.findClass RX0 = some m.cls := findClass_of_methodNamed B.named
  have hlocks := B.notSynchronized
  have hin : meth.name = "<init>" := (name_of_methodNamed B.named B.method).1
  subst hsz
  have hD := hD0.self (sz := s.heap.size)
  generalize hAe : va_A [(h0, .inr (0, [.null, .null, .null, .null, .int 0]))] s.heap.size = A at hD ⊢
  have hA : ∀ q : Nat, s.heap.size ≤ q → A q := fun q h => by rw [← hAe]; exact Or.inr h
  have hS : va_S A s.heap s.heap [] := va_S.rf
  have hP : va_P D vwCl [(h0, .inr (0, [.null, .null, .null, .null, .int 0]))] s.heap := hP
  have hl := lv_entry ([.ref h0]) (n := 1) (Nat.le_of_ble_eq_true rfl)
  rw [lg_entry_eq]
  generalize (lg_sl ([.ref h0]) ++ List.replicate (1 - (lg_sl ([.ref h0])).length) Slot.unset).toArray = ls at hl ⊢
  have hl : lv_has ls 1 [(0, .ref h0)] := hl
  have hP := hP
  refine lv_aload_n hx hb dX0_init_0 rfl (lv_at hl 0 rfl) ?_
  refine W.objInit hx hb hown (hts (.methodLink RX0 3 objectInit) (List.mem_of_getElem? (i := 1) rfl)) (hts (.instanceMethod objectInit) (List.mem_of_getElem? (i := 2) rfl)) (hts _ (List.mem_of_getElem? (i := 3) rfl)) rfl (by rw [hml]; exact hl.1) rfl dX0_init_1 (Nat.le_of_ble_eq_true rfl) (Nat.le_of_ble_eq_true rfl) ?_
  refine W.eq (g2 := F0 m 4 ls []) rfl ?_
  refine lv_aload_n hx hb dX0_init_4 rfl (lv_at hl 0 rfl) ?_
  refine lv_bipush (v := (7 : Int32)) hx hb dX0_init_5 (by decide) ?_
  refine k_newa (a0 := (7, .inr (.inl (fun _ => 0)))) (N' := 7) (atype := .long) hx hb (hts (.arrayClass .long) (List.mem_of_getElem? (i := 4) rfl)) (ty := .long) rfl hK hP hD hS hA 2 rfl (fun _ => rfl) (by decide) (by rfl) (by decide) (Nat.le_of_ble_eq_true rfl) (Nat.le_of_ble_eq_true rfl) dX0_init_7 (fun q7 H hP hD hS => ?_)
  have hP : va_P D vwCl [(h0, .inr (0, [.null, .null, .null, .null, .int 0])), (q7, .inl (cs 2, 7, .inr (.inl (fun _ => 0))))] _ := hP
  have hD : va_D A [(h0, .inr (0, [.null, .null, .null, .null, .int 0])), (q7, .inl (cs 2, 7, .inr (.inl (fun _ => 0))))] := hD
  refine W.widen (k := 1) (n := 7) (by omega) (by omega) ?_
  refine va_putF (D := D) (ci := 0) (v := .ref q7) (ty := (tyX0 0)) (C := RX0) (T := TX0) (N := 5) hx hb hts (fun w h => List.mem_cons_of_mem _ (List.mem_append_right _ h)) tyX0 tyX0_ok nmX0 hown hK hP hD hS 0 rfl rfl 0 (by decide) (hts (.fieldLink RX0 9 "LeastNeed$Journey" "has" "[J") (List.mem_of_getElem? (i := 5) rfl)) (fun _ h9 => h9) rfl hin rfl (by decide +kernel) rfl rfl (Nat.le_of_ble_eq_true rfl) dX0_init_9 (fun H locs hP hD hS => ?_)
  have hP : va_P D vwCl [(h0, .inr (0, [.ref q7, .null, .null, .null, .int 0])), (q7, .inl (cs 2, 7, .inr (.inl (fun _ => 0))))] _ := hP
  have hD : va_D A [(h0, .inr (0, [.ref q7, .null, .null, .null, .int 0])), (q7, .inl (cs 2, 7, .inr (.inl (fun _ => 0))))] := hD
  refine lv_aload_n hx hb dX0_init_12 rfl (lv_at hl 0 rfl) ?_
  refine lv_bipush (v := (7 : Int32)) hx hb dX0_init_13 (by decide) ?_
  refine k_newa (a0 := (7, .inr (.inl (fun _ => 0)))) (N' := 7) (atype := .long) hx hb (hts (.arrayClass .long) (List.mem_of_getElem? (i := 4) rfl)) (ty := .long) rfl hK hP hD hS hA 2 rfl (fun _ => rfl) (by decide) (by rfl) (by decide) (Nat.le_of_ble_eq_true rfl) (Nat.le_of_ble_eq_true rfl) dX0_init_15 (fun q15 H hP hD hS => ?_)
  have hP : va_P D vwCl [(h0, .inr (0, [.ref q7, .null, .null, .null, .int 0])), (q7, .inl (cs 2, 7, .inr (.inl (fun _ => 0)))), (q15, .inl (cs 2, 7, .inr (.inl (fun _ => 0))))] _ := hP
  have hD : va_D A [(h0, .inr (0, [.ref q7, .null, .null, .null, .int 0])), (q7, .inl (cs 2, 7, .inr (.inl (fun _ => 0)))), (q15, .inl (cs 2, 7, .inr (.inl (fun _ => 0))))] := hD
  refine W.widen (k := 2) (n := 14) (by omega) (by omega) ?_
  refine va_putF (D := D) (ci := 0) (v := .ref q15) (ty := (tyX0 1)) (C := RX0) (T := TX0) (N := 5) hx hb hts (fun w h => List.mem_cons_of_mem _ (List.mem_append_right _ h)) tyX0 tyX0_ok nmX0 hown hK hP hD hS 0 rfl rfl 1 (by decide) (hts (.fieldLink RX0 15 "LeastNeed$Journey" "lost" "[J") (List.mem_of_getElem? (i := 6) rfl)) (fun _ h9 => h9) rfl hin rfl (by decide +kernel) rfl rfl (Nat.le_of_ble_eq_true rfl) dX0_init_17 (fun H locs hP hD hS => ?_)
  have hP : va_P D vwCl [(h0, .inr (0, [.ref q7, .ref q15, .null, .null, .int 0])), (q7, .inl (cs 2, 7, .inr (.inl (fun _ => 0)))), (q15, .inl (cs 2, 7, .inr (.inl (fun _ => 0))))] _ := hP
  have hD : va_D A [(h0, .inr (0, [.ref q7, .ref q15, .null, .null, .int 0])), (q7, .inl (cs 2, 7, .inr (.inl (fun _ => 0)))), (q15, .inl (cs 2, 7, .inr (.inl (fun _ => 0))))] := hD
  refine lv_aload_n hx hb dX0_init_20 rfl (lv_at hl 0 rfl) ?_
  refine lv_bipush (v := (7 : Int32)) hx hb dX0_init_21 (by decide) ?_
  refine k_newa (a0 := (7, .inr (.inl (fun _ => 0)))) (N' := 7) (atype := .long) hx hb (hts (.arrayClass .long) (List.mem_of_getElem? (i := 4) rfl)) (ty := .long) rfl hK hP hD hS hA 2 rfl (fun _ => rfl) (by decide) (by rfl) (by decide) (Nat.le_of_ble_eq_true rfl) (Nat.le_of_ble_eq_true rfl) dX0_init_23 (fun q23 H hP hD hS => ?_)
  have hP : va_P D vwCl [(h0, .inr (0, [.ref q7, .ref q15, .null, .null, .int 0])), (q7, .inl (cs 2, 7, .inr (.inl (fun _ => 0)))), (q15, .inl (cs 2, 7, .inr (.inl (fun _ => 0)))), (q23, .inl (cs 2, 7, .inr (.inl (fun _ => 0))))] _ := hP
  have hD : va_D A [(h0, .inr (0, [.ref q7, .ref q15, .null, .null, .int 0])), (q7, .inl (cs 2, 7, .inr (.inl (fun _ => 0)))), (q15, .inl (cs 2, 7, .inr (.inl (fun _ => 0)))), (q23, .inl (cs 2, 7, .inr (.inl (fun _ => 0))))] := hD
  refine W.widen (k := 3) (n := 21) (by omega) (by omega) ?_
  refine va_putF (D := D) (ci := 0) (v := .ref q23) (ty := (tyX0 2)) (C := RX0) (T := TX0) (N := 5) hx hb hts (fun w h => List.mem_cons_of_mem _ (List.mem_append_right _ h)) tyX0 tyX0_ok nmX0 hown hK hP hD hS 0 rfl rfl 2 (by decide) (hts (.fieldLink RX0 18 "LeastNeed$Journey" "hasNext" "[J") (List.mem_of_getElem? (i := 7) rfl)) (fun _ h9 => h9) rfl hin rfl (by decide +kernel) rfl rfl (Nat.le_of_ble_eq_true rfl) dX0_init_25 (fun H locs hP hD hS => ?_)
  have hP : va_P D vwCl [(h0, .inr (0, [.ref q7, .ref q15, .ref q23, .null, .int 0])), (q7, .inl (cs 2, 7, .inr (.inl (fun _ => 0)))), (q15, .inl (cs 2, 7, .inr (.inl (fun _ => 0)))), (q23, .inl (cs 2, 7, .inr (.inl (fun _ => 0))))] _ := hP
  have hD : va_D A [(h0, .inr (0, [.ref q7, .ref q15, .ref q23, .null, .int 0])), (q7, .inl (cs 2, 7, .inr (.inl (fun _ => 0)))), (q15, .inl (cs 2, 7, .inr (.inl (fun _ => 0)))), (q23, .inl (cs 2, 7, .inr (.inl (fun _ => 0))))] := hD
  refine lv_aload_n hx hb dX0_init_28 rfl (lv_at hl 0 rfl) ?_
  refine lv_bipush (v := (7 : Int32)) hx hb dX0_init_29 (by decide) ?_
  refine k_newa (a0 := (7, .inr (.inl (fun _ => 0)))) (N' := 7) (atype := .long) hx hb (hts (.arrayClass .long) (List.mem_of_getElem? (i := 4) rfl)) (ty := .long) rfl hK hP hD hS hA 2 rfl (fun _ => rfl) (by decide) (by rfl) (by decide) (Nat.le_of_ble_eq_true rfl) (Nat.le_of_ble_eq_true rfl) dX0_init_31 (fun q31 H hP hD hS => ?_)
  have hP : va_P D vwCl [(h0, .inr (0, [.ref q7, .ref q15, .ref q23, .null, .int 0])), (q7, .inl (cs 2, 7, .inr (.inl (fun _ => 0)))), (q15, .inl (cs 2, 7, .inr (.inl (fun _ => 0)))), (q23, .inl (cs 2, 7, .inr (.inl (fun _ => 0)))), (q31, .inl (cs 2, 7, .inr (.inl (fun _ => 0))))] _ := hP
  have hD : va_D A [(h0, .inr (0, [.ref q7, .ref q15, .ref q23, .null, .int 0])), (q7, .inl (cs 2, 7, .inr (.inl (fun _ => 0)))), (q15, .inl (cs 2, 7, .inr (.inl (fun _ => 0)))), (q23, .inl (cs 2, 7, .inr (.inl (fun _ => 0)))), (q31, .inl (cs 2, 7, .inr (.inl (fun _ => 0))))] := hD
  refine W.widen (k := 4) (n := 28) (by omega) (by omega) ?_
  refine va_putF (D := D) (ci := 0) (v := .ref q31) (ty := (tyX0 3)) (C := RX0) (T := TX0) (N := 5) hx hb hts (fun w h => List.mem_cons_of_mem _ (List.mem_append_right _ h)) tyX0 tyX0_ok nmX0 hown hK hP hD hS 0 rfl rfl 3 (by decide) (hts (.fieldLink RX0 21 "LeastNeed$Journey" "lostNext" "[J") (List.mem_of_getElem? (i := 8) rfl)) (fun _ h9 => h9) rfl hin rfl (by decide +kernel) rfl rfl (Nat.le_of_ble_eq_true rfl) dX0_init_33 (fun H locs hP hD hS => ?_)
  have hP : va_P D vwCl [(h0, .inr (0, [.ref q7, .ref q15, .ref q23, .ref q31, .int 0])), (q7, .inl (cs 2, 7, .inr (.inl (fun _ => 0)))), (q15, .inl (cs 2, 7, .inr (.inl (fun _ => 0)))), (q23, .inl (cs 2, 7, .inr (.inl (fun _ => 0)))), (q31, .inl (cs 2, 7, .inr (.inl (fun _ => 0))))] _ := hP
  have hD : va_D A [(h0, .inr (0, [.ref q7, .ref q15, .ref q23, .ref q31, .int 0])), (q7, .inl (cs 2, 7, .inr (.inl (fun _ => 0)))), (q15, .inl (cs 2, 7, .inr (.inl (fun _ => 0)))), (q23, .inl (cs 2, 7, .inr (.inl (fun _ => 0)))), (q31, .inl (cs 2, 7, .inr (.inl (fun _ => 0))))] := hD
  have hP9 : va_P D vwCl (wX0 cs (fun k => ([h0, q7, q15, q23, q31] : List Nat).getD k 0) k_z k_zl) _ := k_sub hP [0, 1, 2, 3, 4] rfl
  have hD9 : va_D A (wX0 cs (fun k => ([h0, q7, q15, q23, q31] : List Nat).getD k 0) k_z k_zl) := hD.sub [0, 1, 2, 3, 4] (by decide) rfl
  exact W.vret hx hb hr (fun t ht hW => ⟨⟨(fun k => ([h0, q7, q15, q23, q31] : List Nat).getD k 0), rfl, rfl, by rw [ht]; exact hP9, hD9⟩, hS.F ht⟩) hS.2.2 dX0_init_36
