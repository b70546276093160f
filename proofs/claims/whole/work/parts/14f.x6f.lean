set_option maxRecDepth 20000 in
theorem wcX6_X5_X5_1_33 (cs : Nat → ClassId) (a : Nat → Nat) (S : Nat → Nat → Int32) (L : Nat → Nat → Int64) : ([1, 2, 3, 4, 5, 6, 7, 8, 9, 10, 11, 12, 13, 14, 15, 16, 33, 34, 35, 36, 37, 38, 39, 40, 41, 42, 43, 44, 45, 46, 47, 48] : List Nat).map (fun i => (wX6 cs a S L)[i]?) = (wX5 cs (k_wi a 1) (k_wi S 1) ++ wX5 cs (k_wi a 33) (k_wi S 33)).map some := rfl
set_option maxRecDepth 20000 in
theorem wrX6_X5_X5_1_33 (cs : Nat → ClassId) (a : Nat → Nat) (S : Nat → Nat → Int32) (L : Nat → Nat → Int64) : ([0, 17, 18, 19, 20, 21, 22, 23, 24, 25, 26, 27, 28, 29, 30, 31, 32, 49, 50, 51, 52, 53, 54, 55, 56, 57, 58, 59, 60, 61, 62, 63, 64, 65, 66, 67, 68, 69, 70, 71, 72, 73, 74, 75, 76, 77, 78] : List Nat).filterMap (fun i => (wX6 cs a S L)[i]?) = ([(a 0, .inr (4, [.ref (a 1), .ref (a 17), .ref (a 65), .ref (a 66), .ref (a 67), .ref (a 70), .ref (a 75), .ref (a 76), .ref (a 77), .ref (a 78), .long (L 0 10), .long (L 0 11)])), (a 17, .inr (3, [.ref (a 18), .ref (a 19), .ref (a 20), .ref (a 21), .ref (a 22), .ref (a 23), .ref (a 24), .ref (a 25), .ref (a 26), .ref (a 27), .ref (a 29), .ref (a 31), .int (S 17 12), .int (S 17 13), .int (S 17 14)])), (a 18, .inl (cs 1, 7, .inl (S 18))), (a 19, .inl (cs 1, 7, .inl (S 19))), (a 20, .inl (cs 1, 7, .inl (S 20))), (a 21, .inl (cs 1, 28, .inl (S 21))), (a 22, .inl (cs 1, 5, .inl (S 22))), (a 23, .inl (cs 1, 5, .inl (S 23))), (a 24, .inl (cs 1, 5, .inl (S 24))), (a 25, .inl (cs 1, 5, .inl (S 25))), (a 26, .inl (cs 1, 5, .inl (S 26))), (a 27, .inr (2, [.int 6, .int 6, .ref (a 28), .int (S 27 3)])), (a 28, .inl (cs 1, 36, .inl (S 28))), (a 29, .inr (2, [.int 4, .int 6, .ref (a 30), .int (S 29 3)])), (a 30, .inl (cs 1, 24, .inl (S 30))), (a 31, .inr (2, [.int 18, .int 8, .ref (a 32), .int (S 31 3)])), (a 32, .inl (cs 1, 144, .inl (S 32))), (a 49, .inr (3, [.ref (a 50), .ref (a 51), .ref (a 52), .ref (a 53), .ref (a 54), .ref (a 55), .ref (a 56), .ref (a 57), .ref (a 58), .ref (a 59), .ref (a 61), .ref (a 63), .int (S 49 12), .int (S 49 13), .int (S 49 14)])), (a 50, .inl (cs 1, 7, .inl (S 50))), (a 51, .inl (cs 1, 7, .inl (S 51))), (a 52, .inl (cs 1, 7, .inl (S 52))), (a 53, .inl (cs 1, 28, .inl (S 53))), (a 54, .inl (cs 1, 5, .inl (S 54))), (a 55, .inl (cs 1, 5, .inl (S 55))), (a 56, .inl (cs 1, 5, .inl (S 56))), (a 57, .inl (cs 1, 5, .inl (S 57))), (a 58, .inl (cs 1, 5, .inl (S 58))), (a 59, .inr (2, [.int 6, .int 6, .ref (a 60), .int (S 59 3)])), (a 60, .inl (cs 1, 36, .inl (S 60))), (a 61, .inr (2, [.int 4, .int 6, .ref (a 62), .int (S 61 3)])), (a 62, .inl (cs 1, 24, .inl (S 62))), (a 63, .inr (2, [.int 18, .int 8, .ref (a 64), .int (S 63 3)])), (a 64, .inl (cs 1, 144, .inl (S 64))), (a 65, .inl (cs 4, 2, .inr (.inr (.inr (.inr (fun j => if j = 0 then some (a 33) else if j = 1 then some (a 49) else none)))))), (a 66, .inl (cs 3, 2, .inl (S 66))), (a 67, .inr (1, [.ref (a 68), .ref (a 69), .int (S 67 2), .int (S 67 3), .int (S 67 4), .int (S 67 5)])), (a 68, .inl (cs 0, 150, .inl (S 68))), (a 69, .inl (cs 1, 6, .inl (S 69))), (a 70, .inr (0, [.ref (a 71), .ref (a 72), .ref (a 73), .ref (a 74), .int (S 70 4)])), (a 71, .inl (cs 2, 7, .inr (.inl (L 71)))), (a 72, .inl (cs 2, 7, .inr (.inl (L 72)))), (a 73, .inl (cs 2, 7, .inr (.inl (L 73)))), (a 74, .inl (cs 2, 7, .inr (.inl (L 74)))), (a 75, .inl (cs 1, 3, .inl (S 75))), (a 76, .inl (cs 1, 6, .inl (S 76))), (a 77, .inl (cs 1, 8, .inl (S 77))), (a 78, .inl (cs 1, 36, .inl (S 78)))] : va_W) := rfl
set_option maxRecDepth 20000 in
theorem wbX6_X5_X5_1_33_S0 (cs : Nat → ClassId) (a : Nat → Nat) (S : Nat → Nat → Int32) (L : Nat → Nat → Int64) (VS0 : Nat → Nat → Int32) : ([0, 47, 48, 49, 50, 51, 52, 53, 54, 55, 56, 57, 58, 59, 60, 61, 62, 1, 2, 3, 4, 5, 6, 7, 8, 9, 10, 11, 12, 13, 14, 15, 16, 63, 64, 65, 66, 67, 68, 69, 70, 71, 72, 73, 74, 75, 76, 77, 78, 17, 18, 19, 20, 21, 22, 23, 24, 25, 26, 27, 28, 29, 30, 31, 32, 33, 34, 35, 36, 37, 38, 39, 40, 41, 42, 43, 44, 45, 46] : List Nat).map (fun i => (([0, 17, 18, 19, 20, 21, 22, 23, 24, 25, 26, 27, 28, 29, 30, 31, 32, 49, 50, 51, 52, 53, 54, 55, 56, 57, 58, 59, 60, 61, 62, 63, 64, 65, 66, 67, 68, 69, 70, 71, 72, 73, 74, 75, 76, 77, 78] : List Nat).filterMap (fun i => (wX6 cs a S L)[i]?) ++ (wX5 cs (k_wi a 1) VS0 ++ wX5 cs (k_wi a 33) (k_wi S 33)))[i]?) = (wX6 cs a (k_sp S 1 16 VS0) L).map some := (congrArg (fun z : va_W => ([0, 47, 48, 49, 50, 51, 52, 53, 54, 55, 56, 57, 58, 59, 60, 61, 62, 1, 2, 3, 4, 5, 6, 7, 8, 9, 10, 11, 12, 13, 14, 15, 16, 63, 64, 65, 66, 67, 68, 69, 70, 71, 72, 73, 74, 75, 76, 77, 78, 17, 18, 19, 20, 21, 22, 23, 24, 25, 26, 27, 28, 29, 30, 31, 32, 33, 34, 35, 36, 37, 38, 39, 40, 41, 42, 43, 44, 45, 46] : List Nat).map (fun i => (z ++ (wX5 cs (k_wi a 1) VS0 ++ wX5 cs (k_wi a 33) (k_wi S 33)))[i]?)) (wrX6_X5_X5_1_33 cs a S L)).trans rfl
set_option maxRecDepth 20000 in
theorem wcX6_X5_X5_1_49 (cs : Nat → ClassId) (a : Nat → Nat) (S : Nat → Nat → Int32) (L : Nat → Nat → Int64) : ([1, 2, 3, 4, 5, 6, 7, 8, 9, 10, 11, 12, 13, 14, 15, 16, 49, 50, 51, 52, 53, 54, 55, 56, 57, 58, 59, 60, 61, 62, 63, 64] : List Nat).map (fun i => (wX6 cs a S L)[i]?) = (wX5 cs (k_wi a 1) (k_wi S 1) ++ wX5 cs (k_wi a 49) (k_wi S 49)).map some := rfl
set_option maxRecDepth 20000 in
theorem wrX6_X5_X5_1_49 (cs : Nat → ClassId) (a : Nat → Nat) (S : Nat → Nat → Int32) (L : Nat → Nat → Int64) : ([0, 17, 18, 19, 20, 21, 22, 23, 24, 25, 26, 27, 28, 29, 30, 31, 32, 33, 34, 35, 36, 37, 38, 39, 40, 41, 42, 43, 44, 45, 46, 47, 48, 65, 66, 67, 68, 69, 70, 71, 72, 73, 74, 75, 76, 77, 78] : List Nat).filterMap (fun i => (wX6 cs a S L)[i]?) = ([(a 0, .inr (4, [.ref (a 1), .ref (a 17), .ref (a 65), .ref (a 66), .ref (a 67), .ref (a 70), .ref (a 75), .ref (a 76), .ref (a 77), .ref (a 78), .long (L 0 10), .long (L 0 11)])), (a 17, .inr (3, [.ref (a 18), .ref (a 19), .ref (a 20), .ref (a 21), .ref (a 22), .ref (a 23), .ref (a 24), .ref (a 25), .ref (a 26), .ref (a 27), .ref (a 29), .ref (a 31), .int (S 17 12), .int (S 17 13), .int (S 17 14)])), (a 18, .inl (cs 1, 7, .inl (S 18))), (a 19, .inl (cs 1, 7, .inl (S 19))), (a 20, .inl (cs 1, 7, .inl (S 20))), (a 21, .inl (cs 1, 28, .inl (S 21))), (a 22, .inl (cs 1, 5, .inl (S 22))), (a 23, .inl (cs 1, 5, .inl (S 23))), (a 24, .inl (cs 1, 5, .inl (S 24))), (a 25, .inl (cs 1, 5, .inl (S 25))), (a 26, .inl (cs 1, 5, .inl (S 26))), (a 27, .inr (2, [.int 6, .int 6, .ref (a 28), .int (S 27 3)])), (a 28, .inl (cs 1, 36, .inl (S 28))), (a 29, .inr (2, [.int 4, .int 6, .ref (a 30), .int (S 29 3)])), (a 30, .inl (cs 1, 24, .inl (S 30))), (a 31, .inr (2, [.int 18, .int 8, .ref (a 32), .int (S 31 3)])), (a 32, .inl (cs 1, 144, .inl (S 32))), (a 33, .inr (3, [.ref (a 34), .ref (a 35), .ref (a 36), .ref (a 37), .ref (a 38), .ref (a 39), .ref (a 40), .ref (a 41), .ref (a 42), .ref (a 43), .ref (a 45), .ref (a 47), .int (S 33 12), .int (S 33 13), .int (S 33 14)])), (a 34, .inl (cs 1, 7, .inl (S 34))), (a 35, .inl (cs 1, 7, .inl (S 35))), (a 36, .inl (cs 1, 7, .inl (S 36))), (a 37, .inl (cs 1, 28, .inl (S 37))), (a 38, .inl (cs 1, 5, .inl (S 38))), (a 39, .inl (cs 1, 5, .inl (S 39))), (a 40, .inl (cs 1, 5, .inl (S 40))), (a 41, .inl (cs 1, 5, .inl (S 41))), (a 42, .inl (cs 1, 5, .inl (S 42))), (a 43, .inr (2, [.int 6, .int 6, .ref (a 44), .int (S 43 3)])), (a 44, .inl (cs 1, 36, .inl (S 44))), (a 45, .inr (2, [.int 4, .int 6, .ref (a 46), .int (S 45 3)])), (a 46, .inl (cs 1, 24, .inl (S 46))), (a 47, .inr (2, [.int 18, .int 8, .ref (a 48), .int (S 47 3)])), (a 48, .inl (cs 1, 144, .inl (S 48))), (a 65, .inl (cs 4, 2, .inr (.inr (.inr (.inr (fun j => if j = 0 then some (a 33) else if j = 1 then some (a 49) else none)))))), (a 66, .inl (cs 3, 2, .inl (S 66))), (a 67, .inr (1, [.ref (a 68), .ref (a 69), .int (S 67 2), .int (S 67 3), .int (S 67 4), .int (S 67 5)])), (a 68, .inl (cs 0, 150, .inl (S 68))), (a 69, .inl (cs 1, 6, .inl (S 69))), (a 70, .inr (0, [.ref (a 71), .ref (a 72), .ref (a 73), .ref (a 74), .int (S 70 4)])), (a 71, .inl (cs 2, 7, .inr (.inl (L 71)))), (a 72, .inl (cs 2, 7, .inr (.inl (L 72)))), (a 73, .inl (cs 2, 7, .inr (.inl (L 73)))), (a 74, .inl (cs 2, 7, .inr (.inl (L 74)))), (a 75, .inl (cs 1, 3, .inl (S 75))), (a 76, .inl (cs 1, 6, .inl (S 76))), (a 77, .inl (cs 1, 8, .inl (S 77))), (a 78, .inl (cs 1, 36, .inl (S 78)))] : va_W) := rfl
set_option maxRecDepth 20000 in
theorem wbX6_X5_X5_1_49_S0 (cs : Nat → ClassId) (a : Nat → Nat) (S : Nat → Nat → Int32) (L : Nat → Nat → Int64) (VS0 : Nat → Nat → Int32) : ([0, 47, 48, 49, 50, 51, 52, 53, 54, 55, 56, 57, 58, 59, 60, 61, 62, 1, 2, 3, 4, 5, 6, 7, 8, 9, 10, 11, 12, 13, 14, 15, 16, 17, 18, 19, 20, 21, 22, 23, 24, 25, 26, 27, 28, 29, 30, 31, 32, 63, 64, 65, 66, 67, 68, 69, 70, 71, 72, 73, 74, 75, 76, 77, 78, 33, 34, 35, 36, 37, 38, 39, 40, 41, 42, 43, 44, 45, 46] : List Nat).map (fun i => (([0, 17, 18, 19, 20, 21, 22, 23, 24, 25, 26, 27, 28, 29, 30, 31, 32, 33, 34, 35, 36, 37, 38, 39, 40, 41, 42, 43, 44, 45, 46, 47, 48, 65, 66, 67, 68, 69, 70, 71, 72, 73, 74, 75, 76, 77, 78] : List Nat).filterMap (fun i => (wX6 cs a S L)[i]?) ++ (wX5 cs (k_wi a 1) VS0 ++ wX5 cs (k_wi a 49) (k_wi S 49)))[i]?) = (wX6 cs a (k_sp S 1 16 VS0) L).map some := (congrArg (fun z : va_W => ([0, 47, 48, 49, 50, 51, 52, 53, 54, 55, 56, 57, 58, 59, 60, 61, 62, 1, 2, 3, 4, 5, 6, 7, 8, 9, 10, 11, 12, 13, 14, 15, 16, 17, 18, 19, 20, 21, 22, 23, 24, 25, 26, 27, 28, 29, 30, 31, 32, 63, 64, 65, 66, 67, 68, 69, 70, 71, 72, 73, 74, 75, 76, 77, 78, 33, 34, 35, 36, 37, 38, 39, 40, 41, 42, 43, 44, 45, 46] : List Nat).map (fun i => (z ++ (wX5 cs (k_wi a 1) VS0 ++ wX5 cs (k_wi a 49) (k_wi S 49)))[i]?)) (wrX6_X5_X5_1_49 cs a S L)).trans rfl
-- LeastNeed.from(I)I
set_option maxHeartbeats 4000000 in
set_option maxRecDepth 100000 in
theorem mX6_from (l : Launch) (D : va_G) (cs : Nat → ClassId) (a : Nat → Nat) (S : Nat → Nat → Int32) (L : Nat → Nat → Int64) (p1 : Int32) (r9 : Int32) (S9 : (Nat → Nat → Int32)) (hd : nX6_from S L p1 = some (r9, S9)) : ∀ sz : Nat, Met l yX6_from wsX6_from ({ frames := 4, cells := 0, slots := 0, locals := 103 }) (k_Pc D cs [.ref (a 0), .int p1] (wX6 cs a S L) sz) (k_Qi D r9 (wX6 cs a S L) (wX6 cs a S9 L) sz) 0 0 (va_A (wX6 cs a S L) sz) := by
  intro sz
  refine Met.ofW (cc := cX6_from) (maxL := 2) (ret := (some .int)) (by decide) rfl ?_
  intro p e s m args below meth c s₁ B hml hv
  obtain ⟨rfl, hsz, hP, hK, hD0, hNn⟩ := hv
  have hx := B.exec
  have hb := B.bytes
  have hr := B.returns
  have hts := atoms_spec (ws := wsX6_from) B.pre
  have hown : s.vm.findClass RX6 = some m.cls := findClass_of_methodNamed B.named
  have hlocks := B.notSynchronized
  subst hsz
  obtain ⟨A, hAe⟩ : ∃ A : Nat → Prop, A = va_A (wX6 cs a S L) s.heap.size := ⟨_, rfl⟩
  have hD : va_D A (wX6 cs a S L) := by rw [hAe]; exact hD0.self
  have hA : ∀ q : Nat, s.heap.size ≤ q → A q := fun q h => by rw [hAe]; exact Or.inr h
  have hS : va_S A s.heap s.heap [] := va_S.rf
  have hDA : ∀ (S : Nat → Nat → Int32) (L : Nat → Nat → Int64), va_D A (wX6 cs a S L) := fun S L => k_DA hD rfl
  have hl := lv_entry ([.ref (a 0), .int p1]) (n := 2) (Nat.le_of_ble_eq_true rfl)
  rw [lg_entry_eq]
  generalize (lg_sl ([.ref (a 0), .int p1]) ++ List.replicate (2 - (lg_sl ([.ref (a 0), .int p1])).length) Slot.unset).toArray = ls at hl ⊢
  have hl : lv_has ls 2 [(0, .ref (a 0)), (1, .int p1)] := hl
  obtain ⟨Q, hQ⟩ : ∃ Q, Q = MQ below (k_Qi D r9 (wX6 cs a S L) (wX6 cs a S9 L) s.heap.size) ([.ref (a 0), .int p1] : List Value).toArray s 0 0 (va_A (wX6 cs a S L) s.heap.size) := ⟨_, rfl⟩
  rw [← hQ]
  unfold nX6_from at hd
  refine lv_iload_n hx hb dX6_from_0 rfl (lv_at hl 1 rfl) ?_
  refine lv_iconst (v := (2 : Int32)) hx hb dX6_from_1 (by decide) ?_
  obtain ⟨r2, hq2, hd⟩ := dn_b1 hd
  have hPc := k_P0 hP
  have hDc : va_D A ([] : va_W) := k_D0
  have hF := k_self hDc hS hA
  refine k_run_i (va_runS (As := [.int p1, .int (2 : Int32)]) (rest := []) ⟨hx, hb, hml, hown, hts⟩ (mX6_upTo l D cs  p1 (2 : Int32) r2 hq2 _) (va_cwS 2 hts gX6_from_X6_upTo rfl rfl rfl (by decide +kernel) ⟨Nat.le_of_ble_eq_true rfl, Nat.le_of_ble_eq_true rfl⟩) ⟨k_blind, k_pre hPc hK hNn hDc⟩ rfl rfl hl.1 rfl (lv_room (Nat.le_of_ble_eq_true rfl)) dX6_from_2 ⟨Nat.le_of_ble_eq_true rfl, Nat.le_of_ble_eq_true rfl⟩) hS hF (fun H locs hP1 hk hS => ?_)
  have hP : va_P D vwCl (wX6 cs a S L) _ := k_keep hP hk
  refine lv_if_ne (tgt := 13) hx hb dX6_from_5 (by decide) (fun c5 => ?_) (fun c5 => ?_)
  · have hd := dn_f c5 hd
    refine lv_aload_n hx hb dX6_from_13 rfl (lv_at hl 0 rfl) ?_
    refine va_get (D := D) (ci := 4) (v := .ref (a 66)) (C := RX6) (T := TX6) (N := 12) hx hb hts (fun w h => List.mem_cons_of_mem _ (List.mem_append_left _ (List.mem_append_left _ (List.mem_append_right _ h)))) hown hK hP 0 rfl rfl 3 (by decide) (hts (.fieldLink RX6 23 "LeastNeed" "imageKept" "[Z") (List.mem_of_getElem? (i := 1) rfl)) (fun _ h9 => h9) rfl dX6_from_14 ?_
    refine lv_iload_n hx hb dX6_from_17 rfl (lv_at hl 1 rfl) ?_
    obtain ⟨hi18, hd⟩ := dn_i hd
    refine k_zald (D := D) (k := p1.toNatClampNeg) (by rfl) hx hb hK hP 66 3 rfl rfl hi18 dX6_from_18 ?_
    refine lv_if_ne (tgt := 27) hx hb dX6_from_19 (by decide) (fun c19 => ?_) (fun c19 => ?_)
    · have hd := dn_f c19 hd
      refine lv_aload_n hx hb dX6_from_27 rfl (lv_at hl 0 rfl) ?_
      refine va_get (D := D) (ci := 4) (v := .ref (a 1)) (C := RX6) (T := TX6) (N := 12) hx hb hts (fun w h => List.mem_cons_of_mem _ (List.mem_append_left _ (List.mem_append_left _ (List.mem_append_right _ h)))) hown hK hP 0 rfl rfl 0 (by decide) (hts (.fieldLink RX6 12 "LeastNeed" "now" "LLeastNeed$Valley;") (List.mem_of_getElem? (i := 2) rfl)) (fun _ h9 => h9) rfl dX6_from_28 ?_
      refine lv_aload_n hx hb dX6_from_31 rfl (lv_at hl 0 rfl) ?_
      refine va_get (D := D) (ci := 4) (v := .ref (a 65)) (C := RX6) (T := TX6) (N := 12) hx hb hts (fun w h => List.mem_cons_of_mem _ (List.mem_append_left _ (List.mem_append_left _ (List.mem_append_right _ h)))) hown hK hP 0 rfl rfl 2 (by decide) (hts (.fieldLink RX6 19 "LeastNeed" "images" "[LLeastNeed$Valley;") (List.mem_of_getElem? (i := 3) rfl)) (fun _ h9 => h9) rfl dX6_from_32 ?_
      refine lv_iload_n hx hb dX6_from_35 rfl (lv_at hl 1 rfl) ?_
      by_cases e36_0 : p1 = (0 : Int32)
      · have hd := dn_t e36_0 hd
        refine k_aldq (D := D) (z := a 33) (by rw [e36_0]; rfl) hx hb hK hP 65 4 rfl rfl (by rw [e36_0]; exact k_in (by decide)) dX6_from_36 ?_
        obtain ⟨S37, hq37, hd⟩ := dn_b1 hd
        have hPc : va_P D vwCl (wX5 cs (k_wi a 1) (k_wi S 1) ++ wX5 cs (k_wi a 33) (k_wi S 33)) _ := k_sub hP [1, 2, 3, 4, 5, 6, 7, 8, 9, 10, 11, 12, 13, 14, 15, 16, 33, 34, 35, 36, 37, 38, 39, 40, 41, 42, 43, 44, 45, 46, 47, 48] (wcX6_X5_X5_1_33 cs a S L)
        have hDc : va_D A (wX5 cs (k_wi a 1) (k_wi S 1) ++ wX5 cs (k_wi a 33) (k_wi S 33)) := hD.sub [1, 2, 3, 4, 5, 6, 7, 8, 9, 10, 11, 12, 13, 14, 15, 16, 33, 34, 35, 36, 37, 38, 39, 40, 41, 42, 43, 44, 45, 46, 47, 48] (by decide +kernel) (wcX6_X5_X5_1_33 cs a S L)
        have hF := k_self hDc hS hA
        refine k_run_v (va_runV (As := [.ref (a 33)]) (rest := []) ⟨hx, hb, hml, hown, hts⟩ (mX5_copyOf l D cs (k_wi a 1) (k_wi a 33) (k_wi S 1) (k_wi S 33) S37 hq37 _) (cwV 1 hts gX6_from_X5_copyOf rfl rfl rfl (by decide +kernel) ⟨Nat.le_of_ble_eq_true rfl, Nat.le_of_ble_eq_true rfl⟩) ⟨k_blind, va_recv hK hP (ci := 3) (q0 := 1) rfl rfl, k_pre hPc hK hNn hDc⟩ rfl rfl hl.1 rfl (lv_room (Nat.le_of_ble_eq_true rfl)) dX6_from_37 ⟨Nat.le_of_ble_eq_true rfl, Nat.le_of_ble_eq_true rfl⟩) hS hF (fun H locs hP1 hk hS => ?_)
        have hP : va_P D vwCl (wX6 cs a (k_sp S 1 16 S37) L) _ := k_back hP hD [1, 2, 3, 4, 5, 6, 7, 8, 9, 10, 11, 12, 13, 14, 15, 16, 33, 34, 35, 36, 37, 38, 39, 40, 41, 42, 43, 44, 45, 46, 47, 48] [0, 17, 18, 19, 20, 21, 22, 23, 24, 25, 26, 27, 28, 29, 30, 31, 32, 49, 50, 51, 52, 53, 54, 55, 56, 57, 58, 59, 60, 61, 62, 63, 64, 65, 66, 67, 68, 69, 70, 71, 72, 73, 74, 75, 76, 77, 78] [0, 47, 48, 49, 50, 51, 52, 53, 54, 55, 56, 57, 58, 59, 60, 61, 62, 1, 2, 3, 4, 5, 6, 7, 8, 9, 10, 11, 12, 13, 14, 15, 16, 63, 64, 65, 66, 67, 68, 69, 70, 71, 72, 73, 74, 75, 76, 77, 78, 17, 18, 19, 20, 21, 22, 23, 24, 25, 26, 27, 28, 29, 30, 31, 32, 33, 34, 35, 36, 37, 38, 39, 40, 41, 42, 43, 44, 45, 46] (wcX6_X5_X5_1_33 cs a S L) (by decide +kernel) hk hP1 (wbX6_X5_X5_1_33_S0 cs a S L S37)
        have hD := hDA (k_sp S 1 16 S37) L
        refine lv_iconst (v := (1 : Int32)) hx hb dX6_from_40 (by decide) ?_
        obtain ⟨e1, e2⟩ := dn_s2 hd
        exact k_iret hx hb hr hQ hAe e1 (by rw [e2]) hP hS hlocks dX6_from_41
      · have hd := dn_f e36_0 hd
        by_cases e36_1 : p1 = (1 : Int32)
        · have hd := dn_t e36_1 hd
          refine k_aldq (D := D) (z := a 49) (by rw [e36_1]; rfl) hx hb hK hP 65 4 rfl rfl (by rw [e36_1]; exact k_in (by decide)) dX6_from_36 ?_
          obtain ⟨S37, hq37, hd⟩ := dn_b1 hd
          have hPc : va_P D vwCl (wX5 cs (k_wi a 1) (k_wi S 1) ++ wX5 cs (k_wi a 49) (k_wi S 49)) _ := k_sub hP [1, 2, 3, 4, 5, 6, 7, 8, 9, 10, 11, 12, 13, 14, 15, 16, 49, 50, 51, 52, 53, 54, 55, 56, 57, 58, 59, 60, 61, 62, 63, 64] (wcX6_X5_X5_1_49 cs a S L)
          have hDc : va_D A (wX5 cs (k_wi a 1) (k_wi S 1) ++ wX5 cs (k_wi a 49) (k_wi S 49)) := hD.sub [1, 2, 3, 4, 5, 6, 7, 8, 9, 10, 11, 12, 13, 14, 15, 16, 49, 50, 51, 52, 53, 54, 55, 56, 57, 58, 59, 60, 61, 62, 63, 64] (by decide +kernel) (wcX6_X5_X5_1_49 cs a S L)
          have hF := k_self hDc hS hA
          refine k_run_v (va_runV (As := [.ref (a 49)]) (rest := []) ⟨hx, hb, hml, hown, hts⟩ (mX5_copyOf l D cs (k_wi a 1) (k_wi a 49) (k_wi S 1) (k_wi S 49) S37 hq37 _) (cwV 1 hts gX6_from_X5_copyOf rfl rfl rfl (by decide +kernel) ⟨Nat.le_of_ble_eq_true rfl, Nat.le_of_ble_eq_true rfl⟩) ⟨k_blind, va_recv hK hP (ci := 3) (q0 := 1) rfl rfl, k_pre hPc hK hNn hDc⟩ rfl rfl hl.1 rfl (lv_room (Nat.le_of_ble_eq_true rfl)) dX6_from_37 ⟨Nat.le_of_ble_eq_true rfl, Nat.le_of_ble_eq_true rfl⟩) hS hF (fun H locs hP1 hk hS => ?_)
          have hP : va_P D vwCl (wX6 cs a (k_sp S 1 16 S37) L) _ := k_back hP hD [1, 2, 3, 4, 5, 6, 7, 8, 9, 10, 11, 12, 13, 14, 15, 16, 49, 50, 51, 52, 53, 54, 55, 56, 57, 58, 59, 60, 61, 62, 63, 64] [0, 17, 18, 19, 20, 21, 22, 23, 24, 25, 26, 27, 28, 29, 30, 31, 32, 33, 34, 35, 36, 37, 38, 39, 40, 41, 42, 43, 44, 45, 46, 47, 48, 65, 66, 67, 68, 69, 70, 71, 72, 73, 74, 75, 76, 77, 78] [0, 47, 48, 49, 50, 51, 52, 53, 54, 55, 56, 57, 58, 59, 60, 61, 62, 1, 2, 3, 4, 5, 6, 7, 8, 9, 10, 11, 12, 13, 14, 15, 16, 17, 18, 19, 20, 21, 22, 23, 24, 25, 26, 27, 28, 29, 30, 31, 32, 63, 64, 65, 66, 67, 68, 69, 70, 71, 72, 73, 74, 75, 76, 77, 78, 33, 34, 35, 36, 37, 38, 39, 40, 41, 42, 43, 44, 45, 46] (wcX6_X5_X5_1_49 cs a S L) (by decide +kernel) hk hP1 (wbX6_X5_X5_1_49_S0 cs a S L S37)
          have hD := hDA (k_sp S 1 16 S37) L
          refine lv_iconst (v := (1 : Int32)) hx hb dX6_from_40 (by decide) ?_
          obtain ⟨e1, e2⟩ := dn_s2 hd
          exact k_iret hx hb hr hQ hAe e1 (by rw [e2]) hP hS hlocks dX6_from_41
        · have hd := dn_f e36_1 hd
          cases hd
    · have hd := dn_t c19 hd
      refine lv_aload_n hx hb dX6_from_22 rfl (lv_at hl 0 rfl) ?_
      obtain ⟨r23, S23, hq23, hd⟩ := dn_b2 hd
      have hF := k_self hD hS hA
      refine k_run_i (va_runV (As := []) (rest := []) ⟨hx, hb, hml, hown, hts⟩ (mX6_refusedAsNo l D cs a S L r23 S23 hq23 _) (cwV 0 hts gX6_from_X6_refusedAsNo rfl rfl rfl (by decide +kernel) ⟨Nat.le_of_ble_eq_true rfl, Nat.le_of_ble_eq_true rfl⟩) ⟨k_blind, va_recv hK hP (ci := 4) (q0 := 0) rfl rfl, k_pre hP hK hNn hD⟩ rfl rfl hl.1 rfl (lv_room (Nat.le_of_ble_eq_true rfl)) dX6_from_23 ⟨Nat.le_of_ble_eq_true rfl, Nat.le_of_ble_eq_true rfl⟩) hS hF (fun H locs hP1 hk hS => ?_)
      have hP : va_P D vwCl (wX6 cs a S23 L) _ := hP1
      have hD := hDA S23 L
      obtain ⟨e1, e2⟩ := dn_s2 hd
      exact k_iret hx hb hr hQ hAe e1 (by rw [e2]) hP hS hlocks dX6_from_26
  · have hd := dn_t c5 hd
    refine lv_aload_n hx hb dX6_from_8 rfl (lv_at hl 0 rfl) ?_
    obtain ⟨r9, S9, hq9, hd⟩ := dn_b2 hd
    have hF := k_self hD hS hA
    refine k_run_i (va_runV (As := []) (rest := []) ⟨hx, hb, hml, hown, hts⟩ (mX6_refusedAsBad l D cs a S L r9 S9 hq9 _) (cwV 0 hts gX6_from_X6_refusedAsBad rfl rfl rfl (by decide +kernel) ⟨Nat.le_of_ble_eq_true rfl, Nat.le_of_ble_eq_true rfl⟩) ⟨k_blind, va_recv hK hP (ci := 4) (q0 := 0) rfl rfl, k_pre hP hK hNn hD⟩ rfl rfl hl.1 rfl (lv_room (Nat.le_of_ble_eq_true rfl)) dX6_from_9 ⟨Nat.le_of_ble_eq_true rfl, Nat.le_of_ble_eq_true rfl⟩) hS hF (fun H locs hP1 hk hS => ?_)
    have hP : va_P D vwCl (wX6 cs a S9 L) _ := hP1
    have hD := hDA S9 L
    obtain ⟨e1, e2⟩ := dn_s2 hd
    exact k_iret hx hb hr hQ hAe e1 (by rw [e2]) hP hS hlocks dX6_from_12
-- LeastNeed.status(I)I
set_option maxHeartbeats 4000000 in
set_option maxRecDepth 100000 in
theorem mX6_status (l : Launch) (D : va_G) (cs : Nat → ClassId) (a : Nat → Nat) (S : Nat → Nat → Int32) (L : Nat → Nat → Int64) (p1 : Int32) (r9 : Int32) (S9 : (Nat → Nat → Int32)) (hd : nX6_status S L p1 = some (r9, S9)) : ∀ sz : Nat, Met l yX6_status wsX6_status ({ frames := 1, cells := 0, slots := 0, locals := 21 }) (k_Pc D cs [.ref (a 0), .int p1] (wX6 cs a S L) sz) (k_Qi D r9 (wX6 cs a S L) (wX6 cs a S9 L) sz) 0 0 (va_A (wX6 cs a S L) sz) := by
  intro sz
  refine Met.ofW (cc := cX6_status) (maxL := 2) (ret := (some .int)) (by decide) rfl ?_
  intro p e s m args below meth c s₁ B hml hv
  obtain ⟨rfl, hsz, hP, hK, hD0, hNn⟩ := hv
  have hx := B.exec
  have hb := B.bytes
  have hr := B.returns
  have hts := atoms_spec (ws := wsX6_status) B.pre
  have hown : s.vm.findClass RX6 = some m.cls := findClass_of_methodNamed B.named
  have hlocks := B.notSynchronized
  subst hsz
  obtain ⟨A, hAe⟩ : ∃ A : Nat → Prop, A = va_A (wX6 cs a S L) s.heap.size := ⟨_, rfl⟩
  have hD : va_D A (wX6 cs a S L) := by rw [hAe]; exact hD0.self
  have hA : ∀ q : Nat, s.heap.size ≤ q → A q := fun q h => by rw [hAe]; exact Or.inr h
  have hS : va_S A s.heap s.heap [] := va_S.rf
  have hDA : ∀ (S : Nat → Nat → Int32) (L : Nat → Nat → Int64), va_D A (wX6 cs a S L) := fun S L => k_DA hD rfl
  have hl := lv_entry ([.ref (a 0), .int p1]) (n := 2) (Nat.le_of_ble_eq_true rfl)
  rw [lg_entry_eq]
  generalize (lg_sl ([.ref (a 0), .int p1]) ++ List.replicate (2 - (lg_sl ([.ref (a 0), .int p1])).length) Slot.unset).toArray = ls at hl ⊢
  have hl : lv_has ls 2 [(0, .ref (a 0)), (1, .int p1)] := hl
  obtain ⟨Q, hQ⟩ : ∃ Q, Q = MQ below (k_Qi D r9 (wX6 cs a S L) (wX6 cs a S9 L) s.heap.size) ([.ref (a 0), .int p1] : List Value).toArray s 0 0 (va_A (wX6 cs a S L) s.heap.size) := ⟨_, rfl⟩
  rw [← hQ]
  unfold nX6_status at hd
  refine lv_iload_n hx hb dX6_status_0 rfl (lv_at hl 1 rfl) ?_
  refine lv_iconst (v := (3 : Int32)) hx hb dX6_status_1 (by decide) ?_
  obtain ⟨r2, hq2, hd⟩ := dn_b1 hd
  have hPc := k_P0 hP
  have hDc : va_D A ([] : va_W) := k_D0
  have hF := k_self hDc hS hA
  refine k_run_i (va_runS (As := [.int p1, .int (3 : Int32)]) (rest := []) ⟨hx, hb, hml, hown, hts⟩ (mX6_upTo l D cs  p1 (3 : Int32) r2 hq2 _) (va_cwS 2 hts gX6_status_X6_upTo rfl rfl rfl (by decide +kernel) ⟨Nat.le_of_ble_eq_true rfl, Nat.le_of_ble_eq_true rfl⟩) ⟨k_blind, k_pre hPc hK hNn hDc⟩ rfl rfl hl.1 rfl (lv_room (Nat.le_of_ble_eq_true rfl)) dX6_status_2 ⟨Nat.le_of_ble_eq_true rfl, Nat.le_of_ble_eq_true rfl⟩) hS hF (fun H locs hP1 hk hS => ?_)
  have hP : va_P D vwCl (wX6 cs a S L) _ := k_keep hP hk
  refine lv_if_ne (tgt := 15) hx hb dX6_status_5 (by decide) (fun c5 => ?_) (fun c5 => ?_)
  · have hd := dn_f c5 hd
    refine lv_aload_n hx hb dX6_status_15 rfl (lv_at hl 0 rfl) ?_
    refine va_get (D := D) (ci := 4) (v := .ref (a 75)) (C := RX6) (T := TX6) (N := 12) hx hb hts (fun w h => List.mem_cons_of_mem _ (List.mem_append_right _ h)) hown hK hP 0 rfl rfl 6 (by decide) (hts (.fieldLink RX6 41 "LeastNeed" "refused" "[I") (List.mem_of_getElem? (i := 1) rfl)) (fun _ h9 => h9) rfl dX6_status_16 ?_
    refine lv_iload_n hx hb dX6_status_19 rfl (lv_at hl 1 rfl) ?_
    obtain ⟨hi20, hd⟩ := dn_i hd
    refine k_iald (D := D) (k := p1.toNatClampNeg) (by rfl) hx hb hK hP 75 1 rfl rfl hi20 dX6_status_20 ?_
    obtain ⟨e1, e2⟩ := dn_s2 hd
    exact k_iret hx hb hr hQ hAe e1 (by rw [e2]) hP hS hlocks dX6_status_21
  · have hd := dn_t c5 hd
    refine lv_aload_n hx hb dX6_status_8 rfl (lv_at hl 0 rfl) ?_
    obtain ⟨r9, S9, hq9, hd⟩ := dn_b2 hd
    have hF := k_self hD hS hA
    refine k_run_i (va_runV (As := []) (rest := []) ⟨hx, hb, hml, hown, hts⟩ (mX6_refusedAsBad l D cs a S L r9 S9 hq9 _) (cwV 0 hts gX6_status_X6_refusedAsBad rfl rfl rfl (by decide +kernel) ⟨Nat.le_of_ble_eq_true rfl, Nat.le_of_ble_eq_true rfl⟩) ⟨k_blind, va_recv hK hP (ci := 4) (q0 := 0) rfl rfl, k_pre hP hK hNn hD⟩ rfl rfl hl.1 rfl (lv_room (Nat.le_of_ble_eq_true rfl)) dX6_status_9 ⟨Nat.le_of_ble_eq_true rfl, Nat.le_of_ble_eq_true rfl⟩) hS hF (fun H locs hP1 hk hS => ?_)
    have hP : va_P D vwCl (wX6 cs a S9 L) _ := hP1
    have hD := hDA S9 L
    refine lv_pop hx hb dX6_status_12 rfl ?_
    refine lv_iconst (v := (-1 : Int32)) hx hb dX6_status_13 (by decide) ?_
    obtain ⟨e1, e2⟩ := dn_s2 hd
    exact k_iret hx hb hr hQ hAe e1 (by rw [e2]) hP hS hlocks dX6_status_14
-- LeastNeed.howMany(I)I
set_option maxHeartbeats 4000000 in
set_option maxRecDepth 100000 in
theorem mX6_howMany (l : Launch) (D : va_G) (cs : Nat → ClassId) (a : Nat → Nat) (S : Nat → Nat → Int32) (L : Nat → Nat → Int64) (p1 : Int32) (r9 : Int32) (hd : nX6_howMany S L p1 = some r9) : ∀ sz : Nat, Met l yX6_howMany wsX6_howMany ({ frames := 1, cells := 0, slots := 0, locals := 23 }) (k_Pc D cs [.ref (a 0), .int p1] (wX6 cs a S L) sz) (k_Qi D r9 (wX6 cs a S L) (wX6 cs a S L) sz) 0 0 (va_A (wX6 cs a S L) sz) := by
  intro sz
  refine Met.ofW (cc := cX6_howMany) (maxL := 2) (ret := (some .int)) (by decide) rfl ?_
  intro p e s m args below meth c s₁ B hml hv
  obtain ⟨rfl, hsz, hP, hK, hD0, hNn⟩ := hv
  have hx := B.exec
  have hb := B.bytes
  have hr := B.returns
  have hts := atoms_spec (ws := wsX6_howMany) B.pre
  have hown : s.vm.findClass RX6 = some m.cls := findClass_of_methodNamed B.named
  have hlocks := B.notSynchronized
  subst hsz
  obtain ⟨A, hAe⟩ : ∃ A : Nat → Prop, A = va_A (wX6 cs a S L) s.heap.size := ⟨_, rfl⟩
  have hD : va_D A (wX6 cs a S L) := by rw [hAe]; exact hD0.self
  have hA : ∀ q : Nat, s.heap.size ≤ q → A q := fun q h => by rw [hAe]; exact Or.inr h
  have hS : va_S A s.heap s.heap [] := va_S.rf
  have hDA : ∀ (S : Nat → Nat → Int32) (L : Nat → Nat → Int64), va_D A (wX6 cs a S L) := fun S L => k_DA hD rfl
  have hl := lv_entry ([.ref (a 0), .int p1]) (n := 2) (Nat.le_of_ble_eq_true rfl)
  rw [lg_entry_eq]
  generalize (lg_sl ([.ref (a 0), .int p1]) ++ List.replicate (2 - (lg_sl ([.ref (a 0), .int p1])).length) Slot.unset).toArray = ls at hl ⊢
  have hl : lv_has ls 2 [(0, .ref (a 0)), (1, .int p1)] := hl
  obtain ⟨Q, hQ⟩ : ∃ Q, Q = MQ below (k_Qi D r9 (wX6 cs a S L) (wX6 cs a S L) s.heap.size) ([.ref (a 0), .int p1] : List Value).toArray s 0 0 (va_A (wX6 cs a S L) s.heap.size) := ⟨_, rfl⟩
  rw [← hQ]
  unfold nX6_howMany at hd
  refine lv_iload_n hx hb dX6_howMany_0 rfl (lv_at hl 1 rfl) ?_
  by_cases e1_0 : p1 = (0 : Int32)
  · have hd := dn_t e1_0 hd
    refine lv_tableIn (off := 47) (tgt := 48) hx hb dX6_howMany_1 (by rw [e1_0]; decide) (by rw [e1_0]; decide) (by rw [e1_0]; rfl) (by decide) ?_
    refine lv_aload_n hx hb dX6_howMany_48 rfl (lv_at hl 0 rfl) ?_
    refine va_get (D := D) (ci := 4) (v := .ref (a 1)) (C := RX6) (T := TX6) (N := 12) hx hb hts (fun w h => List.mem_cons_of_mem _ (List.mem_append_left _ (List.mem_append_left _ (List.mem_append_left _ (List.mem_append_right _ h))))) hown hK hP 0 rfl rfl 0 (by decide) (hts (.fieldLink RX6 12 "LeastNeed" "now" "LLeastNeed$Valley;") (List.mem_of_getElem? (i := 1) rfl)) (fun _ h9 => h9) rfl dX6_howMany_49 ?_
    refine va_get (D := D) (ci := 3) (v := .int (S 1 12)) (C := RX5) (T := TX5) (N := 15) hx hb hts (fun w h => List.mem_cons_of_mem _ (List.mem_append_left _ (List.mem_append_left _ (List.mem_append_right _ h)))) hown hK hP 1 rfl rfl 12 (by decide) (hts (.fieldLink RX6 61 "LeastNeed$Valley" "people" "I") (List.mem_of_getElem? (i := 2) rfl)) (fun _ h9 => h9) rfl dX6_howMany_52 ?_
    have e1 := dn_s1 hd
    exact k_iret hx hb hr hQ hAe e1 rfl hP hS hlocks dX6_howMany_55
  · have hd := dn_f e1_0 hd
    by_cases e1_1 : p1 = (1 : Int32)
    · have hd := dn_t e1_1 hd
      refine lv_tableIn (off := 55) (tgt := 56) hx hb dX6_howMany_1 (by rw [e1_1]; decide) (by rw [e1_1]; decide) (by rw [e1_1]; rfl) (by decide) ?_
      refine lv_aload_n hx hb dX6_howMany_56 rfl (lv_at hl 0 rfl) ?_
      refine va_get (D := D) (ci := 4) (v := .ref (a 1)) (C := RX6) (T := TX6) (N := 12) hx hb hts (fun w h => List.mem_cons_of_mem _ (List.mem_append_left _ (List.mem_append_left _ (List.mem_append_left _ (List.mem_append_right _ h))))) hown hK hP 0 rfl rfl 0 (by decide) (hts (.fieldLink RX6 12 "LeastNeed" "now" "LLeastNeed$Valley;") (List.mem_of_getElem? (i := 1) rfl)) (fun _ h9 => h9) rfl dX6_howMany_57 ?_
      refine va_get (D := D) (ci := 3) (v := .int (S 1 13)) (C := RX5) (T := TX5) (N := 15) hx hb hts (fun w h => List.mem_cons_of_mem _ (List.mem_append_left _ (List.mem_append_left _ (List.mem_append_right _ h)))) hown hK hP 1 rfl rfl 13 (by decide) (hts (.fieldLink RX6 87 "LeastNeed$Valley" "things" "I") (List.mem_of_getElem? (i := 3) rfl)) (fun _ h9 => h9) rfl dX6_howMany_60 ?_
      have e1 := dn_s1 hd
      exact k_iret hx hb hr hQ hAe e1 rfl hP hS hlocks dX6_howMany_63
    · have hd := dn_f e1_1 hd
      by_cases e1_2 : p1 = (2 : Int32)
      · have hd := dn_t e1_2 hd
        refine lv_tableIn (off := 63) (tgt := 64) hx hb dX6_howMany_1 (by rw [e1_2]; decide) (by rw [e1_2]; decide) (by rw [e1_2]; rfl) (by decide) ?_
        refine lv_aload_n hx hb dX6_howMany_64 rfl (lv_at hl 0 rfl) ?_
        refine va_get (D := D) (ci := 4) (v := .ref (a 1)) (C := RX6) (T := TX6) (N := 12) hx hb hts (fun w h => List.mem_cons_of_mem _ (List.mem_append_left _ (List.mem_append_left _ (List.mem_append_left _ (List.mem_append_right _ h))))) hown hK hP 0 rfl rfl 0 (by decide) (hts (.fieldLink RX6 12 "LeastNeed" "now" "LLeastNeed$Valley;") (List.mem_of_getElem? (i := 1) rfl)) (fun _ h9 => h9) rfl dX6_howMany_65 ?_
        refine va_get (D := D) (ci := 3) (v := .int (S 1 14)) (C := RX5) (T := TX5) (N := 15) hx hb hts (fun w h => List.mem_cons_of_mem _ (List.mem_append_left _ (List.mem_append_left _ (List.mem_append_right _ h)))) hown hK hP 1 rfl rfl 14 (by decide) (hts (.fieldLink RX6 137 "LeastNeed$Valley" "today" "I") (List.mem_of_getElem? (i := 4) rfl)) (fun _ h9 => h9) rfl dX6_howMany_68 ?_
        have e1 := dn_s1 hd
        exact k_iret hx hb hr hQ hAe e1 rfl hP hS hlocks dX6_howMany_71
      · have hd := dn_f e1_2 hd
        by_cases e1_3 : p1 = (3 : Int32)
        · have hd := dn_t e1_3 hd
          refine lv_tableIn (off := 71) (tgt := 72) hx hb dX6_howMany_1 (by rw [e1_3]; decide) (by rw [e1_3]; decide) (by rw [e1_3]; rfl) (by decide) ?_
          refine lv_aload_n hx hb dX6_howMany_72 rfl (lv_at hl 0 rfl) ?_
          refine va_get (D := D) (ci := 4) (v := .ref (a 1)) (C := RX6) (T := TX6) (N := 12) hx hb hts (fun w h => List.mem_cons_of_mem _ (List.mem_append_left _ (List.mem_append_left _ (List.mem_append_left _ (List.mem_append_right _ h))))) hown hK hP 0 rfl rfl 0 (by decide) (hts (.fieldLink RX6 12 "LeastNeed" "now" "LLeastNeed$Valley;") (List.mem_of_getElem? (i := 1) rfl)) (fun _ h9 => h9) rfl dX6_howMany_73 ?_
          refine lv_iconst (v := (1 : Int32)) hx hb dX6_howMany_76 (by decide) ?_
          obtain ⟨r77, hq77, hd⟩ := dn_b1 hd
          have hPc : va_P D vwCl (wX5 cs (k_wi a 1) (k_wi S 1)) _ := k_sub hP [1, 2, 3, 4, 5, 6, 7, 8, 9, 10, 11, 12, 13, 14, 15, 16] (wcX6_X5_1 cs a S L)
          have hDc : va_D A (wX5 cs (k_wi a 1) (k_wi S 1)) := hD.sub [1, 2, 3, 4, 5, 6, 7, 8, 9, 10, 11, 12, 13, 14, 15, 16] (by decide +kernel) (wcX6_X5_1 cs a S L)
          have hF := k_self hDc hS hA
          refine k_run_i (va_runV (As := [.int (1 : Int32)]) (rest := []) ⟨hx, hb, hml, hown, hts⟩ (mX5_howManyLie l D cs (k_wi a 1) (k_wi S 1) (1 : Int32) r77 hq77 _) (cwV 1 hts gX6_howMany_X5_howManyLie rfl rfl rfl (by decide +kernel) ⟨Nat.le_of_ble_eq_true rfl, Nat.le_of_ble_eq_true rfl⟩) ⟨k_blind, va_recv hK hP (ci := 3) (q0 := 1) rfl rfl, k_pre hPc hK hNn hDc⟩ rfl rfl hl.1 rfl (lv_room (Nat.le_of_ble_eq_true rfl)) dX6_howMany_77 ⟨Nat.le_of_ble_eq_true rfl, Nat.le_of_ble_eq_true rfl⟩) hS hF (fun H locs hP1 hk hS => ?_)
          have hP : va_P D vwCl (wX6 cs a S L) _ := k_back hP hD [1, 2, 3, 4, 5, 6, 7, 8, 9, 10, 11, 12, 13, 14, 15, 16] [0, 17, 18, 19, 20, 21, 22, 23, 24, 25, 26, 27, 28, 29, 30, 31, 32, 33, 34, 35, 36, 37, 38, 39, 40, 41, 42, 43, 44, 45, 46, 47, 48, 49, 50, 51, 52, 53, 54, 55, 56, 57, 58, 59, 60, 61, 62, 63, 64, 65, 66, 67, 68, 69, 70, 71, 72, 73, 74, 75, 76, 77, 78] [0, 63, 64, 65, 66, 67, 68, 69, 70, 71, 72, 73, 74, 75, 76, 77, 78, 1, 2, 3, 4, 5, 6, 7, 8, 9, 10, 11, 12, 13, 14, 15, 16, 17, 18, 19, 20, 21, 22, 23, 24, 25, 26, 27, 28, 29, 30, 31, 32, 33, 34, 35, 36, 37, 38, 39, 40, 41, 42, 43, 44, 45, 46, 47, 48, 49, 50, 51, 52, 53, 54, 55, 56, 57, 58, 59, 60, 61, 62] (wcX6_X5_1 cs a S L) (by decide +kernel) hk hP1 (wbX6_X5_1 cs a S L)
          have hD := hDA S L
          refine lv_aload_n hx hb dX6_howMany_80 rfl (lv_at hl 0 rfl) ?_
          refine va_get (D := D) (ci := 4) (v := .ref (a 1)) (C := RX6) (T := TX6) (N := 12) hx hb hts (fun w h => List.mem_cons_of_mem _ (List.mem_append_left _ (List.mem_append_left _ (List.mem_append_left _ (List.mem_append_right _ h))))) hown hK hP 0 rfl rfl 0 (by decide) (hts (.fieldLink RX6 12 "LeastNeed" "now" "LLeastNeed$Valley;") (List.mem_of_getElem? (i := 1) rfl)) (fun _ h9 => h9) rfl dX6_howMany_81 ?_
          refine lv_iconst (v := (2 : Int32)) hx hb dX6_howMany_84 (by decide) ?_
          obtain ⟨r85, hq85, hd⟩ := dn_b1 hd
          have hPc : va_P D vwCl (wX5 cs (k_wi a 1) (k_wi S 1)) _ := k_sub hP [1, 2, 3, 4, 5, 6, 7, 8, 9, 10, 11, 12, 13, 14, 15, 16] (wcX6_X5_1 cs a S L)
          have hDc : va_D A (wX5 cs (k_wi a 1) (k_wi S 1)) := hD.sub [1, 2, 3, 4, 5, 6, 7, 8, 9, 10, 11, 12, 13, 14, 15, 16] (by decide +kernel) (wcX6_X5_1 cs a S L)
          have hF := k_self hDc hS hA
          refine k_run_i (va_runV (As := [.int (2 : Int32)]) (rest := [.int r77]) ⟨hx, hb, hml, hown, hts⟩ (mX5_howManyLie l D cs (k_wi a 1) (k_wi S 1) (2 : Int32) r85 hq85 _) (cwV 1 hts gX6_howMany_X5_howManyLie rfl rfl rfl (by decide +kernel) ⟨Nat.le_of_ble_eq_true rfl, Nat.le_of_ble_eq_true rfl⟩) ⟨k_blind, va_recv hK hP (ci := 3) (q0 := 1) rfl rfl, k_pre hPc hK hNn hDc⟩ rfl rfl hl.1 rfl (lv_room (Nat.le_of_ble_eq_true rfl)) dX6_howMany_85 ⟨Nat.le_of_ble_eq_true rfl, Nat.le_of_ble_eq_true rfl⟩) hS hF (fun H locs hP1 hk hS => ?_)
          have hP : va_P D vwCl (wX6 cs a S L) _ := k_back hP hD [1, 2, 3, 4, 5, 6, 7, 8, 9, 10, 11, 12, 13, 14, 15, 16] [0, 17, 18, 19, 20, 21, 22, 23, 24, 25, 26, 27, 28, 29, 30, 31, 32, 33, 34, 35, 36, 37, 38, 39, 40, 41, 42, 43, 44, 45, 46, 47, 48, 49, 50, 51, 52, 53, 54, 55, 56, 57, 58, 59, 60, 61, 62, 63, 64, 65, 66, 67, 68, 69, 70, 71, 72, 73, 74, 75, 76, 77, 78] [0, 63, 64, 65, 66, 67, 68, 69, 70, 71, 72, 73, 74, 75, 76, 77, 78, 1, 2, 3, 4, 5, 6, 7, 8, 9, 10, 11, 12, 13, 14, 15, 16, 17, 18, 19, 20, 21, 22, 23, 24, 25, 26, 27, 28, 29, 30, 31, 32, 33, 34, 35, 36, 37, 38, 39, 40, 41, 42, 43, 44, 45, 46, 47, 48, 49, 50, 51, 52, 53, 54, 55, 56, 57, 58, 59, 60, 61, 62] (wcX6_X5_1 cs a S L) (by decide +kernel) hk hP1 (wbX6_X5_1 cs a S L)
          have hD := hDA S L
          refine lv_iadd hx hb dX6_howMany_88 ?_
          have e1 := dn_s1 hd
          exact k_iret hx hb hr hQ hAe e1 rfl hP hS hlocks dX6_howMany_89
        · have hd := dn_f e1_3 hd
          by_cases e1_4 : p1 = (4 : Int32)
          · have hd := dn_t e1_4 hd
            refine lv_tableIn (off := 89) (tgt := 90) hx hb dX6_howMany_1 (by rw [e1_4]; decide) (by rw [e1_4]; decide) (by rw [e1_4]; rfl) (by decide) ?_
            refine lv_aload_n hx hb dX6_howMany_90 rfl (lv_at hl 0 rfl) ?_
            refine va_get (D := D) (ci := 4) (v := .ref (a 1)) (C := RX6) (T := TX6) (N := 12) hx hb hts (fun w h => List.mem_cons_of_mem _ (List.mem_append_left _ (List.mem_append_left _ (List.mem_append_left _ (List.mem_append_right _ h))))) hown hK hP 0 rfl rfl 0 (by decide) (hts (.fieldLink RX6 12 "LeastNeed" "now" "LLeastNeed$Valley;") (List.mem_of_getElem? (i := 1) rfl)) (fun _ h9 => h9) rfl dX6_howMany_91 ?_
            obtain ⟨r94, hq94, hd⟩ := dn_b1 hd
            have hPc : va_P D vwCl (wX5 cs (k_wi a 1) (k_wi S 1)) _ := k_sub hP [1, 2, 3, 4, 5, 6, 7, 8, 9, 10, 11, 12, 13, 14, 15, 16] (wcX6_X5_1 cs a S L)
            have hDc : va_D A (wX5 cs (k_wi a 1) (k_wi S 1)) := hD.sub [1, 2, 3, 4, 5, 6, 7, 8, 9, 10, 11, 12, 13, 14, 15, 16] (by decide +kernel) (wcX6_X5_1 cs a S L)
            have hF := k_self hDc hS hA
            refine k_run_i (va_runV (As := []) (rest := []) ⟨hx, hb, hml, hown, hts⟩ (mX5_howManyAtHome l D cs (k_wi a 1) (k_wi S 1) r94 hq94 _) (cwV 0 hts gX6_howMany_X5_howManyAtHome rfl rfl rfl (by decide +kernel) ⟨Nat.le_of_ble_eq_true rfl, Nat.le_of_ble_eq_true rfl⟩) ⟨k_blind, va_recv hK hP (ci := 3) (q0 := 1) rfl rfl, k_pre hPc hK hNn hDc⟩ rfl rfl hl.1 rfl (lv_room (Nat.le_of_ble_eq_true rfl)) dX6_howMany_94 ⟨Nat.le_of_ble_eq_true rfl, Nat.le_of_ble_eq_true rfl⟩) hS hF (fun H locs hP1 hk hS => ?_)
            have hP : va_P D vwCl (wX6 cs a S L) _ := k_back hP hD [1, 2, 3, 4, 5, 6, 7, 8, 9, 10, 11, 12, 13, 14, 15, 16] [0, 17, 18, 19, 20, 21, 22, 23, 24, 25, 26, 27, 28, 29, 30, 31, 32, 33, 34, 35, 36, 37, 38, 39, 40, 41, 42, 43, 44, 45, 46, 47, 48, 49, 50, 51, 52, 53, 54, 55, 56, 57, 58, 59, 60, 61, 62, 63, 64, 65, 66, 67, 68, 69, 70, 71, 72, 73, 74, 75, 76, 77, 78] [0, 63, 64, 65, 66, 67, 68, 69, 70, 71, 72, 73, 74, 75, 76, 77, 78, 1, 2, 3, 4, 5, 6, 7, 8, 9, 10, 11, 12, 13, 14, 15, 16, 17, 18, 19, 20, 21, 22, 23, 24, 25, 26, 27, 28, 29, 30, 31, 32, 33, 34, 35, 36, 37, 38, 39, 40, 41, 42, 43, 44, 45, 46, 47, 48, 49, 50, 51, 52, 53, 54, 55, 56, 57, 58, 59, 60, 61, 62] (wcX6_X5_1 cs a S L) (by decide +kernel) hk hP1 (wbX6_X5_1 cs a S L)
            have hD := hDA S L
            have e1 := dn_s1 hd
            exact k_iret hx hb hr hQ hAe e1 rfl hP hS hlocks dX6_howMany_97
          · have hd := dn_f e1_4 hd
            by_cases e1_5 : p1 = (5 : Int32)
            · have hd := dn_t e1_5 hd
              refine lv_tableIn (off := 97) (tgt := 98) hx hb dX6_howMany_1 (by rw [e1_5]; decide) (by rw [e1_5]; decide) (by rw [e1_5]; rfl) (by decide) ?_
              refine lv_aload_n hx hb dX6_howMany_98 rfl (lv_at hl 0 rfl) ?_
              refine va_get (D := D) (ci := 4) (v := .ref (a 1)) (C := RX6) (T := TX6) (N := 12) hx hb hts (fun w h => List.mem_cons_of_mem _ (List.mem_append_left _ (List.mem_append_left _ (List.mem_append_left _ (List.mem_append_right _ h))))) hown hK hP 0 rfl rfl 0 (by decide) (hts (.fieldLink RX6 12 "LeastNeed" "now" "LLeastNeed$Valley;") (List.mem_of_getElem? (i := 1) rfl)) (fun _ h9 => h9) rfl dX6_howMany_99 ?_
              refine va_get (D := D) (ci := 3) (v := .ref (a 11)) (C := RX5) (T := TX5) (N := 15) hx hb hts (fun w h => List.mem_cons_of_mem _ (List.mem_append_left _ (List.mem_append_left _ (List.mem_append_right _ h)))) hown hK hP 1 rfl rfl 9 (by decide) (hts (.fieldLink RX6 198 "LeastNeed$Valley" "notes" "LLeastNeed$Rows;") (List.mem_of_getElem? (i := 5) rfl)) (fun _ h9 => h9) rfl dX6_howMany_102 ?_
              refine va_get (D := D) (ci := 2) (v := .int (S 11 3)) (C := RX3) (T := TX3) (N := 4) hx hb hts (fun w h => List.mem_cons_of_mem _ (List.mem_append_left _ (List.mem_append_right _ h))) hown hK hP 11 rfl rfl 3 (by decide) (hts (.fieldLink RX6 150 "LeastNeed$Rows" "used" "I") (List.mem_of_getElem? (i := 6) rfl)) (fun _ h9 => h9) rfl dX6_howMany_105 ?_
              have e1 := dn_s1 hd
              exact k_iret hx hb hr hQ hAe e1 rfl hP hS hlocks dX6_howMany_108
            · have hd := dn_f e1_5 hd
              by_cases e1_6 : p1 = (6 : Int32)
              · have hd := dn_t e1_6 hd
                refine lv_tableIn (off := 108) (tgt := 109) hx hb dX6_howMany_1 (by rw [e1_6]; decide) (by rw [e1_6]; decide) (by rw [e1_6]; rfl) (by decide) ?_
                refine lv_aload_n hx hb dX6_howMany_109 rfl (lv_at hl 0 rfl) ?_
                refine va_get (D := D) (ci := 4) (v := .ref (a 1)) (C := RX6) (T := TX6) (N := 12) hx hb hts (fun w h => List.mem_cons_of_mem _ (List.mem_append_left _ (List.mem_append_left _ (List.mem_append_left _ (List.mem_append_right _ h))))) hown hK hP 0 rfl rfl 0 (by decide) (hts (.fieldLink RX6 12 "LeastNeed" "now" "LLeastNeed$Valley;") (List.mem_of_getElem? (i := 1) rfl)) (fun _ h9 => h9) rfl dX6_howMany_110 ?_
                refine va_get (D := D) (ci := 3) (v := .ref (a 13)) (C := RX5) (T := TX5) (N := 15) hx hb hts (fun w h => List.mem_cons_of_mem _ (List.mem_append_left _ (List.mem_append_left _ (List.mem_append_right _ h)))) hown hK hP 1 rfl rfl 10 (by decide) (hts (.fieldLink RX6 211 "LeastNeed$Valley" "cames" "LLeastNeed$Rows;") (List.mem_of_getElem? (i := 7) rfl)) (fun _ h9 => h9) rfl dX6_howMany_113 ?_
                refine va_get (D := D) (ci := 2) (v := .int (S 13 3)) (C := RX3) (T := TX3) (N := 4) hx hb hts (fun w h => List.mem_cons_of_mem _ (List.mem_append_left _ (List.mem_append_right _ h))) hown hK hP 13 rfl rfl 3 (by decide) (hts (.fieldLink RX6 150 "LeastNeed$Rows" "used" "I") (List.mem_of_getElem? (i := 6) rfl)) (fun _ h9 => h9) rfl dX6_howMany_116 ?_
                have e1 := dn_s1 hd
                exact k_iret hx hb hr hQ hAe e1 rfl hP hS hlocks dX6_howMany_119
              · have hd := dn_f e1_6 hd
                by_cases e1_7 : p1 = (7 : Int32)
                · have hd := dn_t e1_7 hd
                  refine lv_tableIn (off := 119) (tgt := 120) hx hb dX6_howMany_1 (by rw [e1_7]; decide) (by rw [e1_7]; decide) (by rw [e1_7]; rfl) (by decide) ?_
                  refine lv_aload_n hx hb dX6_howMany_120 rfl (lv_at hl 0 rfl) ?_
                  refine va_get (D := D) (ci := 4) (v := .ref (a 1)) (C := RX6) (T := TX6) (N := 12) hx hb hts (fun w h => List.mem_cons_of_mem _ (List.mem_append_left _ (List.mem_append_left _ (List.mem_append_left _ (List.mem_append_right _ h))))) hown hK hP 0 rfl rfl 0 (by decide) (hts (.fieldLink RX6 12 "LeastNeed" "now" "LLeastNeed$Valley;") (List.mem_of_getElem? (i := 1) rfl)) (fun _ h9 => h9) rfl dX6_howMany_121 ?_
                  refine va_get (D := D) (ci := 3) (v := .ref (a 15)) (C := RX5) (T := TX5) (N := 15) hx hb hts (fun w h => List.mem_cons_of_mem _ (List.mem_append_left _ (List.mem_append_left _ (List.mem_append_right _ h)))) hown hK hP 1 rfl rfl 11 (by decide) (hts (.fieldLink RX6 146 "LeastNeed$Valley" "past" "LLeastNeed$Rows;") (List.mem_of_getElem? (i := 8) rfl)) (fun _ h9 => h9) rfl dX6_howMany_124 ?_
                  refine va_get (D := D) (ci := 2) (v := .int (S 15 3)) (C := RX3) (T := TX3) (N := 4) hx hb hts (fun w h => List.mem_cons_of_mem _ (List.mem_append_left _ (List.mem_append_right _ h))) hown hK hP 15 rfl rfl 3 (by decide) (hts (.fieldLink RX6 150 "LeastNeed$Rows" "used" "I") (List.mem_of_getElem? (i := 6) rfl)) (fun _ h9 => h9) rfl dX6_howMany_127 ?_
                  have e1 := dn_s1 hd
                  exact k_iret hx hb hr hQ hAe e1 rfl hP hS hlocks dX6_howMany_130
                · have hd := dn_f e1_7 hd
                  refine lv_tableOut (tgt := 131) hx hb dX6_howMany_1 (by have q0 := lv_neT e1_0 (a := 0) (by decide); have q1 := lv_neT e1_1 (a := 1) (by decide); have q2 := lv_neT e1_2 (a := 2) (by decide); have q3 := lv_neT e1_3 (a := 3) (by decide); have q4 := lv_neT e1_4 (a := 4) (by decide); have q5 := lv_neT e1_5 (a := 5) (by decide); have q6 := lv_neT e1_6 (a := 6) (by decide); have q7 := lv_neT e1_7 (a := 7) (by decide); omega) (by decide) ?_
                  refine lv_aload_n hx hb dX6_howMany_131 rfl (lv_at hl 0 rfl) ?_
                  refine va_get (D := D) (ci := 4) (v := .ref (a 67)) (C := RX6) (T := TX6) (N := 12) hx hb hts (fun w h => List.mem_cons_of_mem _ (List.mem_append_left _ (List.mem_append_left _ (List.mem_append_left _ (List.mem_append_right _ h))))) hown hK hP 0 rfl rfl 4 (by decide) (hts (.fieldLink RX6 30 "LeastNeed" "reader" "LLeastNeed$Reader;") (List.mem_of_getElem? (i := 9) rfl)) (fun _ h9 => h9) rfl dX6_howMany_132 ?_
                  refine va_get (D := D) (ci := 1) (v := .int (S 67 2)) (C := RX2) (T := TX2) (N := 6) hx hb hts (fun w h => List.mem_cons_of_mem _ (List.mem_append_right _ h)) hown hK hP 67 rfl rfl 2 (by decide) (hts (.fieldLink RX6 94 "LeastNeed$Reader" "length" "I") (List.mem_of_getElem? (i := 10) rfl)) (fun _ h9 => h9) rfl dX6_howMany_135 ?_
                  have e1 := dn_s1 hd
                  exact k_iret hx hb hr hQ hAe e1 rfl hP hS hlocks dX6_howMany_138
-- LeastNeed.count(I)I
set_option maxHeartbeats 4000000 in
set_option maxRecDepth 100000 in
theorem mX6_count (l : Launch) (D : va_G) (cs : Nat → ClassId) (a : Nat → Nat) (S : Nat → Nat → Int32) (L : Nat → Nat → Int64) (p1 : Int32) (r9 : Int32) (S9 : (Nat → Nat → Int32)) (hd : nX6_count S L p1 = some (r9, S9)) : ∀ sz : Nat, Met l yX6_count wsX6_count ({ frames := 2, cells := 0, slots := 0, locals := 44 }) (k_Pc D cs [.ref (a 0), .int p1] (wX6 cs a S L) sz) (k_Qi D r9 (wX6 cs a S L) (wX6 cs a S9 L) sz) 0 0 (va_A (wX6 cs a S L) sz) := by
  intro sz
  refine Met.ofW (cc := cX6_count) (maxL := 2) (ret := (some .int)) (by decide) rfl ?_
  intro p e s m args below meth c s₁ B hml hv
  obtain ⟨rfl, hsz, hP, hK, hD0, hNn⟩ := hv
  have hx := B.exec
  have hb := B.bytes
  have hr := B.returns
  have hts := atoms_spec (ws := wsX6_count) B.pre
  have hown : s.vm.findClass RX6 = some m.cls := findClass_of_methodNamed B.named
  have hlocks := B.notSynchronized
  subst hsz
  obtain ⟨A, hAe⟩ : ∃ A : Nat → Prop, A = va_A (wX6 cs a S L) s.heap.size := ⟨_, rfl⟩
  have hD : va_D A (wX6 cs a S L) := by rw [hAe]; exact hD0.self
  have hA : ∀ q : Nat, s.heap.size ≤ q → A q := fun q h => by rw [hAe]; exact Or.inr h
  have hS : va_S A s.heap s.heap [] := va_S.rf
  have hDA : ∀ (S : Nat → Nat → Int32) (L : Nat → Nat → Int64), va_D A (wX6 cs a S L) := fun S L => k_DA hD rfl
  have hl := lv_entry ([.ref (a 0), .int p1]) (n := 2) (Nat.le_of_ble_eq_true rfl)
  rw [lg_entry_eq]
  generalize (lg_sl ([.ref (a 0), .int p1]) ++ List.replicate (2 - (lg_sl ([.ref (a 0), .int p1])).length) Slot.unset).toArray = ls at hl ⊢
  have hl : lv_has ls 2 [(0, .ref (a 0)), (1, .int p1)] := hl
  obtain ⟨Q, hQ⟩ : ∃ Q, Q = MQ below (k_Qi D r9 (wX6 cs a S L) (wX6 cs a S9 L) s.heap.size) ([.ref (a 0), .int p1] : List Value).toArray s 0 0 (va_A (wX6 cs a S L) s.heap.size) := ⟨_, rfl⟩
  rw [← hQ]
  unfold nX6_count at hd
  refine lv_iload_n hx hb dX6_count_0 rfl (lv_at hl 1 rfl) ?_
  refine lv_bipush (v := (9 : Int32)) hx hb dX6_count_1 (by decide) ?_
  obtain ⟨r3, hq3, hd⟩ := dn_b1 hd
  have hPc := k_P0 hP
  have hDc : va_D A ([] : va_W) := k_D0
  have hF := k_self hDc hS hA
  refine k_run_i (va_runS (As := [.int p1, .int (9 : Int32)]) (rest := []) ⟨hx, hb, hml, hown, hts⟩ (mX6_upTo l D cs  p1 (9 : Int32) r3 hq3 _) (va_cwS 2 hts gX6_count_X6_upTo rfl rfl rfl (by decide +kernel) ⟨Nat.le_of_ble_eq_true rfl, Nat.le_of_ble_eq_true rfl⟩) ⟨k_blind, k_pre hPc hK hNn hDc⟩ rfl rfl hl.1 rfl (lv_room (Nat.le_of_ble_eq_true rfl)) dX6_count_3 ⟨Nat.le_of_ble_eq_true rfl, Nat.le_of_ble_eq_true rfl⟩) hS hF (fun H locs hP1 hk hS => ?_)
  have hP : va_P D vwCl (wX6 cs a S L) _ := k_keep hP hk
  refine lv_if_ne (tgt := 14) hx hb dX6_count_6 (by decide) (fun c6 => ?_) (fun c6 => ?_)
  · have hd := dn_f c6 hd
    refine lv_aload_n hx hb dX6_count_14 rfl (lv_at hl 0 rfl) ?_
    refine lv_iload_n hx hb dX6_count_15 rfl (lv_at hl 1 rfl) ?_
    obtain ⟨r16, hq16, hd⟩ := dn_b1 hd
    have hF := k_self hD hS hA
    refine k_run_i (va_runV (As := [.int p1]) (rest := []) ⟨hx, hb, hml, hown, hts⟩ (mX6_howMany l D cs a S L p1 r16 hq16 _) (cwV 1 hts gX6_count_X6_howMany rfl rfl rfl (by decide +kernel) ⟨Nat.le_of_ble_eq_true rfl, Nat.le_of_ble_eq_true rfl⟩) ⟨k_blind, va_recv hK hP (ci := 4) (q0 := 0) rfl rfl, k_pre hP hK hNn hD⟩ rfl rfl hl.1 rfl (lv_room (Nat.le_of_ble_eq_true rfl)) dX6_count_16 ⟨Nat.le_of_ble_eq_true rfl, Nat.le_of_ble_eq_true rfl⟩) hS hF (fun H locs hP1 hk hS => ?_)
    have hP : va_P D vwCl (wX6 cs a S L) _ := hP1
    have hD := hDA S L
    obtain ⟨e1, e2⟩ := dn_s2 hd
    exact k_iret hx hb hr hQ hAe e1 (by rw [e2]) hP hS hlocks dX6_count_19
  · have hd := dn_t c6 hd
    refine lv_aload_n hx hb dX6_count_9 rfl (lv_at hl 0 rfl) ?_
    obtain ⟨r10, S10, hq10, hd⟩ := dn_b2 hd
    have hF := k_self hD hS hA
    refine k_run_i (va_runV (As := []) (rest := []) ⟨hx, hb, hml, hown, hts⟩ (mX6_refusedAsBad l D cs a S L r10 S10 hq10 _) (cwV 0 hts gX6_count_X6_refusedAsBad rfl rfl rfl (by decide +kernel) ⟨Nat.le_of_ble_eq_true rfl, Nat.le_of_ble_eq_true rfl⟩) ⟨k_blind, va_recv hK hP (ci := 4) (q0 := 0) rfl rfl, k_pre hP hK hNn hD⟩ rfl rfl hl.1 rfl (lv_room (Nat.le_of_ble_eq_true rfl)) dX6_count_10 ⟨Nat.le_of_ble_eq_true rfl, Nat.le_of_ble_eq_true rfl⟩) hS hF (fun H locs hP1 hk hS => ?_)
    have hP : va_P D vwCl (wX6 cs a S10 L) _ := hP1
    have hD := hDA S10 L
    obtain ⟨e1, e2⟩ := dn_s2 hd
    exact k_iret hx hb hr hQ hAe e1 (by rw [e2]) hP hS hlocks dX6_count_13
-- LeastNeed.digest()J
set_option maxHeartbeats 4000000 in
set_option maxRecDepth 100000 in
theorem mX6_digest (l : Launch) (D : va_G) (cs : Nat → ClassId) (a : Nat → Nat) (S : Nat → Nat → Int32) (L : Nat → Nat → Int64) (r9 : Int64) (hd : nX6_digest S L = some r9) : ∀ sz : Nat, Met l yX6_digest wsX6_digest ({ frames := 2, cells := 0, slots := 0, locals := 44 }) (k_Pc D cs [.ref (a 0)] (wX6 cs a S L) sz) (k_Ql D r9 (wX6 cs a S L) (wX6 cs a S L) sz) 0 0 (va_A (wX6 cs a S L) sz) := by
  intro sz
  refine Met.ofW (cc := cX6_digest) (maxL := 4) (ret := (some .long)) (by decide) rfl ?_
  intro p e s m args below meth c s₁ B hml hv
  obtain ⟨rfl, hsz, hP, hK, hD0, hNn⟩ := hv
  have hx := B.exec
  have hb := B.bytes
  have hr := B.returns
  have hts := atoms_spec (ws := wsX6_digest) B.pre
  have hown : s.vm.findClass RX6 = some m.cls := findClass_of_methodNamed B.named
  have hlocks := B.notSynchronized
  subst hsz
  obtain ⟨A, hAe⟩ : ∃ A : Nat → Prop, A = va_A (wX6 cs a S L) s.heap.size := ⟨_, rfl⟩
  have hD : va_D A (wX6 cs a S L) := by rw [hAe]; exact hD0.self
  have hA : ∀ q : Nat, s.heap.size ≤ q → A q := fun q h => by rw [hAe]; exact Or.inr h
  have hS : va_S A s.heap s.heap [] := va_S.rf
  have hDA : ∀ (S : Nat → Nat → Int32) (L : Nat → Nat → Int64), va_D A (wX6 cs a S L) := fun S L => k_DA hD rfl
  have hl := lv_entry ([.ref (a 0)]) (n := 4) (Nat.le_of_ble_eq_true rfl)
  rw [lg_entry_eq]
  generalize (lg_sl ([.ref (a 0)]) ++ List.replicate (4 - (lg_sl ([.ref (a 0)])).length) Slot.unset).toArray = ls at hl ⊢
  have hl : lv_has ls 4 [(0, .ref (a 0))] := hl
  obtain ⟨Q, hQ⟩ : ∃ Q, Q = MQ below (k_Ql D r9 (wX6 cs a S L) (wX6 cs a S L) s.heap.size) ([.ref (a 0)] : List Value).toArray s 0 0 (va_A (wX6 cs a S L) s.heap.size) := ⟨_, rfl⟩
  rw [← hQ]
  have Lo6 : ∀ (n1 : Nat) (x1_6 : Int64) (x3_6 : Int32) (H : Heap) (locs : List Loc) (ls : Array Slot), k_it (fun st => nX6_digest_l6 st.1 st.2 S L) n1 (x1_6, x3_6) = some r9 → lv_has ls 4 [(0, .ref (a 0)), (1, .long x1_6), (3, .int x3_6)] → va_P D vwCl (wX6 cs a S L) H → va_S A s.heap H locs → W p l e (headSpec wsX6_digest ({ frames := 2, cells := 0, slots := 0, locals := 44 })).room s m ([.ref (a 0)] : List Value).toArray below meth c H locs 0 0 Q (F0 m 6 ls []) := by
    intro n1
    induction n1 with
    | zero => intro x1_6 x3_6 H locs ls hd; exact dn_it0 hd
    | succ n1 ih1 =>
      intro x1_6 x3_6 H locs ls hd hl hP hS
      have hD := hDA S L
      obtain ⟨y1, hd, hy1⟩ := dn_it hd
      have hd : nX6_digest_l6 x1_6 x3_6 S L = some y1 := hd
      unfold nX6_digest_l6 at hd
      refine lv_iload_n hx hb dX6_digest_6 rfl (lv_at hl 2 rfl) ?_
      refine lv_bipush (v := (9 : Int32)) hx hb dX6_digest_7 (by decide) ?_
      refine lv_icmp_ge (tgt := 31) hx hb dX6_digest_9 (by decide) (fun c9 => ?_) (fun c9 => ?_)
      · have hd := dn_t c9 hd
        have hd := dn_up hd hy1
        refine lv_aload_n hx hb dX6_digest_31 rfl (lv_at hl 0 rfl) ?_
        refine va_get (D := D) (ci := 4) (v := .ref (a 1)) (C := RX6) (T := TX6) (N := 12) hx hb hts (fun w h => List.mem_cons_of_mem _ (List.mem_append_left _ (List.mem_append_left _ (List.mem_append_left _ (List.mem_append_right _ h))))) hown hK hP 0 rfl rfl 0 (by decide) (hts (.fieldLink RX6 12 "LeastNeed" "now" "LLeastNeed$Valley;") (List.mem_of_getElem? (i := 3) rfl)) (fun _ h9 => h9) rfl dX6_digest_32 ?_
        refine lv_lload_n hx hb dX6_digest_35 rfl (lv_at hl 1 rfl) ?_
        obtain ⟨r36, hq36, hd⟩ := dn_b1 hd
        have hPc : va_P D vwCl (wX5 cs (k_wi a 1) (k_wi S 1)) _ := k_sub hP [1, 2, 3, 4, 5, 6, 7, 8, 9, 10, 11, 12, 13, 14, 15, 16] (wcX6_X5_1 cs a S L)
        have hDc : va_D A (wX5 cs (k_wi a 1) (k_wi S 1)) := hD.sub [1, 2, 3, 4, 5, 6, 7, 8, 9, 10, 11, 12, 13, 14, 15, 16] (by decide +kernel) (wcX6_X5_1 cs a S L)
        have hF := k_self hDc hS hA
        refine k_run_l (va_runV (As := [.long x1_6]) (rest := []) ⟨hx, hb, hml, hown, hts⟩ (mX5_mixPeople l D cs (k_wi a 1) (k_wi S 1) x1_6 r36 hq36 _) (cwV 1 hts gX6_digest_X5_mixPeople rfl rfl rfl (by decide +kernel) ⟨Nat.le_of_ble_eq_true rfl, Nat.le_of_ble_eq_true rfl⟩) ⟨k_blind, va_recv hK hP (ci := 3) (q0 := 1) rfl rfl, k_pre hPc hK hNn hDc⟩ rfl rfl hl.1 rfl (lv_room (Nat.le_of_ble_eq_true rfl)) dX6_digest_36 ⟨Nat.le_of_ble_eq_true rfl, Nat.le_of_ble_eq_true rfl⟩) hS hF (fun H locs hP1 hk hS => ?_)
        have hP : va_P D vwCl (wX6 cs a S L) _ := k_back hP hD [1, 2, 3, 4, 5, 6, 7, 8, 9, 10, 11, 12, 13, 14, 15, 16] [0, 17, 18, 19, 20, 21, 22, 23, 24, 25, 26, 27, 28, 29, 30, 31, 32, 33, 34, 35, 36, 37, 38, 39, 40, 41, 42, 43, 44, 45, 46, 47, 48, 49, 50, 51, 52, 53, 54, 55, 56, 57, 58, 59, 60, 61, 62, 63, 64, 65, 66, 67, 68, 69, 70, 71, 72, 73, 74, 75, 76, 77, 78] [0, 63, 64, 65, 66, 67, 68, 69, 70, 71, 72, 73, 74, 75, 76, 77, 78, 1, 2, 3, 4, 5, 6, 7, 8, 9, 10, 11, 12, 13, 14, 15, 16, 17, 18, 19, 20, 21, 22, 23, 24, 25, 26, 27, 28, 29, 30, 31, 32, 33, 34, 35, 36, 37, 38, 39, 40, 41, 42, 43, 44, 45, 46, 47, 48, 49, 50, 51, 52, 53, 54, 55, 56, 57, 58, 59, 60, 61, 62] (wcX6_X5_1 cs a S L) (by decide +kernel) hk hP1 (wbX6_X5_1 cs a S L)
        have hD := hDA S L
        refine lv_lstore_n (lv' := [(1, .long r36), (0, .ref (a 0)), (3, .int x3_6)]) hx hb dX6_digest_39 rfl hl (by decide) rfl (fun ls hl => ?_)
        refine lv_aload_n hx hb dX6_digest_40 rfl (lv_at hl 1 rfl) ?_
        refine va_get (D := D) (ci := 4) (v := .ref (a 1)) (C := RX6) (T := TX6) (N := 12) hx hb hts (fun w h => List.mem_cons_of_mem _ (List.mem_append_left _ (List.mem_append_left _ (List.mem_append_left _ (List.mem_append_right _ h))))) hown hK hP 0 rfl rfl 0 (by decide) (hts (.fieldLink RX6 12 "LeastNeed" "now" "LLeastNeed$Valley;") (List.mem_of_getElem? (i := 3) rfl)) (fun _ h9 => h9) rfl dX6_digest_41 ?_
        refine lv_lload_n hx hb dX6_digest_44 rfl (lv_at hl 0 rfl) ?_
        obtain ⟨r45, hq45, hd⟩ := dn_b1 hd
        have hPc : va_P D vwCl (wX5 cs (k_wi a 1) (k_wi S 1)) _ := k_sub hP [1, 2, 3, 4, 5, 6, 7, 8, 9, 10, 11, 12, 13, 14, 15, 16] (wcX6_X5_1 cs a S L)
        have hDc : va_D A (wX5 cs (k_wi a 1) (k_wi S 1)) := hD.sub [1, 2, 3, 4, 5, 6, 7, 8, 9, 10, 11, 12, 13, 14, 15, 16] (by decide +kernel) (wcX6_X5_1 cs a S L)
        have hF := k_self hDc hS hA
        refine k_run_l (va_runV (As := [.long r36]) (rest := []) ⟨hx, hb, hml, hown, hts⟩ (mX5_mixThings l D cs (k_wi a 1) (k_wi S 1) r36 r45 hq45 _) (cwV 1 hts gX6_digest_X5_mixThings rfl rfl rfl (by decide +kernel) ⟨Nat.le_of_ble_eq_true rfl, Nat.le_of_ble_eq_true rfl⟩) ⟨k_blind, va_recv hK hP (ci := 3) (q0 := 1) rfl rfl, k_pre hPc hK hNn hDc⟩ rfl rfl hl.1 rfl (lv_room (Nat.le_of_ble_eq_true rfl)) dX6_digest_45 ⟨Nat.le_of_ble_eq_true rfl, Nat.le_of_ble_eq_true rfl⟩) hS hF (fun H locs hP1 hk hS => ?_)
        have hP : va_P D vwCl (wX6 cs a S L) _ := k_back hP hD [1, 2, 3, 4, 5, 6, 7, 8, 9, 10, 11, 12, 13, 14, 15, 16] [0, 17, 18, 19, 20, 21, 22, 23, 24, 25, 26, 27, 28, 29, 30, 31, 32, 33, 34, 35, 36, 37, 38, 39, 40, 41, 42, 43, 44, 45, 46, 47, 48, 49, 50, 51, 52, 53, 54, 55, 56, 57, 58, 59, 60, 61, 62, 63, 64, 65, 66, 67, 68, 69, 70, 71, 72, 73, 74, 75, 76, 77, 78] [0, 63, 64, 65, 66, 67, 68, 69, 70, 71, 72, 73, 74, 75, 76, 77, 78, 1, 2, 3, 4, 5, 6, 7, 8, 9, 10, 11, 12, 13, 14, 15, 16, 17, 18, 19, 20, 21, 22, 23, 24, 25, 26, 27, 28, 29, 30, 31, 32, 33, 34, 35, 36, 37, 38, 39, 40, 41, 42, 43, 44, 45, 46, 47, 48, 49, 50, 51, 52, 53, 54, 55, 56, 57, 58, 59, 60, 61, 62] (wcX6_X5_1 cs a S L) (by decide +kernel) hk hP1 (wbX6_X5_1 cs a S L)
        have hD := hDA S L
        refine lv_lstore_n (lv' := [(1, .long r45), (0, .ref (a 0)), (3, .int x3_6)]) hx hb dX6_digest_48 rfl hl (by decide) rfl (fun ls hl => ?_)
        refine lv_aload_n hx hb dX6_digest_49 rfl (lv_at hl 1 rfl) ?_
        refine va_get (D := D) (ci := 4) (v := .ref (a 1)) (C := RX6) (T := TX6) (N := 12) hx hb hts (fun w h => List.mem_cons_of_mem _ (List.mem_append_left _ (List.mem_append_left _ (List.mem_append_left _ (List.mem_append_right _ h))))) hown hK hP 0 rfl rfl 0 (by decide) (hts (.fieldLink RX6 12 "LeastNeed" "now" "LLeastNeed$Valley;") (List.mem_of_getElem? (i := 3) rfl)) (fun _ h9 => h9) rfl dX6_digest_50 ?_
        refine va_get (D := D) (ci := 3) (v := .ref (a 11)) (C := RX5) (T := TX5) (N := 15) hx hb hts (fun w h => List.mem_cons_of_mem _ (List.mem_append_left _ (List.mem_append_left _ (List.mem_append_right _ h)))) hown hK hP 1 rfl rfl 9 (by decide) (hts (.fieldLink RX6 198 "LeastNeed$Valley" "notes" "LLeastNeed$Rows;") (List.mem_of_getElem? (i := 4) rfl)) (fun _ h9 => h9) rfl dX6_digest_53 ?_
        refine lv_lload_n hx hb dX6_digest_56 rfl (lv_at hl 0 rfl) ?_
        obtain ⟨r57, hq57, hd⟩ := dn_b1 hd
        have hPc : va_P D vwCl (wX3 cs 36 (6 : Int32) (6 : Int32) (k_wi a 11) (k_wi S 11)) _ := k_sub hP [11, 12] (wcX6_X3_11 cs a S L)
        have hDc : va_D A (wX3 cs 36 (6 : Int32) (6 : Int32) (k_wi a 11) (k_wi S 11)) := hD.sub [11, 12] (by decide +kernel) (wcX6_X3_11 cs a S L)
        have hF := k_self hDc hS hA
        refine k_run_l (va_runV (As := [.long r45]) (rest := []) ⟨hx, hb, hml, hown, hts⟩ (mX3_mix l D cs (k_wi a 11) 36 (6 : Int32) (6 : Int32) (k_wi S 11) r45 r57 hq57 _) (cwV 1 hts gX6_digest_X3_mix rfl rfl rfl (by decide +kernel) ⟨Nat.le_of_ble_eq_true rfl, Nat.le_of_ble_eq_true rfl⟩) ⟨k_blind, va_recv hK hP (ci := 2) (q0 := 11) rfl rfl, k_pre hPc hK hNn hDc⟩ rfl rfl hl.1 rfl (lv_room (Nat.le_of_ble_eq_true rfl)) dX6_digest_57 ⟨Nat.le_of_ble_eq_true rfl, Nat.le_of_ble_eq_true rfl⟩) hS hF (fun H locs hP1 hk hS => ?_)
        have hP : va_P D vwCl (wX6 cs a S L) _ := k_back hP hD [11, 12] [0, 1, 2, 3, 4, 5, 6, 7, 8, 9, 10, 13, 14, 15, 16, 17, 18, 19, 20, 21, 22, 23, 24, 25, 26, 27, 28, 29, 30, 31, 32, 33, 34, 35, 36, 37, 38, 39, 40, 41, 42, 43, 44, 45, 46, 47, 48, 49, 50, 51, 52, 53, 54, 55, 56, 57, 58, 59, 60, 61, 62, 63, 64, 65, 66, 67, 68, 69, 70, 71, 72, 73, 74, 75, 76, 77, 78] [0, 1, 2, 3, 4, 5, 6, 7, 8, 9, 10, 77, 78, 11, 12, 13, 14, 15, 16, 17, 18, 19, 20, 21, 22, 23, 24, 25, 26, 27, 28, 29, 30, 31, 32, 33, 34, 35, 36, 37, 38, 39, 40, 41, 42, 43, 44, 45, 46, 47, 48, 49, 50, 51, 52, 53, 54, 55, 56, 57, 58, 59, 60, 61, 62, 63, 64, 65, 66, 67, 68, 69, 70, 71, 72, 73, 74, 75, 76] (wcX6_X3_11 cs a S L) (by decide +kernel) hk hP1 (wbX6_X3_11 cs a S L)
        have hD := hDA S L
        refine lv_lstore_n (lv' := [(1, .long r57), (0, .ref (a 0)), (3, .int x3_6)]) hx hb dX6_digest_60 rfl hl (by decide) rfl (fun ls hl => ?_)
        refine lv_aload_n hx hb dX6_digest_61 rfl (lv_at hl 1 rfl) ?_
        refine va_get (D := D) (ci := 4) (v := .ref (a 1)) (C := RX6) (T := TX6) (N := 12) hx hb hts (fun w h => List.mem_cons_of_mem _ (List.mem_append_left _ (List.mem_append_left _ (List.mem_append_left _ (List.mem_append_right _ h))))) hown hK hP 0 rfl rfl 0 (by decide) (hts (.fieldLink RX6 12 "LeastNeed" "now" "LLeastNeed$Valley;") (List.mem_of_getElem? (i := 3) rfl)) (fun _ h9 => h9) rfl dX6_digest_62 ?_
        refine va_get (D := D) (ci := 3) (v := .ref (a 13)) (C := RX5) (T := TX5) (N := 15) hx hb hts (fun w h => List.mem_cons_of_mem _ (List.mem_append_left _ (List.mem_append_left _ (List.mem_append_right _ h)))) hown hK hP 1 rfl rfl 10 (by decide) (hts (.fieldLink RX6 211 "LeastNeed$Valley" "cames" "LLeastNeed$Rows;") (List.mem_of_getElem? (i := 5) rfl)) (fun _ h9 => h9) rfl dX6_digest_65 ?_
        refine lv_lload_n hx hb dX6_digest_68 rfl (lv_at hl 0 rfl) ?_
        obtain ⟨r69, hq69, hd⟩ := dn_b1 hd
        have hPc : va_P D vwCl (wX3 cs 24 (4 : Int32) (6 : Int32) (k_wi a 13) (k_wi S 13)) _ := k_sub hP [13, 14] (wcX6_X3_13 cs a S L)
        have hDc : va_D A (wX3 cs 24 (4 : Int32) (6 : Int32) (k_wi a 13) (k_wi S 13)) := hD.sub [13, 14] (by decide +kernel) (wcX6_X3_13 cs a S L)
        have hF := k_self hDc hS hA
        refine k_run_l (va_runV (As := [.long r57]) (rest := []) ⟨hx, hb, hml, hown, hts⟩ (mX3_mix l D cs (k_wi a 13) 24 (4 : Int32) (6 : Int32) (k_wi S 13) r57 r69 hq69 _) (cwV 1 hts gX6_digest_X3_mix rfl rfl rfl (by decide +kernel) ⟨Nat.le_of_ble_eq_true rfl, Nat.le_of_ble_eq_true rfl⟩) ⟨k_blind, va_recv hK hP (ci := 2) (q0 := 13) rfl rfl, k_pre hPc hK hNn hDc⟩ rfl rfl hl.1 rfl (lv_room (Nat.le_of_ble_eq_true rfl)) dX6_digest_69 ⟨Nat.le_of_ble_eq_true rfl, Nat.le_of_ble_eq_true rfl⟩) hS hF (fun H locs hP1 hk hS => ?_)
        have hP : va_P D vwCl (wX6 cs a S L) _ := k_back hP hD [13, 14] [0, 1, 2, 3, 4, 5, 6, 7, 8, 9, 10, 11, 12, 15, 16, 17, 18, 19, 20, 21, 22, 23, 24, 25, 26, 27, 28, 29, 30, 31, 32, 33, 34, 35, 36, 37, 38, 39, 40, 41, 42, 43, 44, 45, 46, 47, 48, 49, 50, 51, 52, 53, 54, 55, 56, 57, 58, 59, 60, 61, 62, 63, 64, 65, 66, 67, 68, 69, 70, 71, 72, 73, 74, 75, 76, 77, 78] [0, 1, 2, 3, 4, 5, 6, 7, 8, 9, 10, 11, 12, 77, 78, 13, 14, 15, 16, 17, 18, 19, 20, 21, 22, 23, 24, 25, 26, 27, 28, 29, 30, 31, 32, 33, 34, 35, 36, 37, 38, 39, 40, 41, 42, 43, 44, 45, 46, 47, 48, 49, 50, 51, 52, 53, 54, 55, 56, 57, 58, 59, 60, 61, 62, 63, 64, 65, 66, 67, 68, 69, 70, 71, 72, 73, 74, 75, 76] (wcX6_X3_13 cs a S L) (by decide +kernel) hk hP1 (wbX6_X3_13 cs a S L)
        have hD := hDA S L
        refine lv_lstore_n (lv' := [(1, .long r69), (0, .ref (a 0)), (3, .int x3_6)]) hx hb dX6_digest_72 rfl hl (by decide) rfl (fun ls hl => ?_)
        refine lv_ldc2 (v := (31 : Int64)) hx hb hown (hts (.constantLong RX6 269 (31)) (List.mem_of_getElem? (i := 2) rfl)) dX6_digest_73 ?_
        refine lv_lload_n hx hb dX6_digest_76 rfl (lv_at hl 0 rfl) ?_
        refine lv_lmul hx hb dX6_digest_77 ?_
        refine lv_aload_n hx hb dX6_digest_78 rfl (lv_at hl 1 rfl) ?_
        refine va_get (D := D) (ci := 4) (v := .long (L 0 10)) (C := RX6) (T := TX6) (N := 12) hx hb hts (fun w h => List.mem_cons_of_mem _ (List.mem_append_left _ (List.mem_append_left _ (List.mem_append_left _ (List.mem_append_right _ h))))) hown hK hP 0 rfl rfl 10 (by decide) (hts (.fieldLink RX6 54 "LeastNeed" "above" "J") (List.mem_of_getElem? (i := 6) rfl)) (fun _ h9 => h9) rfl dX6_digest_79 ?_
        refine lv_ladd hx hb dX6_digest_82 ?_
        refine lv_lstore_n (lv' := [(1, .long (((31 : Int64) * r69) + (L 0 10))), (0, .ref (a 0)), (3, .int x3_6)]) hx hb dX6_digest_83 rfl hl (by decide) rfl (fun ls hl => ?_)
        refine lv_ldc2 (v := (31 : Int64)) hx hb hown (hts (.constantLong RX6 269 (31)) (List.mem_of_getElem? (i := 2) rfl)) dX6_digest_84 ?_
        refine lv_lload_n hx hb dX6_digest_87 rfl (lv_at hl 0 rfl) ?_
        refine lv_lmul hx hb dX6_digest_88 ?_
        refine lv_aload_n hx hb dX6_digest_89 rfl (lv_at hl 1 rfl) ?_
        refine va_get (D := D) (ci := 4) (v := .long (L 0 11)) (C := RX6) (T := TX6) (N := 12) hx hb hts (fun w h => List.mem_cons_of_mem _ (List.mem_append_left _ (List.mem_append_left _ (List.mem_append_left _ (List.mem_append_right _ h))))) hown hK hP 0 rfl rfl 11 (by decide) (hts (.fieldLink RX6 58 "LeastNeed" "below" "J") (List.mem_of_getElem? (i := 7) rfl)) (fun _ h9 => h9) rfl dX6_digest_90 ?_
        refine lv_ladd hx hb dX6_digest_93 ?_
        have e1 := dn_s1 hd
        exact k_lret hx hb hr hQ hAe e1 rfl hP hS hlocks dX6_digest_94
      · have hd := dn_f c9 hd
        refine lv_ldc2 (v := (31 : Int64)) hx hb hown (hts (.constantLong RX6 269 (31)) (List.mem_of_getElem? (i := 2) rfl)) dX6_digest_12 ?_
        refine lv_lload_n hx hb dX6_digest_15 rfl (lv_at hl 1 rfl) ?_
        refine lv_lmul hx hb dX6_digest_16 ?_
        refine lv_aload_n hx hb dX6_digest_17 rfl (lv_at hl 0 rfl) ?_
        refine lv_iload_n hx hb dX6_digest_18 rfl (lv_at hl 2 rfl) ?_
        obtain ⟨r19, hq19, hd⟩ := dn_b1 hd
        have hF := k_self hD hS hA
        refine k_run_i (va_runV (As := [.int x3_6]) (rest := [.long ((31 : Int64) * x1_6)]) ⟨hx, hb, hml, hown, hts⟩ (mX6_howMany l D cs a S L x3_6 r19 hq19 _) (cwV 1 hts gX6_digest_X6_howMany rfl rfl rfl (by decide +kernel) ⟨Nat.le_of_ble_eq_true rfl, Nat.le_of_ble_eq_true rfl⟩) ⟨k_blind, va_recv hK hP (ci := 4) (q0 := 0) rfl rfl, k_pre hP hK hNn hD⟩ rfl rfl hl.1 rfl (lv_room (Nat.le_of_ble_eq_true rfl)) dX6_digest_19 ⟨Nat.le_of_ble_eq_true rfl, Nat.le_of_ble_eq_true rfl⟩) hS hF (fun H locs hP1 hk hS => ?_)
        have hP : va_P D vwCl (wX6 cs a S L) _ := hP1
        have hD := hDA S L
        refine lv_i2l hx hb dX6_digest_22 rfl ?_
        refine lv_ladd hx hb dX6_digest_23 ?_
        refine lv_lstore_n (lv' := [(1, .long (((31 : Int64) * x1_6) + r19.toInt64)), (0, .ref (a 0)), (3, .int x3_6)]) hx hb dX6_digest_24 rfl hl (by decide) rfl (fun ls hl => ?_)
        refine lv_iinc (v := x3_6 + (1 : Int32)) (lv' := [(3, .int (x3_6 + (1 : Int32))), (1, .long (((31 : Int64) * x1_6) + r19.toInt64)), (0, .ref (a 0))]) hx hb dX6_digest_25 hl (k := 2) rfl rfl (by decide) rfl (fun ls hl => ?_)
        refine lv_goto (tgt := 6) hx hb dX6_digest_28 (by decide) ?_
        exact ih1 (((31 : Int64) * x1_6) + r19.toInt64) (x3_6 + (1 : Int32)) _ _ _ (dn_bk hd hy1) (lv_sub hl [2, 1, 0] rfl) hP hS
  unfold nX6_digest at hd
  refine lv_ldc2 (v := (1483 : Int64)) hx hb hown (hts (.constantLong RX6 267 (1483)) (List.mem_of_getElem? (i := 1) rfl)) dX6_digest_0 ?_
  refine lv_lstore_n (lv' := [(1, .long (1483 : Int64)), (0, .ref (a 0))]) hx hb dX6_digest_3 rfl hl (by decide) rfl (fun ls hl => ?_)
  refine lv_iconst (v := (0 : Int32)) hx hb dX6_digest_4 (by decide) ?_
  refine lv_istore_n (lv' := [(3, .int (0 : Int32)), (1, .long (1483 : Int64)), (0, .ref (a 0))]) hx hb dX6_digest_5 rfl hl (by decide) rfl (fun ls hl => ?_)
  exact Lo6 1000 (1483 : Int64) (0 : Int32) _ _ _ hd (lv_sub hl [2, 1, 0] rfl) hP hS
