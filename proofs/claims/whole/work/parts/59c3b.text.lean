theorem wsX2_X5_f0_5 (cs : Nat → ClassId) (a : Nat → Nat) (b : Nat → Nat) (S : Nat → Nat → Int32) (T : Nat → Nat → Int32) (x : Int32) : List.set (wX2 cs a S ++ wX5 cs b T) 0 (a 0, .inr (1, ([.ref (a 1), .ref (a 2), .int (S 0 2), .int (S 0 3), .int (S 0 4), .int (S 0 5)] : List Value).set 5 (.int x))) = (wX2 cs a (k_w S 0 5 x) ++ wX5 cs b T) := rfl
set_option maxRecDepth 20000 in
theorem wbX2_X5_X2_0 (cs : Nat → ClassId) (a : Nat → Nat) (b : Nat → Nat) (S : Nat → Nat → Int32) (T : Nat → Nat → Int32) : ([16, 17, 18, 0, 1, 2, 3, 4, 5, 6, 7, 8, 9, 10, 11, 12, 13, 14, 15] : List Nat).map (fun i => (([3, 4, 5, 6, 7, 8, 9, 10, 11, 12, 13, 14, 15, 16, 17, 18] : List Nat).filterMap (fun i => (wX2 cs a S ++ wX5 cs b T)[i]?) ++ (wX2 cs a S))[i]?) = (wX2 cs a S ++ wX5 cs b T).map some := rfl
set_option maxRecDepth 20000 in
theorem wcX6_X2_X5_67_17 (cs : Nat → ClassId) (a : Nat → Nat) (S : Nat → Nat → Int32) (L : Nat → Nat → Int64) : ([67, 68, 69, 17, 18, 19, 20, 21, 22, 23, 24, 25, 26, 27, 28, 29, 30, 31, 32] : List Nat).map (fun i => (wX6 cs a S L)[i]?) = (wX2 cs (k_wi a 67) (k_wi S 67) ++ wX5 cs (k_wi a 17) (k_wi S 17)).map some := rfl
set_option maxRecDepth 20000 in
theorem wrT6_a (cs : Nat → ClassId) (a : Nat → Nat) (S : Nat → Nat → Int32) (L : Nat → Nat → Int64) : ([0, 1, 2, 3, 4, 5, 6, 7, 8, 9, 10, 11, 12, 13, 14, 15, 16, 33, 34, 35, 36, 37, 38, 39, 40, 41, 42, 43, 44, 45, 46, 47, 48, 49, 50, 51, 52, 53, 54, 55, 56, 57, 58, 59, 60, 61, 62, 63, 64, 65, 66, 70, 71, 72, 73, 74, 75, 76, 77, 78] : List Nat).filterMap (fun i => (wX6 cs a S L)[i]?) = ([(a 0, .inr (4, [.ref (a 1), .ref (a 17), .ref (a 65), .ref (a 66), .ref (a 67), .ref (a 70), .ref (a 75), .ref (a 76), .ref (a 77), .ref (a 78), .long (L 0 10), .long (L 0 11)])), (a 1, .inr (3, [.ref (a 2), .ref (a 3), .ref (a 4), .ref (a 5), .ref (a 6), .ref (a 7), .ref (a 8), .ref (a 9), .ref (a 10), .ref (a 11), .ref (a 13), .ref (a 15), .int (S 1 12), .int (S 1 13), .int (S 1 14)])), (a 2, .inl (cs 1, 7, .inl (S 2))), (a 3, .inl (cs 1, 7, .inl (S 3))), (a 4, .inl (cs 1, 7, .inl (S 4))), (a 5, .inl (cs 1, 28, .inl (S 5))), (a 6, .inl (cs 1, 5, .inl (S 6))), (a 7, .inl (cs 1, 5, .inl (S 7))), (a 8, .inl (cs 1, 5, .inl (S 8))), (a 9, .inl (cs 1, 5, .inl (S 9))), (a 10, .inl (cs 1, 5, .inl (S 10))), (a 11, .inr (2, [.int 6, .int 6, .ref (a 12), .int (S 11 3)])), (a 12, .inl (cs 1, 36, .inl (S 12))), (a 13, .inr (2, [.int 4, .int 6, .ref (a 14), .int (S 13 3)])), (a 14, .inl (cs 1, 24, .inl (S 14))), (a 15, .inr (2, [.int 18, .int 8, .ref (a 16), .int (S 15 3)])), (a 16, .inl (cs 1, 144, .inl (S 16))), (a 33, .inr (3, [.ref (a 34), .ref (a 35), .ref (a 36), .ref (a 37), .ref (a 38), .ref (a 39), .ref (a 40), .ref (a 41), .ref (a 42), .ref (a 43), .ref (a 45), .ref (a 47), .int (S 33 12), .int (S 33 13), .int (S 33 14)])), (a 34, .inl (cs 1, 7, .inl (S 34))), (a 35, .inl (cs 1, 7, .inl (S 35))), (a 36, .inl (cs 1, 7, .inl (S 36))), (a 37, .inl (cs 1, 28, .inl (S 37))), (a 38, .inl (cs 1, 5, .inl (S 38))), (a 39, .inl (cs 1, 5, .inl (S 39))), (a 40, .inl (cs 1, 5, .inl (S 40))), (a 41, .inl (cs 1, 5, .inl (S 41))), (a 42, .inl (cs 1, 5, .inl (S 42))), (a 43, .inr (2, [.int 6, .int 6, .ref (a 44), .int (S 43 3)])), (a 44, .inl (cs 1, 36, .inl (S 44))), (a 45, .inr (2, [.int 4, .int 6, .ref (a 46), .int (S 45 3)])), (a 46, .inl (cs 1, 24, .inl (S 46))), (a 47, .inr (2, [.int 18, .int 8, .ref (a 48), .int (S 47 3)])), (a 48, .inl (cs 1, 144, .inl (S 48))), (a 49, .inr (3, [.ref (a 50), .ref (a 51), .ref (a 52), .ref (a 53), .ref (a 54), .ref (a 55), .ref (a 56), .ref (a 57), .ref (a 58), .ref (a 59), .ref (a 61), .ref (a 63), .int (S 49 12), .int (S 49 13), .int (S 49 14)])), (a 50, .inl (cs 1, 7, .inl (S 50))), (a 51, .inl (cs 1, 7, .inl (S 51))), (a 52, .inl (cs 1, 7, .inl (S 52))), (a 53, .inl (cs 1, 28, .inl (S 53))), (a 54, .inl (cs 1, 5, .inl (S 54))), (a 55, .inl (cs 1, 5, .inl (S 55))), (a 56, .inl (cs 1, 5, .inl (S 56))), (a 57, .inl (cs 1, 5, .inl (S 57))), (a 58, .inl (cs 1, 5, .inl (S 58))), (a 59, .inr (2, [.int 6, .int 6, .ref (a 60), .int (S 59 3)])), (a 60, .inl (cs 1, 36, .inl (S 60))), (a 61, .inr (2, [.int 4, .int 6, .ref (a 62), .int (S 61 3)])), (a 62, .inl (cs 1, 24, .inl (S 62))), (a 63, .inr (2, [.int 18, .int 8, .ref (a 64), .int (S 63 3)])), (a 64, .inl (cs 1, 144, .inl (S 64))), (a 65, .inl (cs 4, 2, .inr (.inr (.inr (.inr (fun j => if j = 0 then some (a 33) else if j = 1 then some (a 49) else none)))))), (a 66, .inl (cs 3, 2, .inl (S 66))), (a 70, .inr (0, [.ref (a 71), .ref (a 72), .ref (a 73), .ref (a 74), .int (S 70 4)])), (a 71, .inl (cs 2, 7, .inr (.inl (L 71)))), (a 72, .inl (cs 2, 7, .inr (.inl (L 72)))), (a 73, .inl (cs 2, 7, .inr (.inl (L 73)))), (a 74, .inl (cs 2, 7, .inr (.inl (L 74)))), (a 75, .inl (cs 1, 3, .inl (S 75))), (a 76, .inl (cs 1, 6, .inl (S 76))), (a 77, .inl (cs 1, 8, .inl (S 77))), (a 78, .inl (cs 1, 36, .inl (S 78)))] : va_W) := rfl
set_option maxRecDepth 20000 in
theorem wbX6_X2_X5_67_17_S0S1 (cs : Nat → ClassId) (a : Nat → Nat) (S : Nat → Nat → Int32) (L : Nat → Nat → Int64) (VS0 : Nat → Nat → Int32) (VS1 : Nat → Nat → Int32) : ([0, 1, 2, 3, 4, 5, 6, 7, 8, 9, 10, 11, 12, 13, 14, 15, 16, 63, 64, 65, 66, 67, 68, 69, 70, 71, 72, 73, 74, 75, 76, 77, 78, 17, 18, 19, 20, 21, 22, 23, 24, 25, 26, 27, 28, 29, 30, 31, 32, 33, 34, 35, 36, 37, 38, 39, 40, 41, 42, 43, 44, 45, 46, 47, 48, 49, 50, 60, 61, 62, 51, 52, 53, 54, 55, 56, 57, 58, 59] : List Nat).map (fun i => (([0, 1, 2, 3, 4, 5, 6, 7, 8, 9, 10, 11, 12, 13, 14, 15, 16, 33, 34, 35, 36, 37, 38, 39, 40, 41, 42, 43, 44, 45, 46, 47, 48, 49, 50, 51, 52, 53, 54, 55, 56, 57, 58, 59, 60, 61, 62, 63, 64, 65, 66, 70, 71, 72, 73, 74, 75, 76, 77, 78] : List Nat).filterMap (fun i => (wX6 cs a S L)[i]?) ++ (wX2 cs (k_wi a 67) VS0 ++ wX5 cs (k_wi a 17) VS1))[i]?) = (wX6 cs a (k_sp (k_sp S 67 3 VS0) 17 16 VS1) L).map some := (congrArg (fun z : va_W => ([0, 1, 2, 3, 4, 5, 6, 7, 8, 9, 10, 11, 12, 13, 14, 15, 16, 63, 64, 65, 66, 67, 68, 69, 70, 71, 72, 73, 74, 75, 76, 77, 78, 17, 18, 19, 20, 21, 22, 23, 24, 25, 26, 27, 28, 29, 30, 31, 32, 33, 34, 35, 36, 37, 38, 39, 40, 41, 42, 43, 44, 45, 46, 47, 48, 49, 50, 60, 61, 62, 51, 52, 53, 54, 55, 56, 57, 58, 59] : List Nat).map (fun i => (z ++ (wX2 cs (k_wi a 67) VS0 ++ wX5 cs (k_wi a 17) VS1))[i]?)) (wrT6_a cs a S L)).trans rfl
set_option maxRecDepth 20000 in
theorem wcX6_X5_X5_1_17 (cs : Nat → ClassId) (a : Nat → Nat) (S : Nat → Nat → Int32) (L : Nat → Nat → Int64) : ([1, 2, 3, 4, 5, 6, 7, 8, 9, 10, 11, 12, 13, 14, 15, 16, 17, 18, 19, 20, 21, 22, 23, 24, 25, 26, 27, 28, 29, 30, 31, 32] : List Nat).map (fun i => (wX6 cs a S L)[i]?) = (wX5 cs (k_wi a 1) (k_wi S 1) ++ wX5 cs (k_wi a 17) (k_wi S 17)).map some := rfl
set_option maxRecDepth 20000 in
theorem wrT6_b (cs : Nat → ClassId) (a : Nat → Nat) (S : Nat → Nat → Int32) (L : Nat → Nat → Int64) : ([0, 33, 34, 35, 36, 37, 38, 39, 40, 41, 42, 43, 44, 45, 46, 47, 48, 49, 50, 51, 52, 53, 54, 55, 56, 57, 58, 59, 60, 61, 62, 63, 64, 65, 66, 67, 68, 69, 70, 71, 72, 73, 74, 75, 76, 77, 78] : List Nat).filterMap (fun i => (wX6 cs a S L)[i]?) = ([(a 0, .inr (4, [.ref (a 1), .ref (a 17), .ref (a 65), .ref (a 66), .ref (a 67), .ref (a 70), .ref (a 75), .ref (a 76), .ref (a 77), .ref (a 78), .long (L 0 10), .long (L 0 11)])), (a 33, .inr (3, [.ref (a 34), .ref (a 35), .ref (a 36), .ref (a 37), .ref (a 38), .ref (a 39), .ref (a 40), .ref (a 41), .ref (a 42), .ref (a 43), .ref (a 45), .ref (a 47), .int (S 33 12), .int (S 33 13), .int (S 33 14)])), (a 34, .inl (cs 1, 7, .inl (S 34))), (a 35, .inl (cs 1, 7, .inl (S 35))), (a 36, .inl (cs 1, 7, .inl (S 36))), (a 37, .inl (cs 1, 28, .inl (S 37))), (a 38, .inl (cs 1, 5, .inl (S 38))), (a 39, .inl (cs 1, 5, .inl (S 39))), (a 40, .inl (cs 1, 5, .inl (S 40))), (a 41, .inl (cs 1, 5, .inl (S 41))), (a 42, .inl (cs 1, 5, .inl (S 42))), (a 43, .inr (2, [.int 6, .int 6, .ref (a 44), .int (S 43 3)])), (a 44, .inl (cs 1, 36, .inl (S 44))), (a 45, .inr (2, [.int 4, .int 6, .ref (a 46), .int (S 45 3)])), (a 46, .inl (cs 1, 24, .inl (S 46))), (a 47, .inr (2, [.int 18, .int 8, .ref (a 48), .int (S 47 3)])), (a 48, .inl (cs 1, 144, .inl (S 48))), (a 49, .inr (3, [.ref (a 50), .ref (a 51), .ref (a 52), .ref (a 53), .ref (a 54), .ref (a 55), .ref (a 56), .ref (a 57), .ref (a 58), .ref (a 59), .ref (a 61), .ref (a 63), .int (S 49 12), .int (S 49 13), .int (S 49 14)])), (a 50, .inl (cs 1, 7, .inl (S 50))), (a 51, .inl (cs 1, 7, .inl (S 51))), (a 52, .inl (cs 1, 7, .inl (S 52))), (a 53, .inl (cs 1, 28, .inl (S 53))), (a 54, .inl (cs 1, 5, .inl (S 54))), (a 55, .inl (cs 1, 5, .inl (S 55))), (a 56, .inl (cs 1, 5, .inl (S 56))), (a 57, .inl (cs 1, 5, .inl (S 57))), (a 58, .inl (cs 1, 5, .inl (S 58))), (a 59, .inr (2, [.int 6, .int 6, .ref (a 60), .int (S 59 3)])), (a 60, .inl (cs 1, 36, .inl (S 60))), (a 61, .inr (2, [.int 4, .int 6, .ref (a 62), .int (S 61 3)])), (a 62, .inl (cs 1, 24, .inl (S 62))), (a 63, .inr (2, [.int 18, .int 8, .ref (a 64), .int (S 63 3)])), (a 64, .inl (cs 1, 144, .inl (S 64))), (a 65, .inl (cs 4, 2, .inr (.inr (.inr (.inr (fun j => if j = 0 then some (a 33) else if j = 1 then some (a 49) else none)))))), (a 66, .inl (cs 3, 2, .inl (S 66))), (a 67, .inr (1, [.ref (a 68), .ref (a 69), .int (S 67 2), .int (S 67 3), .int (S 67 4), .int (S 67 5)])), (a 68, .inl (cs 0, 150, .inl (S 68))), (a 69, .inl (cs 1, 6, .inl (S 69))), (a 70, .inr (0, [.ref (a 71), .ref (a 72), .ref (a 73), .ref (a 74), .int (S 70 4)])), (a 71, .inl (cs 2, 7, .inr (.inl (L 71)))), (a 72, .inl (cs 2, 7, .inr (.inl (L 72)))), (a 73, .inl (cs 2, 7, .inr (.inl (L 73)))), (a 74, .inl (cs 2, 7, .inr (.inl (L 74)))), (a 75, .inl (cs 1, 3, .inl (S 75))), (a 76, .inl (cs 1, 6, .inl (S 76))), (a 77, .inl (cs 1, 8, .inl (S 77))), (a 78, .inl (cs 1, 36, .inl (S 78)))] : va_W) := rfl
set_option maxRecDepth 20000 in
theorem wbX6_X5_X5_1_17_S0 (cs : Nat → ClassId) (a : Nat → Nat) (S : Nat → Nat → Int32) (L : Nat → Nat → Int64) (VS0 : Nat → Nat → Int32) : ([0, 47, 48, 49, 50, 51, 52, 53, 54, 55, 56, 57, 58, 59, 60, 61, 62, 63, 64, 65, 66, 67, 68, 69, 70, 71, 72, 73, 74, 75, 76, 77, 78, 1, 2, 3, 4, 5, 6, 7, 8, 9, 10, 11, 12, 13, 14, 15, 16, 17, 18, 19, 20, 21, 22, 23, 24, 25, 26, 27, 28, 29, 30, 31, 32, 33, 34, 35, 36, 37, 38, 39, 40, 41, 42, 43, 44, 45, 46] : List Nat).map (fun i => (([0, 33, 34, 35, 36, 37, 38, 39, 40, 41, 42, 43, 44, 45, 46, 47, 48, 49, 50, 51, 52, 53, 54, 55, 56, 57, 58, 59, 60, 61, 62, 63, 64, 65, 66, 67, 68, 69, 70, 71, 72, 73, 74, 75, 76, 77, 78] : List Nat).filterMap (fun i => (wX6 cs a S L)[i]?) ++ (wX5 cs (k_wi a 1) VS0 ++ wX5 cs (k_wi a 17) (k_wi S 17)))[i]?) = (wX6 cs a (k_sp S 1 16 VS0) L).map some := (congrArg (fun z : va_W => ([0, 47, 48, 49, 50, 51, 52, 53, 54, 55, 56, 57, 58, 59, 60, 61, 62, 63, 64, 65, 66, 67, 68, 69, 70, 71, 72, 73, 74, 75, 76, 77, 78, 1, 2, 3, 4, 5, 6, 7, 8, 9, 10, 11, 12, 13, 14, 15, 16, 17, 18, 19, 20, 21, 22, 23, 24, 25, 26, 27, 28, 29, 30, 31, 32, 33, 34, 35, 36, 37, 38, 39, 40, 41, 42, 43, 44, 45, 46] : List Nat).map (fun i => (z ++ (wX5 cs (k_wi a 1) VS0 ++ wX5 cs (k_wi a 17) (k_wi S 17)))[i]?)) (wrT6_b cs a S L)).trans rfl
-- LeastNeed$Reader.isWord(Ljava/lang/String;)Z
set_option maxHeartbeats 4000000 in
set_option maxRecDepth 100000 in
theorem mX2_isWord (l : Launch) (D : va_G) (cs : Nat → ClassId) (adK adV : Nat → Nat) (zt : Option Nat) (a : Nat → Nat) (wi : Nat) (S : Nat → Nat → Int32) (r9 : Int32) (hwi : wi < 6) (hd : nX2_isWord wi S = some r9) : ∀ sz : Nat, Met l yX2_isWord wsX2_isWord ({ frames := 4, cells := 0, slots := 0, locals := 85 }) (k_PcT D cs adK adV zt [.ref (a 0), .ref (adK wi)] (wX2 cs a S) sz) (k_Qi D r9 (wX2 cs a S) (wX2 cs a S) sz) 0 0 (va_A (wX2 cs a S) sz) := by
  intro sz
  refine Met.ofW (cc := cX2_isWord) (maxL := 3) (ret := (some .boolean)) (by decide) rfl ?_
  intro p e s m args below meth c s₁ B hml hv
  obtain ⟨⟨rfl, hsz, hP, hK, hD0, hNn⟩, hT⟩ := hv
  have hx := B.exec
  have hb := B.bytes
  have hr := B.returns
  have hts := atoms_spec (ws := wsX2_isWord) B.pre
  have hown : s.vm.findClass RX2 = some m.cls := findClass_of_methodNamed B.named
  have hlocks := B.notSynchronized
  subst hsz
  obtain ⟨A, hAe⟩ : ∃ A : Nat → Prop, A = va_A (wX2 cs a S) s.heap.size := ⟨_, rfl⟩
  rw [← hAe] at hT
  have hD : va_D A (wX2 cs a S) := by rw [hAe]; exact hD0.self
  have hA : ∀ q : Nat, s.heap.size ≤ q → A q := fun q h => by rw [hAe]; exact Or.inr h
  have hS : va_S A s.heap s.heap [] := va_S.rf
  have hDA : ∀ (S : Nat → Nat → Int32), va_D A (wX2 cs a S) := fun S => k_DA hD rfl
  have hl := lv_entry ([.ref (a 0), .ref (adK wi)]) (n := 3) (Nat.le_of_ble_eq_true rfl)
  rw [lg_entry_eq]
  generalize (lg_sl ([.ref (a 0), .ref (adK wi)]) ++ List.replicate (3 - (lg_sl ([.ref (a 0), .ref (adK wi)])).length) Slot.unset).toArray = ls at hl ⊢
  have hl : lv_has ls 3 [(0, .ref (a 0)), (1, .ref (adK wi))] := hl
  obtain ⟨Q, hQ⟩ : ∃ Q, Q = MQ below (k_Qi D r9 (wX2 cs a S) (wX2 cs a S) s.heap.size) ([.ref (a 0), .ref (adK wi)] : List Value).toArray s 0 0 (va_A (wX2 cs a S) s.heap.size) := ⟨_, rfl⟩
  rw [← hQ]
  have Lo27 : ∀ (n1 : Nat) (x2_27 : Int32) (H : Heap) (locs : List Loc) (ls : Array Slot), k_it (fun st => nX2_isWord_l27 wi st S) n1 x2_27 = some r9 → lv_has ls 3 [(0, .ref (a 0)), (1, .ref (adK wi)), (2, .int x2_27)] → va_P D vwCl (wX2 cs a S) H → va_S A s.heap H locs → W p l e (headSpec wsX2_isWord ({ frames := 4, cells := 0, slots := 0, locals := 85 })).room s m ([.ref (a 0), .ref (adK wi)] : List Value).toArray below meth c H locs 0 0 Q (F0 m 27 ls []) := by
    intro n1
    induction n1 with
    | zero => intro x2_27 H locs ls hd; exact dn_it0 hd
    | succ n1 ih1 =>
      intro x2_27 H locs ls hd hl hP hS
      have hD := hDA S
      obtain ⟨y1, hd, hy1⟩ := dn_it hd
      have hd : nX2_isWord_l27 wi x2_27 S = some y1 := hd
      unfold nX2_isWord_l27 at hd
      refine lv_iload_n hx hb dX2_isWord_27 rfl (lv_at hl 2 rfl) ?_
      refine lv_aload_n hx hb dX2_isWord_28 rfl (lv_at hl 1 rfl) ?_
      have hPc := k_P0 hP
      have hDc : va_D A ([] : va_W) := k_D0
      have hF := k_self hDc hS hA
      refine k_run_i (va_runV (As := []) (rest := [.int x2_27]) ⟨hx, hb, hml, hown, hts⟩ (mJ0_length_8abf5 l D cs adK adV zt wi hwi _) (cwV 0 hts gX2_isWord_J0_length_8abf5 rfl rfl rfl (by decide +kernel) ⟨Nat.le_of_ble_eq_true rfl, Nat.le_of_ble_eq_true rfl⟩) ⟨k_blindT, vk_recv hT.1 hwi hS, k_preT hPc hK hNn hDc hT hS hF⟩ rfl rfl hl.1 rfl (lv_room (Nat.le_of_ble_eq_true rfl)) dX2_isWord_29 ⟨Nat.le_of_ble_eq_true rfl, Nat.le_of_ble_eq_true rfl⟩) hS hF (fun H locs hP1 hk hS => ?_)
      have hP := k_keep hP hk
      have hP : va_P D vwCl (wX2 cs a S) _ := hP
      refine lv_icmp_ge (tgt := 62) hx hb dX2_isWord_32 (by decide) (fun c32 => ?_) (fun c32 => ?_)
      · have hd := dn_t c32 hd
        have hd := dn_up hd hy1
        refine lv_iconst (v := (1 : Int32)) hx hb dX2_isWord_62 (by decide) ?_
        have e1 := dn_s1 hd
        exact k_zret hx hb hr rfl hQ hAe e1 rfl hP hS hlocks dX2_isWord_63
      · have hd := dn_f c32 hd
        refine lv_aload_n hx hb dX2_isWord_35 rfl (lv_at hl 0 rfl) ?_
        refine va_get (D := D) (ci := 1) (v := .ref (a 1)) (C := RX2) (T := TX2) (N := 6) hx hb hts (fun w h => List.mem_cons_of_mem _ (List.mem_append_right _ h)) hown hK hP 0 rfl rfl 0 (by decide) (hts (.fieldLink RX2 9 "LeastNeed$Reader" "text" "[C") (List.mem_of_getElem? (i := 4) rfl)) (fun _ h9 => h9) rfl dX2_isWord_36 ?_
        refine lv_aload_n hx hb dX2_isWord_39 rfl (lv_at hl 0 rfl) ?_
        refine va_get (D := D) (ci := 1) (v := .int (S 0 4)) (C := RX2) (T := TX2) (N := 6) hx hb hts (fun w h => List.mem_cons_of_mem _ (List.mem_append_right _ h)) hown hK hP 0 rfl rfl 4 (by decide) (hts (.fieldLink RX2 44 "LeastNeed$Reader" "start" "I") (List.mem_of_getElem? (i := 3) rfl)) (fun _ h9 => h9) rfl dX2_isWord_40 ?_
        refine lv_iload_n hx hb dX2_isWord_43 rfl (lv_at hl 2 rfl) ?_
        refine lv_iadd hx hb dX2_isWord_44 ?_
        obtain ⟨hi45, hd⟩ := dn_i hd
        refine k_cald (D := D) (k := ((S 0 4) + x2_27).toNatClampNeg) (by rfl) hx hb hK hP 1 0 rfl rfl hi45 dX2_isWord_45 ?_
        refine lv_aload_n hx hb dX2_isWord_46 rfl (lv_at hl 1 rfl) ?_
        refine lv_iload_n hx hb dX2_isWord_47 rfl (lv_at hl 2 rfl) ?_
        obtain ⟨hi48, hd⟩ := dn_i hd
        have hPc := k_P0 hP
        have hDc : va_D A ([] : va_W) := k_D0
        have hF := k_self hDc hS hA
        refine k_run_i (va_runV (As := [.int x2_27]) (rest := [.int (S 1 ((S 0 4) + x2_27).toNatClampNeg)]) ⟨hx, hb, hml, hown, hts⟩ (mJ0_charAt_5068e l D cs adK adV zt wi hwi x2_27 hi48 _) (cwV 1 hts gX2_isWord_J0_charAt_5068e rfl rfl rfl (by decide +kernel) ⟨Nat.le_of_ble_eq_true rfl, Nat.le_of_ble_eq_true rfl⟩) ⟨k_blindT, vk_recv hT.1 hwi hS, k_preT hPc hK hNn hDc hT hS hF⟩ rfl rfl hl.1 rfl (lv_room (Nat.le_of_ble_eq_true rfl)) dX2_isWord_48 ⟨Nat.le_of_ble_eq_true rfl, Nat.le_of_ble_eq_true rfl⟩) hS hF (fun H locs hP1 hk hS => ?_)
        have hP := k_keep hP hk
        have hP : va_P D vwCl (wX2 cs a S) _ := hP
        refine lv_icmp_eq (tgt := 56) hx hb dX2_isWord_51 (by decide) (fun c51 => ?_) (fun c51 => ?_)
        · have hd := dn_t c51 hd
          refine lv_iinc (v := x2_27 + (1 : Int32)) (lv' := [(2, .int (x2_27 + (1 : Int32))), (0, .ref (a 0)), (1, .ref (adK wi))]) hx hb dX2_isWord_56 hl (k := 2) rfl rfl (by decide) rfl (fun ls hl => ?_)
          refine lv_goto (tgt := 27) hx hb dX2_isWord_59 (by decide) ?_
          exact ih1 (x2_27 + (1 : Int32)) _ _ _ (dn_bk hd hy1) (lv_sub hl [1, 2, 0] rfl) hP hS
        · have hd := dn_f c51 hd
          have hd := dn_up hd hy1
          refine lv_iconst (v := (0 : Int32)) hx hb dX2_isWord_54 (by decide) ?_
          have e1 := dn_s1 hd
          exact k_zret hx hb hr rfl hQ hAe e1 rfl hP hS hlocks dX2_isWord_55
  unfold nX2_isWord at hd
  refine lv_aload_n hx hb dX2_isWord_0 rfl (lv_at hl 0 rfl) ?_
  refine va_get (D := D) (ci := 1) (v := .int (S 0 3)) (C := RX2) (T := TX2) (N := 6) hx hb hts (fun w h => List.mem_cons_of_mem _ (List.mem_append_right _ h)) hown hK hP 0 rfl rfl 3 (by decide) (hts (.fieldLink RX2 47 "LeastNeed$Reader" "token" "I") (List.mem_of_getElem? (i := 1) rfl)) (fun _ h9 => h9) rfl dX2_isWord_1 ?_
  refine lv_if_ne (tgt := 23) hx hb dX2_isWord_4 (by decide) (fun c4 => ?_) (fun c4 => ?_)
  · have hd := dn_f c4 hd
    refine lv_iconst (v := (0 : Int32)) hx hb dX2_isWord_23 (by decide) ?_
    have e1 := dn_s1 hd
    exact k_zret hx hb hr rfl hQ hAe e1 rfl hP hS hlocks dX2_isWord_24
  · have hd := dn_t c4 hd
    refine lv_aload_n hx hb dX2_isWord_7 rfl (lv_at hl 0 rfl) ?_
    refine va_get (D := D) (ci := 1) (v := .int (S 0 5)) (C := RX2) (T := TX2) (N := 6) hx hb hts (fun w h => List.mem_cons_of_mem _ (List.mem_append_right _ h)) hown hK hP 0 rfl rfl 5 (by decide) (hts (.fieldLink RX2 28 "LeastNeed$Reader" "next" "I") (List.mem_of_getElem? (i := 2) rfl)) (fun _ h9 => h9) rfl dX2_isWord_8 ?_
    refine lv_aload_n hx hb dX2_isWord_11 rfl (lv_at hl 0 rfl) ?_
    refine va_get (D := D) (ci := 1) (v := .int (S 0 4)) (C := RX2) (T := TX2) (N := 6) hx hb hts (fun w h => List.mem_cons_of_mem _ (List.mem_append_right _ h)) hown hK hP 0 rfl rfl 4 (by decide) (hts (.fieldLink RX2 44 "LeastNeed$Reader" "start" "I") (List.mem_of_getElem? (i := 3) rfl)) (fun _ h9 => h9) rfl dX2_isWord_12 ?_
    refine lv_isub hx hb dX2_isWord_15 ?_
    refine lv_aload_n hx hb dX2_isWord_16 rfl (lv_at hl 1 rfl) ?_
    have hPc := k_P0 hP
    have hDc : va_D A ([] : va_W) := k_D0
    have hF := k_self hDc hS hA
    refine k_run_i (va_runV (As := []) (rest := [.int ((S 0 5) - (S 0 4))]) ⟨hx, hb, hml, hown, hts⟩ (mJ0_length_8abf5 l D cs adK adV zt wi hwi _) (cwV 0 hts gX2_isWord_J0_length_8abf5 rfl rfl rfl (by decide +kernel) ⟨Nat.le_of_ble_eq_true rfl, Nat.le_of_ble_eq_true rfl⟩) ⟨k_blindT, vk_recv hT.1 hwi hS, k_preT hPc hK hNn hDc hT hS hF⟩ rfl rfl hl.1 rfl (lv_room (Nat.le_of_ble_eq_true rfl)) dX2_isWord_17 ⟨Nat.le_of_ble_eq_true rfl, Nat.le_of_ble_eq_true rfl⟩) hS hF (fun H locs hP1 hk hS => ?_)
    have hP := k_keep hP hk
    have hP : va_P D vwCl (wX2 cs a S) _ := hP
    refine lv_icmp_eq (tgt := 25) hx hb dX2_isWord_20 (by decide) (fun c20 => ?_) (fun c20 => ?_)
    · have hd := dn_t c20 hd
      refine lv_iconst (v := (0 : Int32)) hx hb dX2_isWord_25 (by decide) ?_
      refine lv_istore_n (lv' := [(2, .int (0 : Int32)), (0, .ref (a 0)), (1, .ref (adK wi))]) hx hb dX2_isWord_26 rfl hl (by decide) rfl (fun ls hl => ?_)
      exact Lo27 1000 (0 : Int32) _ _ _ hd (lv_sub hl [1, 2, 0] rfl) hP hS
    · have hd := dn_f c20 hd
      refine lv_iconst (v := (0 : Int32)) hx hb dX2_isWord_23 (by decide) ?_
      have e1 := dn_s1 hd
      exact k_zret hx hb hr rfl hQ hAe e1 rfl hP hS hlocks dX2_isWord_24
