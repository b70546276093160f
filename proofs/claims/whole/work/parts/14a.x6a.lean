set_option maxRecDepth 20000 in
theorem wcX6_X5_1 (cs : Nat → ClassId) (a : Nat → Nat) (S : Nat → Nat → Int32) (L : Nat → Nat → Int64) : ([1, 2, 3, 4, 5, 6, 7, 8, 9, 10, 11, 12, 13, 14, 15, 16] : List Nat).map (fun i => (wX6 cs a S L)[i]?) = (wX5 cs (k_wi a 1) (k_wi S 1)).map some := rfl
set_option maxRecDepth 20000 in
theorem wrX6_X5_1 (cs : Nat → ClassId) (a : Nat → Nat) (S : Nat → Nat → Int32) (L : Nat → Nat → Int64) : ([0, 17, 18, 19, 20, 21, 22, 23, 24, 25, 26, 27, 28, 29, 30, 31, 32, 33, 34, 35, 36, 37, 38, 39, 40, 41, 42, 43, 44, 45, 46, 47, 48, 49, 50, 51, 52, 53, 54, 55, 56, 57, 58, 59, 60, 61, 62, 63, 64, 65, 66, 67, 68, 69, 70, 71, 72, 73, 74, 75, 76, 77, 78] : List Nat).filterMap (fun i => (wX6 cs a S L)[i]?) = ([(a 0, .inr (4, [.ref (a 1), .ref (a 17), .ref (a 65), .ref (a 66), .ref (a 67), .ref (a 70), .ref (a 75), .ref (a 76), .ref (a 77), .ref (a 78), .long (L 0 10), .long (L 0 11)])), (a 17, .inr (3, [.ref (a 18), .ref (a 19), .ref (a 20), .ref (a 21), .ref (a 22), .ref (a 23), .ref (a 24), .ref (a 25), .ref (a 26), .ref (a 27), .ref (a 29), .ref (a 31), .int (S 17 12), .int (S 17 13), .int (S 17 14)])), (a 18, .inl (cs 1, 7, .inl (S 18))), (a 19, .inl (cs 1, 7, .inl (S 19))), (a 20, .inl (cs 1, 7, .inl (S 20))), (a 21, .inl (cs 1, 28, .inl (S 21))), (a 22, .inl (cs 1, 5, .inl (S 22))), (a 23, .inl (cs 1, 5, .inl (S 23))), (a 24, .inl (cs 1, 5, .inl (S 24))), (a 25, .inl (cs 1, 5, .inl (S 25))), (a 26, .inl (cs 1, 5, .inl (S 26))), (a 27, .inr (2, [.int 6, .int 6, .ref (a 28), .int (S 27 3)])), (a 28, .inl (cs 1, 36, .inl (S 28))), (a 29, .inr (2, [.int 4, .int 6, .ref (a 30), .int (S 29 3)])), (a 30, .inl (cs 1, 24, .inl (S 30))), (a 31, .inr (2, [.int 18, .int 8, .ref (a 32), .int (S 31 3)])), (a 32, .inl (cs 1, 144, .inl (S 32))), (a 33, .inr (3, [.ref (a 34), .ref (a 35), .ref (a 36), .ref (a 37), .ref (a 38), .ref (a 39), .ref (a 40), .ref (a 41), .ref (a 42), .ref (a 43), .ref (a 45), .ref (a 47), .int (S 33 12), .int (S 33 13), .int (S 33 14)])), (a 34, .inl (cs 1, 7, .inl (S 34))), (a 35, .inl (cs 1, 7, .inl (S 35))), (a 36, .inl (cs 1, 7, .inl (S 36))), (a 37, .inl (cs 1, 28, .inl (S 37))), (a 38, .inl (cs 1, 5, .inl (S 38))), (a 39, .inl (cs 1, 5, .inl (S 39))), (a 40, .inl (cs 1, 5, .inl (S 40))), (a 41, .inl (cs 1, 5, .inl (S 41))), (a 42, .inl (cs 1, 5, .inl (S 42))), (a 43, .inr (2, [.int 6, .int 6, .ref (a 44), .int (S 43 3)])), (a 44, .inl (cs 1, 36, .inl (S 44))), (a 45, .inr (2, [.int 4, .int 6, .ref (a 46), .int (S 45 3)])), (a 46, .inl (cs 1, 24, .inl (S 46))), (a 47, .inr (2, [.int 18, .int 8, .ref (a 48), .int (S 47 3)])), (a 48, .inl (cs 1, 144, .inl (S 48))), (a 49, .inr (3, [.ref (a 50), .ref (a 51), .ref (a 52), .ref (a 53), .ref (a 54), .ref (a 55), .ref (a 56), .ref (a 57), .ref (a 58), .ref (a 59), .ref (a 61), .ref (a 63), .int (S 49 12), .int (S 49 13), .int (S 49 14)])), (a 50, .inl (cs 1, 7, .inl (S 50))), (a 51, .inl (cs 1, 7, .inl (S 51))), (a 52, .inl (cs 1, 7, .inl (S 52))), (a 53, .inl (cs 1, 28, .inl (S 53))), (a 54, .inl (cs 1, 5, .inl (S 54))), (a 55, .inl (cs 1, 5, .inl (S 55))), (a 56, .inl (cs 1, 5, .inl (S 56))), (a 57, .inl (cs 1, 5, .inl (S 57))), (a 58, .inl (cs 1, 5, .inl (S 58))), (a 59, .inr (2, [.int 6, .int 6, .ref (a 60), .int (S 59 3)])), (a 60, .inl (cs 1, 36, .inl (S 60))), (a 61, .inr (2, [.int 4, .int 6, .ref (a 62), .int (S 61 3)])), (a 62, .inl (cs 1, 24, .inl (S 62))), (a 63, .inr (2, [.int 18, .int 8, .ref (a 64), .int (S 63 3)])), (a 64, .inl (cs 1, 144, .inl (S 64))), (a 65, .inl (cs 4, 2, .inr (.inr (.inr (.inr (fun j => if j = 0 then some (a 33) else if j = 1 then some (a 49) else none)))))), (a 66, .inl (cs 3, 2, .inl (S 66))), (a 67, .inr (1, [.ref (a 68), .ref (a 69), .int (S 67 2), .int (S 67 3), .int (S 67 4), .int (S 67 5)])), (a 68, .inl (cs 0, 150, .inl (S 68))), (a 69, .inl (cs 1, 6, .inl (S 69))), (a 70, .inr (0, [.ref (a 71), .ref (a 72), .ref (a 73), .ref (a 74), .int (S 70 4)])), (a 71, .inl (cs 2, 7, .inr (.inl (L 71)))), (a 72, .inl (cs 2, 7, .inr (.inl (L 72)))), (a 73, .inl (cs 2, 7, .inr (.inl (L 73)))), (a 74, .inl (cs 2, 7, .inr (.inl (L 74)))), (a 75, .inl (cs 1, 3, .inl (S 75))), (a 76, .inl (cs 1, 6, .inl (S 76))), (a 77, .inl (cs 1, 8, .inl (S 77))), (a 78, .inl (cs 1, 36, .inl (S 78)))] : va_W) := rfl
set_option maxRecDepth 20000 in
theorem wbX6_X5_1_S0 (cs : Nat → ClassId) (a : Nat → Nat) (S : Nat → Nat → Int32) (L : Nat → Nat → Int64) (VS0 : Nat → Nat → Int32) : ([0, 63, 64, 65, 66, 67, 68, 69, 70, 71, 72, 73, 74, 75, 76, 77, 78, 1, 2, 3, 4, 5, 6, 7, 8, 9, 10, 11, 12, 13, 14, 15, 16, 17, 18, 19, 20, 21, 22, 23, 24, 25, 26, 27, 28, 29, 30, 31, 32, 33, 34, 35, 36, 37, 38, 39, 40, 41, 42, 43, 44, 45, 46, 47, 48, 49, 50, 51, 52, 53, 54, 55, 56, 57, 58, 59, 60, 61, 62] : List Nat).map (fun i => (([0, 17, 18, 19, 20, 21, 22, 23, 24, 25, 26, 27, 28, 29, 30, 31, 32, 33, 34, 35, 36, 37, 38, 39, 40, 41, 42, 43, 44, 45, 46, 47, 48, 49, 50, 51, 52, 53, 54, 55, 56, 57, 58, 59, 60, 61, 62, 63, 64, 65, 66, 67, 68, 69, 70, 71, 72, 73, 74, 75, 76, 77, 78] : List Nat).filterMap (fun i => (wX6 cs a S L)[i]?) ++ (wX5 cs (k_wi a 1) VS0))[i]?) = (wX6 cs a (k_sp S 1 16 VS0) L).map some := (congrArg (fun z : va_W => ([0, 63, 64, 65, 66, 67, 68, 69, 70, 71, 72, 73, 74, 75, 76, 77, 78, 1, 2, 3, 4, 5, 6, 7, 8, 9, 10, 11, 12, 13, 14, 15, 16, 17, 18, 19, 20, 21, 22, 23, 24, 25, 26, 27, 28, 29, 30, 31, 32, 33, 34, 35, 36, 37, 38, 39, 40, 41, 42, 43, 44, 45, 46, 47, 48, 49, 50, 51, 52, 53, 54, 55, 56, 57, 58, 59, 60, 61, 62] : List Nat).map (fun i => (z ++ (wX5 cs (k_wi a 1) VS0))[i]?)) (wrX6_X5_1 cs a S L)).trans rfl
theorem wsX6_a75 (cs : Nat → ClassId) (a : Nat → Nat) (S : Nat → Nat → Int32) (L : Nat → Nat → Int64) (k : Nat) (x : Int32) : List.set (wX6 cs a S L) 75 (a 75, .inl (cs 1, 3, .inl (upd (S 75) k x))) = (wX6 cs a (k_w S 75 k x) L) := rfl
set_option maxRecDepth 20000 in
theorem wcX6_X2_67 (cs : Nat → ClassId) (a : Nat → Nat) (S : Nat → Nat → Int32) (L : Nat → Nat → Int64) : ([67, 68, 69] : List Nat).map (fun i => (wX6 cs a S L)[i]?) = (wX2 cs (k_wi a 67) (k_wi S 67)).map some := rfl
set_option maxRecDepth 20000 in
theorem wrX6_X2_67 (cs : Nat → ClassId) (a : Nat → Nat) (S : Nat → Nat → Int32) (L : Nat → Nat → Int64) : ([0, 1, 2, 3, 4, 5, 6, 7, 8, 9, 10, 11, 12, 13, 14, 15, 16, 17, 18, 19, 20, 21, 22, 23, 24, 25, 26, 27, 28, 29, 30, 31, 32, 33, 34, 35, 36, 37, 38, 39, 40, 41, 42, 43, 44, 45, 46, 47, 48, 49, 50, 51, 52, 53, 54, 55, 56, 57, 58, 59, 60, 61, 62, 63, 64, 65, 66, 70, 71, 72, 73, 74, 75, 76, 77, 78] : List Nat).filterMap (fun i => (wX6 cs a S L)[i]?) = ([(a 0, .inr (4, [.ref (a 1), .ref (a 17), .ref (a 65), .ref (a 66), .ref (a 67), .ref (a 70), .ref (a 75), .ref (a 76), .ref (a 77), .ref (a 78), .long (L 0 10), .long (L 0 11)])), (a 1, .inr (3, [.ref (a 2), .ref (a 3), .ref (a 4), .ref (a 5), .ref (a 6), .ref (a 7), .ref (a 8), .ref (a 9), .ref (a 10), .ref (a 11), .ref (a 13), .ref (a 15), .int (S 1 12), .int (S 1 13), .int (S 1 14)])), (a 2, .inl (cs 1, 7, .inl (S 2))), (a 3, .inl (cs 1, 7, .inl (S 3))), (a 4, .inl (cs 1, 7, .inl (S 4))), (a 5, .inl (cs 1, 28, .inl (S 5))), (a 6, .inl (cs 1, 5, .inl (S 6))), (a 7, .inl (cs 1, 5, .inl (S 7))), (a 8, .inl (cs 1, 5, .inl (S 8))), (a 9, .inl (cs 1, 5, .inl (S 9))), (a 10, .inl (cs 1, 5, .inl (S 10))), (a 11, .inr (2, [.int 6, .int 6, .ref (a 12), .int (S 11 3)])), (a 12, .inl (cs 1, 36, .inl (S 12))), (a 13, .inr (2, [.int 4, .int 6, .ref (a 14), .int (S 13 3)])), (a 14, .inl (cs 1, 24, .inl (S 14))), (a 15, .inr (2, [.int 18, .int 8, .ref (a 16), .int (S 15 3)])), (a 16, .inl (cs 1, 144, .inl (S 16))), (a 17, .inr (3, [.ref (a 18), .ref (a 19), .ref (a 20), .ref (a 21), .ref (a 22), .ref (a 23), .ref (a 24), .ref (a 25), .ref (a 26), .ref (a 27), .ref (a 29), .ref (a 31), .int (S 17 12), .int (S 17 13), .int (S 17 14)])), (a 18, .inl (cs 1, 7, .inl (S 18))), (a 19, .inl (cs 1, 7, .inl (S 19))), (a 20, .inl (cs 1, 7, .inl (S 20))), (a 21, .inl (cs 1, 28, .inl (S 21))), (a 22, .inl (cs 1, 5, .inl (S 22))), (a 23, .inl (cs 1, 5, .inl (S 23))), (a 24, .inl (cs 1, 5, .inl (S 24))), (a 25, .inl (cs 1, 5, .inl (S 25))), (a 26, .inl (cs 1, 5, .inl (S 26))), (a 27, .inr (2, [.int 6, .int 6, .ref (a 28), .int (S 27 3)])), (a 28, .inl (cs 1, 36, .inl (S 28))), (a 29, .inr (2, [.int 4, .int 6, .ref (a 30), .int (S 29 3)])), (a 30, .inl (cs 1, 24, .inl (S 30))), (a 31, .inr (2, [.int 18, .int 8, .ref (a 32), .int (S 31 3)])), (a 32, .inl (cs 1, 144, .inl (S 32))), (a 33, .inr (3, [.ref (a 34), .ref (a 35), .ref (a 36), .ref (a 37), .ref (a 38), .ref (a 39), .ref (a 40), .ref (a 41), .ref (a 42), .ref (a 43), .ref (a 45), .ref (a 47), .int (S 33 12), .int (S 33 13), .int (S 33 14)])), (a 34, .inl (cs 1, 7, .inl (S 34))), (a 35, .inl (cs 1, 7, .inl (S 35))), (a 36, .inl (cs 1, 7, .inl (S 36))), (a 37, .inl (cs 1, 28, .inl (S 37))), (a 38, .inl (cs 1, 5, .inl (S 38))), (a 39, .inl (cs 1, 5, .inl (S 39))), (a 40, .inl (cs 1, 5, .inl (S 40))), (a 41, .inl (cs 1, 5, .inl (S 41))), (a 42, .inl (cs 1, 5, .inl (S 42))), (a 43, .inr (2, [.int 6, .int 6, .ref (a 44), .int (S 43 3)])), (a 44, .inl (cs 1, 36, .inl (S 44))), (a 45, .inr (2, [.int 4, .int 6, .ref (a 46), .int (S 45 3)])), (a 46, .inl (cs 1, 24, .inl (S 46))), (a 47, .inr (2, [.int 18, .int 8, .ref (a 48), .int (S 47 3)])), (a 48, .inl (cs 1, 144, .inl (S 48))), (a 49, .inr (3, [.ref (a 50), .ref (a 51), .ref (a 52), .ref (a 53), .ref (a 54), .ref (a 55), .ref (a 56), .ref (a 57), .ref (a 58), .ref (a 59), .ref (a 61), .ref (a 63), .int (S 49 12), .int (S 49 13), .int (S 49 14)])), (a 50, .inl (cs 1, 7, .inl (S 50))), (a 51, .inl (cs 1, 7, .inl (S 51))), (a 52, .inl (cs 1, 7, .inl (S 52))), (a 53, .inl (cs 1, 28, .inl (S 53))), (a 54, .inl (cs 1, 5, .inl (S 54))), (a 55, .inl (cs 1, 5, .inl (S 55))), (a 56, .inl (cs 1, 5, .inl (S 56))), (a 57, .inl (cs 1, 5, .inl (S 57))), (a 58, .inl (cs 1, 5, .inl (S 58))), (a 59, .inr (2, [.int 6, .int 6, .ref (a 60), .int (S 59 3)])), (a 60, .inl (cs 1, 36, .inl (S 60))), (a 61, .inr (2, [.int 4, .int 6, .ref (a 62), .int (S 61 3)])), (a 62, .inl (cs 1, 24, .inl (S 62))), (a 63, .inr (2, [.int 18, .int 8, .ref (a 64), .int (S 63 3)])), (a 64, .inl (cs 1, 144, .inl (S 64))), (a 65, .inl (cs 4, 2, .inr (.inr (.inr (.inr (fun j => if j = 0 then some (a 33) else if j = 1 then some (a 49) else none)))))), (a 66, .inl (cs 3, 2, .inl (S 66))), (a 70, .inr (0, [.ref (a 71), .ref (a 72), .ref (a 73), .ref (a 74), .int (S 70 4)])), (a 71, .inl (cs 2, 7, .inr (.inl (L 71)))), (a 72, .inl (cs 2, 7, .inr (.inl (L 72)))), (a 73, .inl (cs 2, 7, .inr (.inl (L 73)))), (a 74, .inl (cs 2, 7, .inr (.inl (L 74)))), (a 75, .inl (cs 1, 3, .inl (S 75))), (a 76, .inl (cs 1, 6, .inl (S 76))), (a 77, .inl (cs 1, 8, .inl (S 77))), (a 78, .inl (cs 1, 36, .inl (S 78)))] : va_W) := rfl
set_option maxRecDepth 20000 in
theorem wbX6_X2_67_S0 (cs : Nat → ClassId) (a : Nat → Nat) (S : Nat → Nat → Int32) (L : Nat → Nat → Int64) (VS0 : Nat → Nat → Int32) : ([0, 1, 2, 3, 4, 5, 6, 7, 8, 9, 10, 11, 12, 13, 14, 15, 16, 17, 18, 19, 20, 21, 22, 23, 24, 25, 26, 27, 28, 29, 30, 31, 32, 33, 34, 35, 36, 37, 38, 39, 40, 41, 42, 43, 44, 45, 46, 47, 48, 49, 50, 51, 52, 53, 54, 55, 56, 57, 58, 59, 60, 61, 62, 63, 64, 65, 66, 76, 77, 78, 67, 68, 69, 70, 71, 72, 73, 74, 75] : List Nat).map (fun i => (([0, 1, 2, 3, 4, 5, 6, 7, 8, 9, 10, 11, 12, 13, 14, 15, 16, 17, 18, 19, 20, 21, 22, 23, 24, 25, 26, 27, 28, 29, 30, 31, 32, 33, 34, 35, 36, 37, 38, 39, 40, 41, 42, 43, 44, 45, 46, 47, 48, 49, 50, 51, 52, 53, 54, 55, 56, 57, 58, 59, 60, 61, 62, 63, 64, 65, 66, 70, 71, 72, 73, 74, 75, 76, 77, 78] : List Nat).filterMap (fun i => (wX6 cs a S L)[i]?) ++ (wX2 cs (k_wi a 67) VS0))[i]?) = (wX6 cs a (k_sp S 67 3 VS0) L).map some := (congrArg (fun z : va_W => ([0, 1, 2, 3, 4, 5, 6, 7, 8, 9, 10, 11, 12, 13, 14, 15, 16, 17, 18, 19, 20, 21, 22, 23, 24, 25, 26, 27, 28, 29, 30, 31, 32, 33, 34, 35, 36, 37, 38, 39, 40, 41, 42, 43, 44, 45, 46, 47, 48, 49, 50, 51, 52, 53, 54, 55, 56, 57, 58, 59, 60, 61, 62, 63, 64, 65, 66, 76, 77, 78, 67, 68, 69, 70, 71, 72, 73, 74, 75] : List Nat).map (fun i => (z ++ (wX2 cs (k_wi a 67) VS0))[i]?)) (wrX6_X2_67 cs a S L)).trans rfl
theorem wsX6_f67_2 (cs : Nat → ClassId) (a : Nat → Nat) (S : Nat → Nat → Int32) (L : Nat → Nat → Int64) (x : Int32) : List.set (wX6 cs a S L) 67 (a 67, .inr (1, ([.ref (a 68), .ref (a 69), .int (S 67 2), .int (S 67 3), .int (S 67 4), .int (S 67 5)] : List Value).set 2 (.int x))) = (wX6 cs a (k_w S 67 2 x) L) := rfl
theorem wsX6_a10 (cs : Nat → ClassId) (a : Nat → Nat) (S : Nat → Nat → Int32) (L : Nat → Nat → Int64) (k : Nat) (x : Int32) : List.set (wX6 cs a S L) 10 (a 10, .inl (cs 1, 5, .inl (upd (S 10) k x))) = (wX6 cs a (k_w S 10 k x) L) := rfl
set_option maxRecDepth 20000 in
theorem wbX6_X5_1 (cs : Nat → ClassId) (a : Nat → Nat) (S : Nat → Nat → Int32) (L : Nat → Nat → Int64) : ([0, 63, 64, 65, 66, 67, 68, 69, 70, 71, 72, 73, 74, 75, 76, 77, 78, 1, 2, 3, 4, 5, 6, 7, 8, 9, 10, 11, 12, 13, 14, 15, 16, 17, 18, 19, 20, 21, 22, 23, 24, 25, 26, 27, 28, 29, 30, 31, 32, 33, 34, 35, 36, 37, 38, 39, 40, 41, 42, 43, 44, 45, 46, 47, 48, 49, 50, 51, 52, 53, 54, 55, 56, 57, 58, 59, 60, 61, 62] : List Nat).map (fun i => (([0, 17, 18, 19, 20, 21, 22, 23, 24, 25, 26, 27, 28, 29, 30, 31, 32, 33, 34, 35, 36, 37, 38, 39, 40, 41, 42, 43, 44, 45, 46, 47, 48, 49, 50, 51, 52, 53, 54, 55, 56, 57, 58, 59, 60, 61, 62, 63, 64, 65, 66, 67, 68, 69, 70, 71, 72, 73, 74, 75, 76, 77, 78] : List Nat).filterMap (fun i => (wX6 cs a S L)[i]?) ++ (wX5 cs (k_wi a 1) (k_wi S 1)))[i]?) = (wX6 cs a S L).map some := (congrArg (fun z : va_W => ([0, 63, 64, 65, 66, 67, 68, 69, 70, 71, 72, 73, 74, 75, 76, 77, 78, 1, 2, 3, 4, 5, 6, 7, 8, 9, 10, 11, 12, 13, 14, 15, 16, 17, 18, 19, 20, 21, 22, 23, 24, 25, 26, 27, 28, 29, 30, 31, 32, 33, 34, 35, 36, 37, 38, 39, 40, 41, 42, 43, 44, 45, 46, 47, 48, 49, 50, 51, 52, 53, 54, 55, 56, 57, 58, 59, 60, 61, 62] : List Nat).map (fun i => (z ++ (wX5 cs (k_wi a 1) (k_wi S 1)))[i]?)) (wrX6_X5_1 cs a S L)).trans rfl
theorem wsX6_a9 (cs : Nat → ClassId) (a : Nat → Nat) (S : Nat → Nat → Int32) (L : Nat → Nat → Int64) (k : Nat) (x : Int32) : List.set (wX6 cs a S L) 9 (a 9, .inl (cs 1, 5, .inl (upd (S 9) k x))) = (wX6 cs a (k_w S 9 k x) L) := rfl
theorem wsX6_a4 (cs : Nat → ClassId) (a : Nat → Nat) (S : Nat → Nat → Int32) (L : Nat → Nat → Int64) (k : Nat) (x : Int32) : List.set (wX6 cs a S L) 4 (a 4, .inl (cs 1, 7, .inl (upd (S 4) k x))) = (wX6 cs a (k_w S 4 k x) L) := rfl
-- LeastNeed.valley()I
set_option maxHeartbeats 4000000 in
set_option maxRecDepth 100000 in
theorem mX6_valley (l : Launch) (D : va_G) (cs : Nat → ClassId) (a : Nat → Nat) (S : Nat → Nat → Int32) (L : Nat → Nat → Int64) (r9 : Int32) (S9 : (Nat → Nat → Int32)) (hd : nX6_valley S L = some (r9, S9)) : ∀ sz : Nat, Met l yX6_valley wsX6_valley ({ frames := 1, cells := 0, slots := 0, locals := 20 }) (k_Pc D cs [.ref (a 0)] (wX6 cs a S L) sz) (k_Qi D r9 (wX6 cs a S L) (wX6 cs a S9 L) sz) 0 0 (va_A (wX6 cs a S L) sz) := by
  intro sz
  refine Met.ofW (cc := cX6_valley) (maxL := 2) (ret := (some .int)) (by decide) rfl ?_
  intro p e s m args below meth c s₁ B hml hv
  obtain ⟨rfl, hsz, hP, hK, hD0, hNn⟩ := hv
  have hx := B.exec
  have hb := B.bytes
  have hr := B.returns
  have hts := atoms_spec (ws := wsX6_valley) B.pre
  have hown : s.vm.findClass RX6 = some m.cls := findClass_of_methodNamed B.named
  have hlocks := B.notSynchronized
  subst hsz
  obtain ⟨A, hAe⟩ : ∃ A : Nat → Prop, A = va_A (wX6 cs a S L) s.heap.size := ⟨_, rfl⟩
  have hD : va_D A (wX6 cs a S L) := by rw [hAe]; exact hD0.self
  have hA : ∀ q : Nat, s.heap.size ≤ q → A q := fun q h => by rw [hAe]; exact Or.inr h
  have hS : va_S A s.heap s.heap [] := va_S.rf
  have hDA : ∀ (S : Nat → Nat → Int32) (L : Nat → Nat → Int64), va_D A (wX6 cs a S L) := fun S L => k_DA hD rfl
  have hl := lv_entry ([.ref (a 0)]) (n := 2) (Nat.le_of_ble_eq_true rfl)
  rw [lg_entry_eq]
  generalize (lg_sl ([.ref (a 0)]) ++ List.replicate (2 - (lg_sl ([.ref (a 0)])).length) Slot.unset).toArray = ls at hl ⊢
  have hl : lv_has ls 2 [(0, .ref (a 0))] := hl
  obtain ⟨Q, hQ⟩ : ∃ Q, Q = MQ below (k_Qi D r9 (wX6 cs a S L) (wX6 cs a S9 L) s.heap.size) ([.ref (a 0)] : List Value).toArray s 0 0 (va_A (wX6 cs a S L) s.heap.size) := ⟨_, rfl⟩
  rw [← hQ]
  unfold nX6_valley at hd
  refine lv_aload_n hx hb dX6_valley_0 rfl (lv_at hl 0 rfl) ?_
  refine va_get (D := D) (ci := 4) (v := .ref (a 1)) (C := RX6) (T := TX6) (N := 12) hx hb hts (fun w h => List.mem_cons_of_mem _ (List.mem_append_left _ (List.mem_append_left _ (List.mem_append_right _ h)))) hown hK hP 0 rfl rfl 0 (by decide) (hts (.fieldLink RX6 12 "LeastNeed" "now" "LLeastNeed$Valley;") (List.mem_of_getElem? (i := 1) rfl)) (fun _ h9 => h9) rfl dX6_valley_1 ?_
  refine va_get (D := D) (ci := 3) (v := .int (S 1 12)) (C := RX5) (T := TX5) (N := 15) hx hb hts (fun w h => List.mem_cons_of_mem _ (List.mem_append_left _ (List.mem_append_right _ h))) hown hK hP 1 rfl rfl 12 (by decide) (hts (.fieldLink RX6 61 "LeastNeed$Valley" "people" "I") (List.mem_of_getElem? (i := 2) rfl)) (fun _ h9 => h9) rfl dX6_valley_4 ?_
  refine lv_istore_n (lv' := [(1, .int (S 1 12)), (0, .ref (a 0))]) hx hb dX6_valley_7 rfl hl (by decide) rfl (fun ls hl => ?_)
  refine lv_aload_n hx hb dX6_valley_8 rfl (lv_at hl 1 rfl) ?_
  refine va_get (D := D) (ci := 4) (v := .ref (a 1)) (C := RX6) (T := TX6) (N := 12) hx hb hts (fun w h => List.mem_cons_of_mem _ (List.mem_append_left _ (List.mem_append_left _ (List.mem_append_right _ h)))) hown hK hP 0 rfl rfl 0 (by decide) (hts (.fieldLink RX6 12 "LeastNeed" "now" "LLeastNeed$Valley;") (List.mem_of_getElem? (i := 1) rfl)) (fun _ h9 => h9) rfl dX6_valley_9 ?_
  obtain ⟨S12, hq12, hd⟩ := dn_b1 hd
  have hPc : va_P D vwCl (wX5 cs (k_wi a 1) (k_wi S 1)) _ := k_sub hP [1, 2, 3, 4, 5, 6, 7, 8, 9, 10, 11, 12, 13, 14, 15, 16] (wcX6_X5_1 cs a S L)
  have hDc : va_D A (wX5 cs (k_wi a 1) (k_wi S 1)) := hD.sub [1, 2, 3, 4, 5, 6, 7, 8, 9, 10, 11, 12, 13, 14, 15, 16] (by decide +kernel) (wcX6_X5_1 cs a S L)
  have hF := k_self hDc hS hA
  refine k_run_v (va_runV (As := []) (rest := []) ⟨hx, hb, hml, hown, hts⟩ (mX5_empty l D cs (k_wi a 1) (k_wi S 1) S12 hq12 _) (cwV 0 hts gX6_valley_X5_empty rfl rfl rfl (by decide +kernel) ⟨Nat.le_of_ble_eq_true rfl, Nat.le_of_ble_eq_true rfl⟩) ⟨k_blind, va_recv hK hP (ci := 3) (q0 := 1) rfl rfl, k_pre hPc hK hNn hDc⟩ rfl rfl hl.1 rfl (lv_room (Nat.le_of_ble_eq_true rfl)) dX6_valley_12 ⟨Nat.le_of_ble_eq_true rfl, Nat.le_of_ble_eq_true rfl⟩) hS hF (fun H locs hP1 hk hS => ?_)
  have hP : va_P D vwCl (wX6 cs a (k_sp S 1 16 S12) L) _ := k_back hP hD [1, 2, 3, 4, 5, 6, 7, 8, 9, 10, 11, 12, 13, 14, 15, 16] [0, 17, 18, 19, 20, 21, 22, 23, 24, 25, 26, 27, 28, 29, 30, 31, 32, 33, 34, 35, 36, 37, 38, 39, 40, 41, 42, 43, 44, 45, 46, 47, 48, 49, 50, 51, 52, 53, 54, 55, 56, 57, 58, 59, 60, 61, 62, 63, 64, 65, 66, 67, 68, 69, 70, 71, 72, 73, 74, 75, 76, 77, 78] [0, 63, 64, 65, 66, 67, 68, 69, 70, 71, 72, 73, 74, 75, 76, 77, 78, 1, 2, 3, 4, 5, 6, 7, 8, 9, 10, 11, 12, 13, 14, 15, 16, 17, 18, 19, 20, 21, 22, 23, 24, 25, 26, 27, 28, 29, 30, 31, 32, 33, 34, 35, 36, 37, 38, 39, 40, 41, 42, 43, 44, 45, 46, 47, 48, 49, 50, 51, 52, 53, 54, 55, 56, 57, 58, 59, 60, 61, 62] (wcX6_X5_1 cs a S L) (by decide +kernel) hk hP1 (wbX6_X5_1_S0 cs a S L S12)
  have hD := hDA (k_sp S 1 16 S12) L
  refine lv_iload_n hx hb dX6_valley_15 rfl (lv_at hl 0 rfl) ?_
  obtain ⟨e1, e2⟩ := dn_s2 hd
  exact k_iret hx hb hr hQ hAe e1 (by rw [e2]) hP hS hlocks dX6_valley_16
-- LeastNeed.upTo(II)Z
set_option maxHeartbeats 4000000 in
set_option maxRecDepth 100000 in
theorem mX6_upTo (l : Launch) (D : va_G) (cs : Nat → ClassId) (p0 : Int32) (p1 : Int32) (r9 : Int32) (hd : nX6_upTo p0 p1 = some r9) : ∀ sz : Nat, Met l yX6_upTo wsX6_upTo ({ frames := 0, cells := 0, slots := 0, locals := 0 }) (k_Pc D cs [.int p0, .int p1] ([] : va_W) sz) (k_Qi D r9 ([] : va_W) ([] : va_W) sz) 0 0 (va_A ([] : va_W) sz) := by
  intro sz
  refine Met.ofW (cc := cX6_upTo) (maxL := 2) (ret := (some .boolean)) (by decide) rfl ?_
  intro p e s m args below meth c s₁ B hml hv
  obtain ⟨rfl, hsz, hP, hK, hD0, hNn⟩ := hv
  have hx := B.exec
  have hb := B.bytes
  have hr := B.returns
  have hts := atoms_spec (ws := wsX6_upTo) B.pre
  have hown : s.vm.findClass RX6 = some m.cls := findClass_of_methodNamed B.named
  have hlocks := B.notSynchronized
  subst hsz
  obtain ⟨A, hAe⟩ : ∃ A : Nat → Prop, A = va_A ([] : va_W) s.heap.size := ⟨_, rfl⟩
  have hD : va_D A ([] : va_W) := by rw [hAe]; exact hD0.self
  have hA : ∀ q : Nat, s.heap.size ≤ q → A q := fun q h => by rw [hAe]; exact Or.inr h
  have hS : va_S A s.heap s.heap [] := va_S.rf
  have hl := lv_entry ([.int p0, .int p1]) (n := 2) (Nat.le_of_ble_eq_true rfl)
  rw [lg_entry_eq]
  generalize (lg_sl ([.int p0, .int p1]) ++ List.replicate (2 - (lg_sl ([.int p0, .int p1])).length) Slot.unset).toArray = ls at hl ⊢
  have hl : lv_has ls 2 [(0, .int p0), (1, .int p1)] := hl
  obtain ⟨Q, hQ⟩ : ∃ Q, Q = MQ below (k_Qi D r9 ([] : va_W) ([] : va_W) s.heap.size) ([.int p0, .int p1] : List Value).toArray s 0 0 (va_A ([] : va_W) s.heap.size) := ⟨_, rfl⟩
  rw [← hQ]
  unfold nX6_upTo at hd
  refine lv_iload_n hx hb dX6_upTo_0 rfl (lv_at hl 0 rfl) ?_
  refine lv_if_lt (tgt := 13) hx hb dX6_upTo_1 (by decide) (fun c1 => ?_) (fun c1 => ?_)
  · have hd := dn_t c1 hd
    refine lv_iconst (v := (0 : Int32)) hx hb dX6_upTo_13 (by decide) ?_
    have e1 := dn_s1 hd
    exact k_zret hx hb hr rfl hQ hAe e1 rfl hP hS hlocks dX6_upTo_14
  · have hd := dn_f c1 hd
    refine lv_iload_n hx hb dX6_upTo_4 rfl (lv_at hl 0 rfl) ?_
    refine lv_iload_n hx hb dX6_upTo_5 rfl (lv_at hl 1 rfl) ?_
    refine lv_icmp_ge (tgt := 13) hx hb dX6_upTo_6 (by decide) (fun c6 => ?_) (fun c6 => ?_)
    · have hd := dn_t c6 hd
      refine lv_iconst (v := (0 : Int32)) hx hb dX6_upTo_13 (by decide) ?_
      have e1 := dn_s1 hd
      exact k_zret hx hb hr rfl hQ hAe e1 rfl hP hS hlocks dX6_upTo_14
    · have hd := dn_f c6 hd
      refine lv_iconst (v := (1 : Int32)) hx hb dX6_upTo_9 (by decide) ?_
      refine lv_goto (tgt := 14) hx hb dX6_upTo_10 (by decide) ?_
      have e1 := dn_s1 hd
      exact k_zret hx hb hr rfl hQ hAe e1 rfl hP hS hlocks dX6_upTo_14
-- LeastNeed.refusedAsFull()I
set_option maxHeartbeats 4000000 in
set_option maxRecDepth 100000 in
theorem mX6_refusedAsFull (l : Launch) (D : va_G) (cs : Nat → ClassId) (a : Nat → Nat) (S : Nat → Nat → Int32) (L : Nat → Nat → Int64) (r9 : Int32) (S9 : (Nat → Nat → Int32)) (hd : nX6_refusedAsFull S L = some (r9, S9)) : ∀ sz : Nat, Met l yX6_refusedAsFull wsX6_refusedAsFull ({ frames := 0, cells := 0, slots := 0, locals := 0 }) (k_Pc D cs [.ref (a 0)] (wX6 cs a S L) sz) (k_Qi D r9 (wX6 cs a S L) (wX6 cs a S9 L) sz) 0 0 (va_A (wX6 cs a S L) sz) := by
  intro sz
  refine Met.ofW (cc := cX6_refusedAsFull) (maxL := 1) (ret := (some .int)) (by decide) rfl ?_
  intro p e s m args below meth c s₁ B hml hv
  obtain ⟨rfl, hsz, hP, hK, hD0, hNn⟩ := hv
  have hx := B.exec
  have hb := B.bytes
  have hr := B.returns
  have hts := atoms_spec (ws := wsX6_refusedAsFull) B.pre
  have hown : s.vm.findClass RX6 = some m.cls := findClass_of_methodNamed B.named
  have hlocks := B.notSynchronized
  subst hsz
  obtain ⟨A, hAe⟩ : ∃ A : Nat → Prop, A = va_A (wX6 cs a S L) s.heap.size := ⟨_, rfl⟩
  have hD : va_D A (wX6 cs a S L) := by rw [hAe]; exact hD0.self
  have hA : ∀ q : Nat, s.heap.size ≤ q → A q := fun q h => by rw [hAe]; exact Or.inr h
  have hS : va_S A s.heap s.heap [] := va_S.rf
  have hDA : ∀ (S : Nat → Nat → Int32) (L : Nat → Nat → Int64), va_D A (wX6 cs a S L) := fun S L => k_DA hD rfl
  have hl := lv_entry ([.ref (a 0)]) (n := 1) (Nat.le_of_ble_eq_true rfl)
  rw [lg_entry_eq]
  generalize (lg_sl ([.ref (a 0)]) ++ List.replicate (1 - (lg_sl ([.ref (a 0)])).length) Slot.unset).toArray = ls at hl ⊢
  have hl : lv_has ls 1 [(0, .ref (a 0))] := hl
  obtain ⟨Q, hQ⟩ : ∃ Q, Q = MQ below (k_Qi D r9 (wX6 cs a S L) (wX6 cs a S9 L) s.heap.size) ([.ref (a 0)] : List Value).toArray s 0 0 (va_A (wX6 cs a S L) s.heap.size) := ⟨_, rfl⟩
  rw [← hQ]
  unfold nX6_refusedAsFull at hd
  refine lv_aload_n hx hb dX6_refusedAsFull_0 rfl (lv_at hl 0 rfl) ?_
  refine va_get (D := D) (ci := 4) (v := .ref (a 75)) (C := RX6) (T := TX6) (N := 12) hx hb hts (fun w h => List.mem_cons_of_mem _ (List.mem_append_right _ h)) hown hK hP 0 rfl rfl 6 (by decide) (hts (.fieldLink RX6 41 "LeastNeed" "refused" "[I") (List.mem_of_getElem? (i := 1) rfl)) (fun _ h9 => h9) rfl dX6_refusedAsFull_1 ?_
  refine lv_iconst (v := (2 : Int32)) hx hb dX6_refusedAsFull_4 (by decide) ?_
  refine lv_dup2_11 hx hb dX6_refusedAsFull_5 rfl rfl ?_
  refine k_iald (D := D) (k := 2) (by rfl) hx hb hK hP 75 1 rfl rfl (k_in (by decide)) dX6_refusedAsFull_6 ?_
  refine lv_iconst (v := (1 : Int32)) hx hb dX6_refusedAsFull_7 (by decide) ?_
  refine lv_iadd hx hb dX6_refusedAsFull_8 ?_
  refine k_iast (D := D) (k := 2) (by rfl) hx hb hK hP hD hS 75 1 rfl rfl (k_in (by decide)) dX6_refusedAsFull_9 (fun H locs hP hD hS => ?_)
  have hP : va_P D vwCl (wX6 cs a (k_w S 75 2 ((S 75 2) + (1 : Int32))) L) _ := k_eq hP (wsX6_a75 cs a S L 2 ((S 75 2) + (1 : Int32)))
  have hD := hDA (k_w S 75 2 ((S 75 2) + (1 : Int32))) L
  refine lv_bipush (v := (-4 : Int32)) hx hb dX6_refusedAsFull_10 (by decide) ?_
  obtain ⟨e1, e2⟩ := dn_s2 hd
  exact k_iret hx hb hr hQ hAe e1 (by rw [e2]) hP hS hlocks dX6_refusedAsFull_12
-- LeastNeed.refusedAsBad()I
set_option maxHeartbeats 4000000 in
set_option maxRecDepth 100000 in
theorem mX6_refusedAsBad (l : Launch) (D : va_G) (cs : Nat → ClassId) (a : Nat → Nat) (S : Nat → Nat → Int32) (L : Nat → Nat → Int64) (r9 : Int32) (S9 : (Nat → Nat → Int32)) (hd : nX6_refusedAsBad S L = some (r9, S9)) : ∀ sz : Nat, Met l yX6_refusedAsBad wsX6_refusedAsBad ({ frames := 0, cells := 0, slots := 0, locals := 0 }) (k_Pc D cs [.ref (a 0)] (wX6 cs a S L) sz) (k_Qi D r9 (wX6 cs a S L) (wX6 cs a S9 L) sz) 0 0 (va_A (wX6 cs a S L) sz) := by
  intro sz
  refine Met.ofW (cc := cX6_refusedAsBad) (maxL := 1) (ret := (some .int)) (by decide) rfl ?_
  intro p e s m args below meth c s₁ B hml hv
  obtain ⟨rfl, hsz, hP, hK, hD0, hNn⟩ := hv
  have hx := B.exec
  have hb := B.bytes
  have hr := B.returns
  have hts := atoms_spec (ws := wsX6_refusedAsBad) B.pre
  have hown : s.vm.findClass RX6 = some m.cls := findClass_of_methodNamed B.named
  have hlocks := B.notSynchronized
  subst hsz
  obtain ⟨A, hAe⟩ : ∃ A : Nat → Prop, A = va_A (wX6 cs a S L) s.heap.size := ⟨_, rfl⟩
  have hD : va_D A (wX6 cs a S L) := by rw [hAe]; exact hD0.self
  have hA : ∀ q : Nat, s.heap.size ≤ q → A q := fun q h => by rw [hAe]; exact Or.inr h
  have hS : va_S A s.heap s.heap [] := va_S.rf
  have hDA : ∀ (S : Nat → Nat → Int32) (L : Nat → Nat → Int64), va_D A (wX6 cs a S L) := fun S L => k_DA hD rfl
  have hl := lv_entry ([.ref (a 0)]) (n := 1) (Nat.le_of_ble_eq_true rfl)
  rw [lg_entry_eq]
  generalize (lg_sl ([.ref (a 0)]) ++ List.replicate (1 - (lg_sl ([.ref (a 0)])).length) Slot.unset).toArray = ls at hl ⊢
  have hl : lv_has ls 1 [(0, .ref (a 0))] := hl
  obtain ⟨Q, hQ⟩ : ∃ Q, Q = MQ below (k_Qi D r9 (wX6 cs a S L) (wX6 cs a S9 L) s.heap.size) ([.ref (a 0)] : List Value).toArray s 0 0 (va_A (wX6 cs a S L) s.heap.size) := ⟨_, rfl⟩
  rw [← hQ]
  unfold nX6_refusedAsBad at hd
  refine lv_aload_n hx hb dX6_refusedAsBad_0 rfl (lv_at hl 0 rfl) ?_
  refine va_get (D := D) (ci := 4) (v := .ref (a 75)) (C := RX6) (T := TX6) (N := 12) hx hb hts (fun w h => List.mem_cons_of_mem _ (List.mem_append_right _ h)) hown hK hP 0 rfl rfl 6 (by decide) (hts (.fieldLink RX6 41 "LeastNeed" "refused" "[I") (List.mem_of_getElem? (i := 1) rfl)) (fun _ h9 => h9) rfl dX6_refusedAsBad_1 ?_
  refine lv_iconst (v := (0 : Int32)) hx hb dX6_refusedAsBad_4 (by decide) ?_
  refine lv_dup2_11 hx hb dX6_refusedAsBad_5 rfl rfl ?_
  refine k_iald (D := D) (k := 0) (by rfl) hx hb hK hP 75 1 rfl rfl (k_in (by decide)) dX6_refusedAsBad_6 ?_
  refine lv_iconst (v := (1 : Int32)) hx hb dX6_refusedAsBad_7 (by decide) ?_
  refine lv_iadd hx hb dX6_refusedAsBad_8 ?_
  refine k_iast (D := D) (k := 0) (by rfl) hx hb hK hP hD hS 75 1 rfl rfl (k_in (by decide)) dX6_refusedAsBad_9 (fun H locs hP hD hS => ?_)
  have hP : va_P D vwCl (wX6 cs a (k_w S 75 0 ((S 75 0) + (1 : Int32))) L) _ := k_eq hP (wsX6_a75 cs a S L 0 ((S 75 0) + (1 : Int32)))
  have hD := hDA (k_w S 75 0 ((S 75 0) + (1 : Int32))) L
  refine lv_bipush (v := (-2 : Int32)) hx hb dX6_refusedAsBad_10 (by decide) ?_
  obtain ⟨e1, e2⟩ := dn_s2 hd
  exact k_iret hx hb hr hQ hAe e1 (by rw [e2]) hP hS hlocks dX6_refusedAsBad_12
-- LeastNeed.person(IIIIII)I
set_option maxHeartbeats 4000000 in
set_option maxRecDepth 100000 in
theorem mX6_person (l : Launch) (D : va_G) (cs : Nat → ClassId) (a : Nat → Nat) (S : Nat → Nat → Int32) (L : Nat → Nat → Int64) (p1 : Int32) (p2 : Int32) (p3 : Int32) (p4 : Int32) (p5 : Int32) (p6 : Int32) (r9 : Int32) (S9 : (Nat → Nat → Int32)) (hd : nX6_person S L p1 p2 p3 p4 p5 p6 = some (r9, S9)) : ∀ sz : Nat, Met l yX6_person wsX6_person ({ frames := 1, cells := 0, slots := 0, locals := 26 }) (k_Pc D cs [.ref (a 0), .int p1, .int p2, .int p3, .int p4, .int p5, .int p6] (wX6 cs a S L) sz) (k_Qi D r9 (wX6 cs a S L) (wX6 cs a S9 L) sz) 0 0 (va_A (wX6 cs a S L) sz) := by
  intro sz
  refine Met.ofW (cc := cX6_person) (maxL := 8) (ret := (some .int)) (by decide) rfl ?_
  intro p e s m args below meth c s₁ B hml hv
  obtain ⟨rfl, hsz, hP, hK, hD0, hNn⟩ := hv
  have hx := B.exec
  have hb := B.bytes
  have hr := B.returns
  have hts := atoms_spec (ws := wsX6_person) B.pre
  have hown : s.vm.findClass RX6 = some m.cls := findClass_of_methodNamed B.named
  have hlocks := B.notSynchronized
  subst hsz
  obtain ⟨A, hAe⟩ : ∃ A : Nat → Prop, A = va_A (wX6 cs a S L) s.heap.size := ⟨_, rfl⟩
  have hD : va_D A (wX6 cs a S L) := by rw [hAe]; exact hD0.self
  have hA : ∀ q : Nat, s.heap.size ≤ q → A q := fun q h => by rw [hAe]; exact Or.inr h
  have hS : va_S A s.heap s.heap [] := va_S.rf
  have hDA : ∀ (S : Nat → Nat → Int32) (L : Nat → Nat → Int64), va_D A (wX6 cs a S L) := fun S L => k_DA hD rfl
  have hl := lv_entry ([.ref (a 0), .int p1, .int p2, .int p3, .int p4, .int p5, .int p6]) (n := 8) (Nat.le_of_ble_eq_true rfl)
  rw [lg_entry_eq]
  generalize (lg_sl ([.ref (a 0), .int p1, .int p2, .int p3, .int p4, .int p5, .int p6]) ++ List.replicate (8 - (lg_sl ([.ref (a 0), .int p1, .int p2, .int p3, .int p4, .int p5, .int p6])).length) Slot.unset).toArray = ls at hl ⊢
  have hl : lv_has ls 8 [(0, .ref (a 0)), (1, .int p1), (2, .int p2), (3, .int p3), (4, .int p4), (5, .int p5), (6, .int p6)] := hl
  obtain ⟨Q, hQ⟩ : ∃ Q, Q = MQ below (k_Qi D r9 (wX6 cs a S L) (wX6 cs a S9 L) s.heap.size) ([.ref (a 0), .int p1, .int p2, .int p3, .int p4, .int p5, .int p6] : List Value).toArray s 0 0 (va_A (wX6 cs a S L) s.heap.size) := ⟨_, rfl⟩
  rw [← hQ]
  have Jo69 : ∀ (S_69 : Nat → Nat → Int32) (H : Heap) (locs : List Loc) (ls : Array Slot), nX6_person_j69 S_69 L = some (r9, S9) → lv_has ls 8 [(0, .ref (a 0))] → va_P D vwCl (wX6 cs a S_69 L) H → va_S A s.heap H locs → W p l e (headSpec wsX6_person ({ frames := 1, cells := 0, slots := 0, locals := 26 })).room s m ([.ref (a 0), .int p1, .int p2, .int p3, .int p4, .int p5, .int p6] : List Value).toArray below meth c H locs 0 0 Q (F0 m 69 ls []) := by
    intro S_69 H locs ls hd hl hP hS
    have hD := hDA S_69 L
    unfold nX6_person_j69 at hd
    refine lv_aload_n hx hb dX6_person_69 rfl (lv_at hl 0 rfl) ?_
    obtain ⟨r70, S70, hq70, hd⟩ := dn_b2 hd
    have hF := k_self hD hS hA
    refine k_run_i (va_runV (As := []) (rest := []) ⟨hx, hb, hml, hown, hts⟩ (mX6_refusedAsBad l D cs a S_69 L r70 S70 hq70 _) (cwV 0 hts gX6_person_X6_refusedAsBad rfl rfl rfl (by decide +kernel) ⟨Nat.le_of_ble_eq_true rfl, Nat.le_of_ble_eq_true rfl⟩) ⟨k_blind, va_recv hK hP (ci := 4) (q0 := 0) rfl rfl, k_pre hP hK hNn hD⟩ rfl rfl hl.1 rfl (lv_room (Nat.le_of_ble_eq_true rfl)) dX6_person_70 ⟨Nat.le_of_ble_eq_true rfl, Nat.le_of_ble_eq_true rfl⟩) hS hF (fun H locs hP1 hk hS => ?_)
    have hP : va_P D vwCl (wX6 cs a S70 L) _ := hP1
    have hD := hDA S70 L
    obtain ⟨e1, e2⟩ := dn_s2 hd
    exact k_iret hx hb hr hQ hAe e1 (by rw [e2]) hP hS hlocks dX6_person_73
  have Jo23 : ∀ (w0_23 : Int32) (S_23 : Nat → Nat → Int32) (H : Heap) (locs : List Loc) (ls : Array Slot), nX6_person_j23 p1 p2 p3 p4 p5 p6 w0_23 S_23 L = some (r9, S9) → lv_has ls 8 [(0, .ref (a 0)), (1, .int p1), (2, .int p2), (3, .int p3), (4, .int p4), (5, .int p5), (6, .int p6)] → va_P D vwCl (wX6 cs a S_23 L) H → va_S A s.heap H locs → W p l e (headSpec wsX6_person ({ frames := 1, cells := 0, slots := 0, locals := 26 })).room s m ([.ref (a 0), .int p1, .int p2, .int p3, .int p4, .int p5, .int p6] : List Value).toArray below meth c H locs 0 0 Q (F0 m 23 ls [.int w0_23]) := by
    intro w0_23 S_23 H locs ls hd hl hP hS
    have hD := hDA S_23 L
    unfold nX6_person_j23 at hd
    refine lv_istore (lv' := [(7, .int w0_23), (0, .ref (a 0)), (1, .int p1), (2, .int p2), (3, .int p3), (4, .int p4), (5, .int p5), (6, .int p6)]) hx hb dX6_person_23 hl (by decide) rfl (fun ls hl => ?_)
    refine lv_iload hx hb dX6_person_25 (lv_at hl 0 rfl) ?_
    refine lv_if_eq (tgt := 69) hx hb dX6_person_27 (by decide) (fun c27 => ?_) (fun c27 => ?_)
    · have hd := dn_t c27 hd
      exact Jo69 S_23 _ _ _ hd (lv_sub hl [1] rfl) hP hS
    · have hd := dn_f c27 hd
      refine lv_iload_n hx hb dX6_person_30 rfl (lv_at hl 4 rfl) ?_
      refine lv_bipush (v := (10 : Int32)) hx hb dX6_person_31 (by decide) ?_
      obtain ⟨r33, hq33, hd⟩ := dn_b1 hd
      have hPc := k_P0 hP
      have hDc : va_D A ([] : va_W) := k_D0
      have hF := k_self hDc hS hA
      refine k_run_i (va_runS (As := [.int p3, .int (10 : Int32)]) (rest := []) ⟨hx, hb, hml, hown, hts⟩ (mX6_upTo l D cs  p3 (10 : Int32) r33 hq33 _) (va_cwS 2 hts gX6_person_X6_upTo rfl rfl rfl (by decide +kernel) ⟨Nat.le_of_ble_eq_true rfl, Nat.le_of_ble_eq_true rfl⟩) ⟨k_blind, k_pre hPc hK hNn hDc⟩ rfl rfl hl.1 rfl (lv_room (Nat.le_of_ble_eq_true rfl)) dX6_person_33 ⟨Nat.le_of_ble_eq_true rfl, Nat.le_of_ble_eq_true rfl⟩) hS hF (fun H locs hP1 hk hS => ?_)
      have hP : va_P D vwCl (wX6 cs a S_23 L) _ := k_keep hP hk
      refine lv_if_eq (tgt := 69) hx hb dX6_person_36 (by decide) (fun c36 => ?_) (fun c36 => ?_)
      · have hd := dn_t c36 hd
        exact Jo69 S_23 _ _ _ hd (lv_sub hl [1] rfl) hP hS
      · have hd := dn_f c36 hd
        refine lv_iload hx hb dX6_person_39 (lv_at hl 5 rfl) ?_
        refine lv_bipush (v := (10 : Int32)) hx hb dX6_person_41 (by decide) ?_
        obtain ⟨r43, hq43, hd⟩ := dn_b1 hd
        have hPc := k_P0 hP
        have hDc : va_D A ([] : va_W) := k_D0
        have hF := k_self hDc hS hA
        refine k_run_i (va_runS (As := [.int p4, .int (10 : Int32)]) (rest := []) ⟨hx, hb, hml, hown, hts⟩ (mX6_upTo l D cs  p4 (10 : Int32) r43 hq43 _) (va_cwS 2 hts gX6_person_X6_upTo rfl rfl rfl (by decide +kernel) ⟨Nat.le_of_ble_eq_true rfl, Nat.le_of_ble_eq_true rfl⟩) ⟨k_blind, k_pre hPc hK hNn hDc⟩ rfl rfl hl.1 rfl (lv_room (Nat.le_of_ble_eq_true rfl)) dX6_person_43 ⟨Nat.le_of_ble_eq_true rfl, Nat.le_of_ble_eq_true rfl⟩) hS hF (fun H locs hP1 hk hS => ?_)
        have hP : va_P D vwCl (wX6 cs a S_23 L) _ := k_keep hP hk
        refine lv_if_eq (tgt := 69) hx hb dX6_person_46 (by decide) (fun c46 => ?_) (fun c46 => ?_)
        · have hd := dn_t c46 hd
          exact Jo69 S_23 _ _ _ hd (lv_sub hl [1] rfl) hP hS
        · have hd := dn_f c46 hd
          refine lv_iload hx hb dX6_person_49 (lv_at hl 6 rfl) ?_
          refine lv_bipush (v := (10 : Int32)) hx hb dX6_person_51 (by decide) ?_
          obtain ⟨r53, hq53, hd⟩ := dn_b1 hd
          have hPc := k_P0 hP
          have hDc : va_D A ([] : va_W) := k_D0
          have hF := k_self hDc hS hA
          refine k_run_i (va_runS (As := [.int p5, .int (10 : Int32)]) (rest := []) ⟨hx, hb, hml, hown, hts⟩ (mX6_upTo l D cs  p5 (10 : Int32) r53 hq53 _) (va_cwS 2 hts gX6_person_X6_upTo rfl rfl rfl (by decide +kernel) ⟨Nat.le_of_ble_eq_true rfl, Nat.le_of_ble_eq_true rfl⟩) ⟨k_blind, k_pre hPc hK hNn hDc⟩ rfl rfl hl.1 rfl (lv_room (Nat.le_of_ble_eq_true rfl)) dX6_person_53 ⟨Nat.le_of_ble_eq_true rfl, Nat.le_of_ble_eq_true rfl⟩) hS hF (fun H locs hP1 hk hS => ?_)
          have hP : va_P D vwCl (wX6 cs a S_23 L) _ := k_keep hP hk
          refine lv_if_eq (tgt := 69) hx hb dX6_person_56 (by decide) (fun c56 => ?_) (fun c56 => ?_)
          · have hd := dn_t c56 hd
            exact Jo69 S_23 _ _ _ hd (lv_sub hl [1] rfl) hP hS
          · have hd := dn_f c56 hd
            refine lv_iload hx hb dX6_person_59 (lv_at hl 7 rfl) ?_
            refine lv_bipush (v := (10 : Int32)) hx hb dX6_person_61 (by decide) ?_
            obtain ⟨r63, hq63, hd⟩ := dn_b1 hd
            have hPc := k_P0 hP
            have hDc : va_D A ([] : va_W) := k_D0
            have hF := k_self hDc hS hA
            refine k_run_i (va_runS (As := [.int p6, .int (10 : Int32)]) (rest := []) ⟨hx, hb, hml, hown, hts⟩ (mX6_upTo l D cs  p6 (10 : Int32) r63 hq63 _) (va_cwS 2 hts gX6_person_X6_upTo rfl rfl rfl (by decide +kernel) ⟨Nat.le_of_ble_eq_true rfl, Nat.le_of_ble_eq_true rfl⟩) ⟨k_blind, k_pre hPc hK hNn hDc⟩ rfl rfl hl.1 rfl (lv_room (Nat.le_of_ble_eq_true rfl)) dX6_person_63 ⟨Nat.le_of_ble_eq_true rfl, Nat.le_of_ble_eq_true rfl⟩) hS hF (fun H locs hP1 hk hS => ?_)
            have hP : va_P D vwCl (wX6 cs a S_23 L) _ := k_keep hP hk
            refine lv_if_ne (tgt := 74) hx hb dX6_person_66 (by decide) (fun c66 => ?_) (fun c66 => ?_)
            · have hd := dn_f c66 hd
              refine lv_aload_n hx hb dX6_person_74 rfl (lv_at hl 1 rfl) ?_
              refine va_get (D := D) (ci := 4) (v := .ref (a 1)) (C := RX6) (T := TX6) (N := 12) hx hb hts (fun w h => List.mem_cons_of_mem _ (List.mem_append_left _ (List.mem_append_left _ (List.mem_append_right _ h)))) hown hK hP 0 rfl rfl 0 (by decide) (hts (.fieldLink RX6 12 "LeastNeed" "now" "LLeastNeed$Valley;") (List.mem_of_getElem? (i := 1) rfl)) (fun _ h9 => h9) rfl dX6_person_75 ?_
              refine va_get (D := D) (ci := 3) (v := .int (S_23 1 12)) (C := RX5) (T := TX5) (N := 15) hx hb hts (fun w h => List.mem_cons_of_mem _ (List.mem_append_left _ (List.mem_append_right _ h))) hown hK hP 1 rfl rfl 12 (by decide) (hts (.fieldLink RX6 61 "LeastNeed$Valley" "people" "I") (List.mem_of_getElem? (i := 2) rfl)) (fun _ h9 => h9) rfl dX6_person_78 ?_
              refine lv_bipush (v := (7 : Int32)) hx hb dX6_person_81 (by decide) ?_
              refine lv_icmp_lt (tgt := 91) hx hb dX6_person_83 (by decide) (fun c83 => ?_) (fun c83 => ?_)
              · have hd := dn_t c83 hd
                refine lv_aload_n hx hb dX6_person_91 rfl (lv_at hl 1 rfl) ?_
                refine va_get (D := D) (ci := 4) (v := .ref (a 1)) (C := RX6) (T := TX6) (N := 12) hx hb hts (fun w h => List.mem_cons_of_mem _ (List.mem_append_left _ (List.mem_append_left _ (List.mem_append_right _ h)))) hown hK hP 0 rfl rfl 0 (by decide) (hts (.fieldLink RX6 12 "LeastNeed" "now" "LLeastNeed$Valley;") (List.mem_of_getElem? (i := 1) rfl)) (fun _ h9 => h9) rfl dX6_person_92 ?_
                refine lv_iload_n hx hb dX6_person_95 rfl (lv_at hl 2 rfl) ?_
                refine lv_iload_n hx hb dX6_person_96 rfl (lv_at hl 3 rfl) ?_
                refine lv_iload_n hx hb dX6_person_97 rfl (lv_at hl 4 rfl) ?_
                refine lv_iload hx hb dX6_person_98 (lv_at hl 5 rfl) ?_
                refine lv_iload hx hb dX6_person_100 (lv_at hl 6 rfl) ?_
                refine lv_iload hx hb dX6_person_102 (lv_at hl 7 rfl) ?_
                obtain ⟨S104, hq104, hd⟩ := dn_b1 hd
                have hPc : va_P D vwCl (wX5 cs (k_wi a 1) (k_wi S_23 1)) _ := k_sub hP [1, 2, 3, 4, 5, 6, 7, 8, 9, 10, 11, 12, 13, 14, 15, 16] (wcX6_X5_1 cs a S_23 L)
                have hDc : va_D A (wX5 cs (k_wi a 1) (k_wi S_23 1)) := hD.sub [1, 2, 3, 4, 5, 6, 7, 8, 9, 10, 11, 12, 13, 14, 15, 16] (by decide +kernel) (wcX6_X5_1 cs a S_23 L)
                have hF := k_self hDc hS hA
                refine k_run_v (va_runV (As := [.int p1, .int p2, .int p3, .int p4, .int p5, .int p6]) (rest := []) ⟨hx, hb, hml, hown, hts⟩ (mX5_addPerson l D cs (k_wi a 1) (k_wi S_23 1) p1 p2 p3 p4 p5 p6 S104 hq104 _) (cwV 6 hts gX6_person_X5_addPerson rfl rfl rfl (by decide +kernel) ⟨Nat.le_of_ble_eq_true rfl, Nat.le_of_ble_eq_true rfl⟩) ⟨k_blind, va_recv hK hP (ci := 3) (q0 := 1) rfl rfl, k_pre hPc hK hNn hDc⟩ rfl rfl hl.1 rfl (lv_room (Nat.le_of_ble_eq_true rfl)) dX6_person_104 ⟨Nat.le_of_ble_eq_true rfl, Nat.le_of_ble_eq_true rfl⟩) hS hF (fun H locs hP1 hk hS => ?_)
                have hP : va_P D vwCl (wX6 cs a (k_sp S_23 1 16 S104) L) _ := k_back hP hD [1, 2, 3, 4, 5, 6, 7, 8, 9, 10, 11, 12, 13, 14, 15, 16] [0, 17, 18, 19, 20, 21, 22, 23, 24, 25, 26, 27, 28, 29, 30, 31, 32, 33, 34, 35, 36, 37, 38, 39, 40, 41, 42, 43, 44, 45, 46, 47, 48, 49, 50, 51, 52, 53, 54, 55, 56, 57, 58, 59, 60, 61, 62, 63, 64, 65, 66, 67, 68, 69, 70, 71, 72, 73, 74, 75, 76, 77, 78] [0, 63, 64, 65, 66, 67, 68, 69, 70, 71, 72, 73, 74, 75, 76, 77, 78, 1, 2, 3, 4, 5, 6, 7, 8, 9, 10, 11, 12, 13, 14, 15, 16, 17, 18, 19, 20, 21, 22, 23, 24, 25, 26, 27, 28, 29, 30, 31, 32, 33, 34, 35, 36, 37, 38, 39, 40, 41, 42, 43, 44, 45, 46, 47, 48, 49, 50, 51, 52, 53, 54, 55, 56, 57, 58, 59, 60, 61, 62] (wcX6_X5_1 cs a S_23 L) (by decide +kernel) hk hP1 (wbX6_X5_1_S0 cs a S_23 L S104)
                have hD := hDA (k_sp S_23 1 16 S104) L
                refine lv_aload_n hx hb dX6_person_107 rfl (lv_at hl 1 rfl) ?_
                refine va_get (D := D) (ci := 4) (v := .ref (a 1)) (C := RX6) (T := TX6) (N := 12) hx hb hts (fun w h => List.mem_cons_of_mem _ (List.mem_append_left _ (List.mem_append_left _ (List.mem_append_right _ h)))) hown hK hP 0 rfl rfl 0 (by decide) (hts (.fieldLink RX6 12 "LeastNeed" "now" "LLeastNeed$Valley;") (List.mem_of_getElem? (i := 1) rfl)) (fun _ h9 => h9) rfl dX6_person_108 ?_
                refine va_get (D := D) (ci := 3) (v := .int ((k_sp S_23 1 16 S104) 1 12)) (C := RX5) (T := TX5) (N := 15) hx hb hts (fun w h => List.mem_cons_of_mem _ (List.mem_append_left _ (List.mem_append_right _ h))) hown hK hP 1 rfl rfl 12 (by decide) (hts (.fieldLink RX6 61 "LeastNeed$Valley" "people" "I") (List.mem_of_getElem? (i := 2) rfl)) (fun _ h9 => h9) rfl dX6_person_111 ?_
                refine lv_iconst (v := (1 : Int32)) hx hb dX6_person_114 (by decide) ?_
                refine lv_isub hx hb dX6_person_115 ?_
                obtain ⟨e1, e2⟩ := dn_s2 hd
                exact k_iret hx hb hr hQ hAe e1 (by rw [e2]) hP hS hlocks dX6_person_116
              · have hd := dn_f c83 hd
                refine lv_aload_n hx hb dX6_person_86 rfl (lv_at hl 1 rfl) ?_
                obtain ⟨r87, S87, hq87, hd⟩ := dn_b2 hd
                have hF := k_self hD hS hA
                refine k_run_i (va_runV (As := []) (rest := []) ⟨hx, hb, hml, hown, hts⟩ (mX6_refusedAsFull l D cs a S_23 L r87 S87 hq87 _) (cwV 0 hts gX6_person_X6_refusedAsFull rfl rfl rfl (by decide +kernel) ⟨Nat.le_of_ble_eq_true rfl, Nat.le_of_ble_eq_true rfl⟩) ⟨k_blind, va_recv hK hP (ci := 4) (q0 := 0) rfl rfl, k_pre hP hK hNn hD⟩ rfl rfl hl.1 rfl (lv_room (Nat.le_of_ble_eq_true rfl)) dX6_person_87 ⟨Nat.le_of_ble_eq_true rfl, Nat.le_of_ble_eq_true rfl⟩) hS hF (fun H locs hP1 hk hS => ?_)
                have hP : va_P D vwCl (wX6 cs a S87 L) _ := hP1
                have hD := hDA S87 L
                obtain ⟨e1, e2⟩ := dn_s2 hd
                exact k_iret hx hb hr hQ hAe e1 (by rw [e2]) hP hS hlocks dX6_person_90
            · have hd := dn_t c66 hd
              exact Jo69 S_23 _ _ _ hd (lv_sub hl [1] rfl) hP hS
  have Jo22 : ∀ (S_22 : Nat → Nat → Int32) (H : Heap) (locs : List Loc) (ls : Array Slot), nX6_person_j22 p1 p2 p3 p4 p5 p6 S_22 L = some (r9, S9) → lv_has ls 8 [(0, .ref (a 0)), (1, .int p1), (2, .int p2), (3, .int p3), (4, .int p4), (5, .int p5), (6, .int p6)] → va_P D vwCl (wX6 cs a S_22 L) H → va_S A s.heap H locs → W p l e (headSpec wsX6_person ({ frames := 1, cells := 0, slots := 0, locals := 26 })).room s m ([.ref (a 0), .int p1, .int p2, .int p3, .int p4, .int p5, .int p6] : List Value).toArray below meth c H locs 0 0 Q (F0 m 22 ls []) := by
    intro S_22 H locs ls hd hl hP hS
    have hD := hDA S_22 L
    unfold nX6_person_j22 at hd
    refine lv_iconst (v := (0 : Int32)) hx hb dX6_person_22 (by decide) ?_
    exact Jo23 (0 : Int32) S_22 _ _ _ hd (lv_sub hl [0, 1, 2, 3, 4, 5, 6] rfl) hP hS
  unfold nX6_person at hd
  refine lv_iload_n hx hb dX6_person_0 rfl (lv_at hl 1 rfl) ?_
  refine lv_bipush (v := (6 : Int32)) hx hb dX6_person_1 (by decide) ?_
  obtain ⟨r3, hq3, hd⟩ := dn_b1 hd
  have hPc := k_P0 hP
  have hDc : va_D A ([] : va_W) := k_D0
  have hF := k_self hDc hS hA
  refine k_run_i (va_runS (As := [.int p1, .int (6 : Int32)]) (rest := []) ⟨hx, hb, hml, hown, hts⟩ (mX6_upTo l D cs  p1 (6 : Int32) r3 hq3 _) (va_cwS 2 hts gX6_person_X6_upTo rfl rfl rfl (by decide +kernel) ⟨Nat.le_of_ble_eq_true rfl, Nat.le_of_ble_eq_true rfl⟩) ⟨k_blind, k_pre hPc hK hNn hDc⟩ rfl rfl hl.1 rfl (lv_room (Nat.le_of_ble_eq_true rfl)) dX6_person_3 ⟨Nat.le_of_ble_eq_true rfl, Nat.le_of_ble_eq_true rfl⟩) hS hF (fun H locs hP1 hk hS => ?_)
  have hP : va_P D vwCl (wX6 cs a S L) _ := k_keep hP hk
  refine lv_if_eq (tgt := 22) hx hb dX6_person_6 (by decide) (fun c6 => ?_) (fun c6 => ?_)
  · have hd := dn_t c6 hd
    exact Jo22 S _ _ _ hd (lv_sub hl [0, 1, 2, 3, 4, 5, 6] rfl) hP hS
  · have hd := dn_f c6 hd
    refine lv_iload_n hx hb dX6_person_9 rfl (lv_at hl 2 rfl) ?_
    refine lv_bipush (v := (20 : Int32)) hx hb dX6_person_10 (by decide) ?_
    obtain ⟨r12, hq12, hd⟩ := dn_b1 hd
    have hPc := k_P0 hP
    have hDc : va_D A ([] : va_W) := k_D0
    have hF := k_self hDc hS hA
    refine k_run_i (va_runS (As := [.int p2, .int (20 : Int32)]) (rest := []) ⟨hx, hb, hml, hown, hts⟩ (mX6_upTo l D cs  p2 (20 : Int32) r12 hq12 _) (va_cwS 2 hts gX6_person_X6_upTo rfl rfl rfl (by decide +kernel) ⟨Nat.le_of_ble_eq_true rfl, Nat.le_of_ble_eq_true rfl⟩) ⟨k_blind, k_pre hPc hK hNn hDc⟩ rfl rfl hl.1 rfl (lv_room (Nat.le_of_ble_eq_true rfl)) dX6_person_12 ⟨Nat.le_of_ble_eq_true rfl, Nat.le_of_ble_eq_true rfl⟩) hS hF (fun H locs hP1 hk hS => ?_)
    have hP : va_P D vwCl (wX6 cs a S L) _ := k_keep hP hk
    refine lv_if_eq (tgt := 22) hx hb dX6_person_15 (by decide) (fun c15 => ?_) (fun c15 => ?_)
    · have hd := dn_t c15 hd
      exact Jo22 S _ _ _ hd (lv_sub hl [0, 1, 2, 3, 4, 5, 6] rfl) hP hS
    · have hd := dn_f c15 hd
      refine lv_iconst (v := (1 : Int32)) hx hb dX6_person_18 (by decide) ?_
      refine lv_goto (tgt := 23) hx hb dX6_person_19 (by decide) ?_
      exact Jo23 (1 : Int32) S _ _ _ hd (lv_sub hl [0, 1, 2, 3, 4, 5, 6] rfl) hP hS
-- LeastNeed.isPerson(I)Z
set_option maxHeartbeats 4000000 in
set_option maxRecDepth 100000 in
theorem mX6_isPerson (l : Launch) (D : va_G) (cs : Nat → ClassId) (a : Nat → Nat) (S : Nat → Nat → Int32) (L : Nat → Nat → Int64) (p1 : Int32) (r9 : Int32) (hd : nX6_isPerson S L p1 = some r9) : ∀ sz : Nat, Met l yX6_isPerson wsX6_isPerson ({ frames := 1, cells := 0, slots := 0, locals := 21 }) (k_Pc D cs [.ref (a 0), .int p1] (wX6 cs a S L) sz) (k_Qi D r9 (wX6 cs a S L) (wX6 cs a S L) sz) 0 0 (va_A (wX6 cs a S L) sz) := by
  intro sz
  refine Met.ofW (cc := cX6_isPerson) (maxL := 2) (ret := (some .boolean)) (by decide) rfl ?_
  intro p e s m args below meth c s₁ B hml hv
  obtain ⟨rfl, hsz, hP, hK, hD0, hNn⟩ := hv
  have hx := B.exec
  have hb := B.bytes
  have hr := B.returns
  have hts := atoms_spec (ws := wsX6_isPerson) B.pre
  have hown : s.vm.findClass RX6 = some m.cls := findClass_of_methodNamed B.named
  have hlocks := B.notSynchronized
  subst hsz
  obtain ⟨A, hAe⟩ : ∃ A : Nat → Prop, A = va_A (wX6 cs a S L) s.heap.size := ⟨_, rfl⟩
  have hD : va_D A (wX6 cs a S L) := by rw [hAe]; exact hD0.self
  have hA : ∀ q : Nat, s.heap.size ≤ q → A q := fun q h => by rw [hAe]; exact Or.inr h
  have hS : va_S A s.heap s.heap [] := va_S.rf
  have hDA : ∀ (S : Nat → Nat → Int32) (L : Nat → Nat → Int64), va_D A (wX6 cs a S L) := fun S L => k_DA hD rfl
  have hl := lv_entry ([.ref (a 0), .int p1]) (n := 2) (Nat.le_of_ble_eq_true rfl)
  rw [lg_entry_eq]
  generalize (lg_sl ([.ref (a 0), .int p1]) ++ List.replicate (2 - (lg_sl ([.ref (a 0), .int p1])).length) Slot.unset).toArray = ls at hl ⊢
  have hl : lv_has ls 2 [(0, .ref (a 0)), (1, .int p1)] := hl
  obtain ⟨Q, hQ⟩ : ∃ Q, Q = MQ below (k_Qi D r9 (wX6 cs a S L) (wX6 cs a S L) s.heap.size) ([.ref (a 0), .int p1] : List Value).toArray s 0 0 (va_A (wX6 cs a S L) s.heap.size) := ⟨_, rfl⟩
  rw [← hQ]
  unfold nX6_isPerson at hd
  refine lv_iload_n hx hb dX6_isPerson_0 rfl (lv_at hl 1 rfl) ?_
  refine lv_aload_n hx hb dX6_isPerson_1 rfl (lv_at hl 0 rfl) ?_
  refine va_get (D := D) (ci := 4) (v := .ref (a 1)) (C := RX6) (T := TX6) (N := 12) hx hb hts (fun w h => List.mem_cons_of_mem _ (List.mem_append_left _ (List.mem_append_right _ h))) hown hK hP 0 rfl rfl 0 (by decide) (hts (.fieldLink RX6 12 "LeastNeed" "now" "LLeastNeed$Valley;") (List.mem_of_getElem? (i := 1) rfl)) (fun _ h9 => h9) rfl dX6_isPerson_2 ?_
  refine va_get (D := D) (ci := 3) (v := .int (S 1 12)) (C := RX5) (T := TX5) (N := 15) hx hb hts (fun w h => List.mem_cons_of_mem _ (List.mem_append_right _ h)) hown hK hP 1 rfl rfl 12 (by decide) (hts (.fieldLink RX6 61 "LeastNeed$Valley" "people" "I") (List.mem_of_getElem? (i := 2) rfl)) (fun _ h9 => h9) rfl dX6_isPerson_5 ?_
  obtain ⟨r8, hq8, hd⟩ := dn_b1 hd
  have hPc := k_P0 hP
  have hDc : va_D A ([] : va_W) := k_D0
  have hF := k_self hDc hS hA
  refine k_run_i (va_runS (As := [.int p1, .int (S 1 12)]) (rest := []) ⟨hx, hb, hml, hown, hts⟩ (mX6_upTo l D cs  p1 (S 1 12) r8 hq8 _) (va_cwS 2 hts gX6_isPerson_X6_upTo rfl rfl rfl (by decide +kernel) ⟨Nat.le_of_ble_eq_true rfl, Nat.le_of_ble_eq_true rfl⟩) ⟨k_blind, k_pre hPc hK hNn hDc⟩ rfl rfl hl.1 rfl (lv_room (Nat.le_of_ble_eq_true rfl)) dX6_isPerson_8 ⟨Nat.le_of_ble_eq_true rfl, Nat.le_of_ble_eq_true rfl⟩) hS hF (fun H locs hP1 hk hS => ?_)
  have hP : va_P D vwCl (wX6 cs a S L) _ := k_keep hP hk
  obtain ⟨hz, hd⟩ := dn_n hd
  have e1 := dn_s1 hd
  exact k_zret hx hb hr (dn_z hz) hQ hAe e1 rfl hP hS hlocks dX6_isPerson_11
-- LeastNeed.thing(III)I
set_option maxHeartbeats 4000000 in
set_option maxRecDepth 100000 in
theorem mX6_thing (l : Launch) (D : va_G) (cs : Nat → ClassId) (a : Nat → Nat) (S : Nat → Nat → Int32) (L : Nat → Nat → Int64) (p1 : Int32) (p2 : Int32) (p3 : Int32) (r9 : Int32) (S9 : (Nat → Nat → Int32)) (hd : nX6_thing S L p1 p2 p3 = some (r9, S9)) : ∀ sz : Nat, Met l yX6_thing wsX6_thing ({ frames := 2, cells := 0, slots := 0, locals := 42 }) (k_Pc D cs [.ref (a 0), .int p1, .int p2, .int p3] (wX6 cs a S L) sz) (k_Qi D r9 (wX6 cs a S L) (wX6 cs a S9 L) sz) 0 0 (va_A (wX6 cs a S L) sz) := by
  intro sz
  refine Met.ofW (cc := cX6_thing) (maxL := 4) (ret := (some .int)) (by decide) rfl ?_
  intro p e s m args below meth c s₁ B hml hv
  obtain ⟨rfl, hsz, hP, hK, hD0, hNn⟩ := hv
  have hx := B.exec
  have hb := B.bytes
  have hr := B.returns
  have hts := atoms_spec (ws := wsX6_thing) B.pre
  have hown : s.vm.findClass RX6 = some m.cls := findClass_of_methodNamed B.named
  have hlocks := B.notSynchronized
  subst hsz
  obtain ⟨A, hAe⟩ : ∃ A : Nat → Prop, A = va_A (wX6 cs a S L) s.heap.size := ⟨_, rfl⟩
  have hD : va_D A (wX6 cs a S L) := by rw [hAe]; exact hD0.self
  have hA : ∀ q : Nat, s.heap.size ≤ q → A q := fun q h => by rw [hAe]; exact Or.inr h
  have hS : va_S A s.heap s.heap [] := va_S.rf
  have hDA : ∀ (S : Nat → Nat → Int32) (L : Nat → Nat → Int64), va_D A (wX6 cs a S L) := fun S L => k_DA hD rfl
  have hl := lv_entry ([.ref (a 0), .int p1, .int p2, .int p3]) (n := 4) (Nat.le_of_ble_eq_true rfl)
  rw [lg_entry_eq]
  generalize (lg_sl ([.ref (a 0), .int p1, .int p2, .int p3]) ++ List.replicate (4 - (lg_sl ([.ref (a 0), .int p1, .int p2, .int p3])).length) Slot.unset).toArray = ls at hl ⊢
  have hl : lv_has ls 4 [(0, .ref (a 0)), (1, .int p1), (2, .int p2), (3, .int p3)] := hl
  obtain ⟨Q, hQ⟩ : ∃ Q, Q = MQ below (k_Qi D r9 (wX6 cs a S L) (wX6 cs a S9 L) s.heap.size) ([.ref (a 0), .int p1, .int p2, .int p3] : List Value).toArray s 0 0 (va_A (wX6 cs a S L) s.heap.size) := ⟨_, rfl⟩
  rw [← hQ]
  have Jo25 : ∀ (S_25 : Nat → Nat → Int32) (H : Heap) (locs : List Loc) (ls : Array Slot), nX6_thing_j25 S_25 L = some (r9, S9) → lv_has ls 4 [(0, .ref (a 0))] → va_P D vwCl (wX6 cs a S_25 L) H → va_S A s.heap H locs → W p l e (headSpec wsX6_thing ({ frames := 2, cells := 0, slots := 0, locals := 42 })).room s m ([.ref (a 0), .int p1, .int p2, .int p3] : List Value).toArray below meth c H locs 0 0 Q (F0 m 25 ls []) := by
    intro S_25 H locs ls hd hl hP hS
    have hD := hDA S_25 L
    unfold nX6_thing_j25 at hd
    refine lv_aload_n hx hb dX6_thing_25 rfl (lv_at hl 0 rfl) ?_
    obtain ⟨r26, S26, hq26, hd⟩ := dn_b2 hd
    have hF := k_self hD hS hA
    refine k_run_i (va_runV (As := []) (rest := []) ⟨hx, hb, hml, hown, hts⟩ (mX6_refusedAsBad l D cs a S_25 L r26 S26 hq26 _) (cwV 0 hts gX6_thing_X6_refusedAsBad rfl rfl rfl (by decide +kernel) ⟨Nat.le_of_ble_eq_true rfl, Nat.le_of_ble_eq_true rfl⟩) ⟨k_blind, va_recv hK hP (ci := 4) (q0 := 0) rfl rfl, k_pre hP hK hNn hD⟩ rfl rfl hl.1 rfl (lv_room (Nat.le_of_ble_eq_true rfl)) dX6_thing_26 ⟨Nat.le_of_ble_eq_true rfl, Nat.le_of_ble_eq_true rfl⟩) hS hF (fun H locs hP1 hk hS => ?_)
    have hP : va_P D vwCl (wX6 cs a S26 L) _ := hP1
    have hD := hDA S26 L
    obtain ⟨e1, e2⟩ := dn_s2 hd
    exact k_iret hx hb hr hQ hAe e1 (by rw [e2]) hP hS hlocks dX6_thing_29
  unfold nX6_thing at hd
  refine lv_iload_n hx hb dX6_thing_0 rfl (lv_at hl 1 rfl) ?_
  refine lv_bipush (v := (6 : Int32)) hx hb dX6_thing_1 (by decide) ?_
  obtain ⟨r3, hq3, hd⟩ := dn_b1 hd
  have hPc := k_P0 hP
  have hDc : va_D A ([] : va_W) := k_D0
  have hF := k_self hDc hS hA
  refine k_run_i (va_runS (As := [.int p1, .int (6 : Int32)]) (rest := []) ⟨hx, hb, hml, hown, hts⟩ (mX6_upTo l D cs  p1 (6 : Int32) r3 hq3 _) (va_cwS 2 hts gX6_thing_X6_upTo rfl rfl rfl (by decide +kernel) ⟨Nat.le_of_ble_eq_true rfl, Nat.le_of_ble_eq_true rfl⟩) ⟨k_blind, k_pre hPc hK hNn hDc⟩ rfl rfl hl.1 rfl (lv_room (Nat.le_of_ble_eq_true rfl)) dX6_thing_3 ⟨Nat.le_of_ble_eq_true rfl, Nat.le_of_ble_eq_true rfl⟩) hS hF (fun H locs hP1 hk hS => ?_)
  have hP : va_P D vwCl (wX6 cs a S L) _ := k_keep hP hk
  refine lv_if_eq (tgt := 25) hx hb dX6_thing_6 (by decide) (fun c6 => ?_) (fun c6 => ?_)
  · have hd := dn_t c6 hd
    exact Jo25 S _ _ _ hd (lv_sub hl [0] rfl) hP hS
  · have hd := dn_f c6 hd
    refine lv_iload_n hx hb dX6_thing_9 rfl (lv_at hl 2 rfl) ?_
    refine lv_iconst (v := (4 : Int32)) hx hb dX6_thing_10 (by decide) ?_
    obtain ⟨r11, hq11, hd⟩ := dn_b1 hd
    have hPc := k_P0 hP
    have hDc : va_D A ([] : va_W) := k_D0
    have hF := k_self hDc hS hA
    refine k_run_i (va_runS (As := [.int p2, .int (4 : Int32)]) (rest := []) ⟨hx, hb, hml, hown, hts⟩ (mX6_upTo l D cs  p2 (4 : Int32) r11 hq11 _) (va_cwS 2 hts gX6_thing_X6_upTo rfl rfl rfl (by decide +kernel) ⟨Nat.le_of_ble_eq_true rfl, Nat.le_of_ble_eq_true rfl⟩) ⟨k_blind, k_pre hPc hK hNn hDc⟩ rfl rfl hl.1 rfl (lv_room (Nat.le_of_ble_eq_true rfl)) dX6_thing_11 ⟨Nat.le_of_ble_eq_true rfl, Nat.le_of_ble_eq_true rfl⟩) hS hF (fun H locs hP1 hk hS => ?_)
    have hP : va_P D vwCl (wX6 cs a S L) _ := k_keep hP hk
    refine lv_if_eq (tgt := 25) hx hb dX6_thing_14 (by decide) (fun c14 => ?_) (fun c14 => ?_)
    · have hd := dn_t c14 hd
      exact Jo25 S _ _ _ hd (lv_sub hl [0] rfl) hP hS
    · have hd := dn_f c14 hd
      refine lv_aload_n hx hb dX6_thing_17 rfl (lv_at hl 0 rfl) ?_
      refine lv_iload_n hx hb dX6_thing_18 rfl (lv_at hl 3 rfl) ?_
      obtain ⟨r19, hq19, hd⟩ := dn_b1 hd
      have hF := k_self hD hS hA
      refine k_run_i (va_runV (As := [.int p3]) (rest := []) ⟨hx, hb, hml, hown, hts⟩ (mX6_isPerson l D cs a S L p3 r19 hq19 _) (cwV 1 hts gX6_thing_X6_isPerson rfl rfl rfl (by decide +kernel) ⟨Nat.le_of_ble_eq_true rfl, Nat.le_of_ble_eq_true rfl⟩) ⟨k_blind, va_recv hK hP (ci := 4) (q0 := 0) rfl rfl, k_pre hP hK hNn hD⟩ rfl rfl hl.1 rfl (lv_room (Nat.le_of_ble_eq_true rfl)) dX6_thing_19 ⟨Nat.le_of_ble_eq_true rfl, Nat.le_of_ble_eq_true rfl⟩) hS hF (fun H locs hP1 hk hS => ?_)
      have hP : va_P D vwCl (wX6 cs a S L) _ := hP1
      have hD := hDA S L
      refine lv_if_ne (tgt := 30) hx hb dX6_thing_22 (by decide) (fun c22 => ?_) (fun c22 => ?_)
      · have hd := dn_f c22 hd
        refine lv_aload_n hx hb dX6_thing_30 rfl (lv_at hl 0 rfl) ?_
        refine va_get (D := D) (ci := 4) (v := .ref (a 1)) (C := RX6) (T := TX6) (N := 12) hx hb hts (fun w h => List.mem_cons_of_mem _ (List.mem_append_left _ (List.mem_append_left _ (List.mem_append_right _ h)))) hown hK hP 0 rfl rfl 0 (by decide) (hts (.fieldLink RX6 12 "LeastNeed" "now" "LLeastNeed$Valley;") (List.mem_of_getElem? (i := 1) rfl)) (fun _ h9 => h9) rfl dX6_thing_31 ?_
        refine va_get (D := D) (ci := 3) (v := .int (S 1 13)) (C := RX5) (T := TX5) (N := 15) hx hb hts (fun w h => List.mem_cons_of_mem _ (List.mem_append_left _ (List.mem_append_right _ h))) hown hK hP 1 rfl rfl 13 (by decide) (hts (.fieldLink RX6 87 "LeastNeed$Valley" "things" "I") (List.mem_of_getElem? (i := 2) rfl)) (fun _ h9 => h9) rfl dX6_thing_34 ?_
        refine lv_iconst (v := (5 : Int32)) hx hb dX6_thing_37 (by decide) ?_
        refine lv_icmp_lt (tgt := 46) hx hb dX6_thing_38 (by decide) (fun c38 => ?_) (fun c38 => ?_)
        · have hd := dn_t c38 hd
          refine lv_aload_n hx hb dX6_thing_46 rfl (lv_at hl 0 rfl) ?_
          refine va_get (D := D) (ci := 4) (v := .ref (a 1)) (C := RX6) (T := TX6) (N := 12) hx hb hts (fun w h => List.mem_cons_of_mem _ (List.mem_append_left _ (List.mem_append_left _ (List.mem_append_right _ h)))) hown hK hP 0 rfl rfl 0 (by decide) (hts (.fieldLink RX6 12 "LeastNeed" "now" "LLeastNeed$Valley;") (List.mem_of_getElem? (i := 1) rfl)) (fun _ h9 => h9) rfl dX6_thing_47 ?_
          refine lv_iload_n hx hb dX6_thing_50 rfl (lv_at hl 1 rfl) ?_
          refine lv_iload_n hx hb dX6_thing_51 rfl (lv_at hl 2 rfl) ?_
          refine lv_iload_n hx hb dX6_thing_52 rfl (lv_at hl 3 rfl) ?_
          obtain ⟨S53, hq53, hd⟩ := dn_b1 hd
          have hPc : va_P D vwCl (wX5 cs (k_wi a 1) (k_wi S 1)) _ := k_sub hP [1, 2, 3, 4, 5, 6, 7, 8, 9, 10, 11, 12, 13, 14, 15, 16] (wcX6_X5_1 cs a S L)
          have hDc : va_D A (wX5 cs (k_wi a 1) (k_wi S 1)) := hD.sub [1, 2, 3, 4, 5, 6, 7, 8, 9, 10, 11, 12, 13, 14, 15, 16] (by decide +kernel) (wcX6_X5_1 cs a S L)
          have hF := k_self hDc hS hA
          refine k_run_v (va_runV (As := [.int p1, .int p2, .int p3]) (rest := []) ⟨hx, hb, hml, hown, hts⟩ (mX5_addThing l D cs (k_wi a 1) (k_wi S 1) p1 p2 p3 S53 hq53 _) (cwV 3 hts gX6_thing_X5_addThing rfl rfl rfl (by decide +kernel) ⟨Nat.le_of_ble_eq_true rfl, Nat.le_of_ble_eq_true rfl⟩) ⟨k_blind, va_recv hK hP (ci := 3) (q0 := 1) rfl rfl, k_pre hPc hK hNn hDc⟩ rfl rfl hl.1 rfl (lv_room (Nat.le_of_ble_eq_true rfl)) dX6_thing_53 ⟨Nat.le_of_ble_eq_true rfl, Nat.le_of_ble_eq_true rfl⟩) hS hF (fun H locs hP1 hk hS => ?_)
          have hP : va_P D vwCl (wX6 cs a (k_sp S 1 16 S53) L) _ := k_back hP hD [1, 2, 3, 4, 5, 6, 7, 8, 9, 10, 11, 12, 13, 14, 15, 16] [0, 17, 18, 19, 20, 21, 22, 23, 24, 25, 26, 27, 28, 29, 30, 31, 32, 33, 34, 35, 36, 37, 38, 39, 40, 41, 42, 43, 44, 45, 46, 47, 48, 49, 50, 51, 52, 53, 54, 55, 56, 57, 58, 59, 60, 61, 62, 63, 64, 65, 66, 67, 68, 69, 70, 71, 72, 73, 74, 75, 76, 77, 78] [0, 63, 64, 65, 66, 67, 68, 69, 70, 71, 72, 73, 74, 75, 76, 77, 78, 1, 2, 3, 4, 5, 6, 7, 8, 9, 10, 11, 12, 13, 14, 15, 16, 17, 18, 19, 20, 21, 22, 23, 24, 25, 26, 27, 28, 29, 30, 31, 32, 33, 34, 35, 36, 37, 38, 39, 40, 41, 42, 43, 44, 45, 46, 47, 48, 49, 50, 51, 52, 53, 54, 55, 56, 57, 58, 59, 60, 61, 62] (wcX6_X5_1 cs a S L) (by decide +kernel) hk hP1 (wbX6_X5_1_S0 cs a S L S53)
          have hD := hDA (k_sp S 1 16 S53) L
          refine lv_aload_n hx hb dX6_thing_56 rfl (lv_at hl 0 rfl) ?_
          refine va_get (D := D) (ci := 4) (v := .ref (a 1)) (C := RX6) (T := TX6) (N := 12) hx hb hts (fun w h => List.mem_cons_of_mem _ (List.mem_append_left _ (List.mem_append_left _ (List.mem_append_right _ h)))) hown hK hP 0 rfl rfl 0 (by decide) (hts (.fieldLink RX6 12 "LeastNeed" "now" "LLeastNeed$Valley;") (List.mem_of_getElem? (i := 1) rfl)) (fun _ h9 => h9) rfl dX6_thing_57 ?_
          refine va_get (D := D) (ci := 3) (v := .int ((k_sp S 1 16 S53) 1 13)) (C := RX5) (T := TX5) (N := 15) hx hb hts (fun w h => List.mem_cons_of_mem _ (List.mem_append_left _ (List.mem_append_right _ h))) hown hK hP 1 rfl rfl 13 (by decide) (hts (.fieldLink RX6 87 "LeastNeed$Valley" "things" "I") (List.mem_of_getElem? (i := 2) rfl)) (fun _ h9 => h9) rfl dX6_thing_60 ?_
          refine lv_iconst (v := (1 : Int32)) hx hb dX6_thing_63 (by decide) ?_
          refine lv_isub hx hb dX6_thing_64 ?_
          obtain ⟨e1, e2⟩ := dn_s2 hd
          exact k_iret hx hb hr hQ hAe e1 (by rw [e2]) hP hS hlocks dX6_thing_65
        · have hd := dn_f c38 hd
          refine lv_aload_n hx hb dX6_thing_41 rfl (lv_at hl 0 rfl) ?_
          obtain ⟨r42, S42, hq42, hd⟩ := dn_b2 hd
          have hF := k_self hD hS hA
          refine k_run_i (va_runV (As := []) (rest := []) ⟨hx, hb, hml, hown, hts⟩ (mX6_refusedAsFull l D cs a S L r42 S42 hq42 _) (cwV 0 hts gX6_thing_X6_refusedAsFull rfl rfl rfl (by decide +kernel) ⟨Nat.le_of_ble_eq_true rfl, Nat.le_of_ble_eq_true rfl⟩) ⟨k_blind, va_recv hK hP (ci := 4) (q0 := 0) rfl rfl, k_pre hP hK hNn hD⟩ rfl rfl hl.1 rfl (lv_room (Nat.le_of_ble_eq_true rfl)) dX6_thing_42 ⟨Nat.le_of_ble_eq_true rfl, Nat.le_of_ble_eq_true rfl⟩) hS hF (fun H locs hP1 hk hS => ?_)
          have hP : va_P D vwCl (wX6 cs a S42 L) _ := hP1
          have hD := hDA S42 L
          obtain ⟨e1, e2⟩ := dn_s2 hd
          exact k_iret hx hb hr hQ hAe e1 (by rw [e2]) hP hS hlocks dX6_thing_45
      · have hd := dn_t c22 hd
        exact Jo25 S _ _ _ hd (lv_sub hl [0] rfl) hP hS
-- LeastNeed.type(I)I
set_option maxHeartbeats 4000000 in
set_option maxRecDepth 100000 in
theorem mX6_type (l : Launch) (D : va_G) (cs : Nat → ClassId) (a : Nat → Nat) (S : Nat → Nat → Int32) (L : Nat → Nat → Int64) (p1 : Int32) (r9 : Int32) (S9 : (Nat → Nat → Int32)) (hd : nX6_type S L p1 = some (r9, S9)) : ∀ sz : Nat, Met l yX6_type wsX6_type ({ frames := 1, cells := 0, slots := 0, locals := 21 }) (k_Pc D cs [.ref (a 0), .int p1] (wX6 cs a S L) sz) (k_Qi D r9 (wX6 cs a S L) (wX6 cs a S9 L) sz) 0 0 (va_A (wX6 cs a S L) sz) := by
  intro sz
  refine Met.ofW (cc := cX6_type) (maxL := 2) (ret := (some .int)) (by decide) rfl ?_
  intro p e s m args below meth c s₁ B hml hv
  obtain ⟨rfl, hsz, hP, hK, hD0, hNn⟩ := hv
  have hx := B.exec
  have hb := B.bytes
  have hr := B.returns
  have hts := atoms_spec (ws := wsX6_type) B.pre
  have hown : s.vm.findClass RX6 = some m.cls := findClass_of_methodNamed B.named
  have hlocks := B.notSynchronized
  subst hsz
  obtain ⟨A, hAe⟩ : ∃ A : Nat → Prop, A = va_A (wX6 cs a S L) s.heap.size := ⟨_, rfl⟩
  have hD : va_D A (wX6 cs a S L) := by rw [hAe]; exact hD0.self
  have hA : ∀ q : Nat, s.heap.size ≤ q → A q := fun q h => by rw [hAe]; exact Or.inr h
  have hS : va_S A s.heap s.heap [] := va_S.rf
  have hDA : ∀ (S : Nat → Nat → Int32) (L : Nat → Nat → Int64), va_D A (wX6 cs a S L) := fun S L => k_DA hD rfl
  have hl := lv_entry ([.ref (a 0), .int p1]) (n := 2) (Nat.le_of_ble_eq_true rfl)
  rw [lg_entry_eq]
  generalize (lg_sl ([.ref (a 0), .int p1]) ++ List.replicate (2 - (lg_sl ([.ref (a 0), .int p1])).length) Slot.unset).toArray = ls at hl ⊢
  have hl : lv_has ls 2 [(0, .ref (a 0)), (1, .int p1)] := hl
  obtain ⟨Q, hQ⟩ : ∃ Q, Q = MQ below (k_Qi D r9 (wX6 cs a S L) (wX6 cs a S9 L) s.heap.size) ([.ref (a 0), .int p1] : List Value).toArray s 0 0 (va_A (wX6 cs a S L) s.heap.size) := ⟨_, rfl⟩
  rw [← hQ]
  unfold nX6_type at hd
  refine lv_iload_n hx hb dX6_type_0 rfl (lv_at hl 1 rfl) ?_
  refine lv_sipush (v := (128 : Int32)) hx hb dX6_type_1 (by decide) ?_
  obtain ⟨r4, hq4, hd⟩ := dn_b1 hd
  have hPc := k_P0 hP
  have hDc : va_D A ([] : va_W) := k_D0
  have hF := k_self hDc hS hA
  refine k_run_i (va_runS (As := [.int p1, .int (128 : Int32)]) (rest := []) ⟨hx, hb, hml, hown, hts⟩ (mX6_upTo l D cs  p1 (128 : Int32) r4 hq4 _) (va_cwS 2 hts gX6_type_X6_upTo rfl rfl rfl (by decide +kernel) ⟨Nat.le_of_ble_eq_true rfl, Nat.le_of_ble_eq_true rfl⟩) ⟨k_blind, k_pre hPc hK hNn hDc⟩ rfl rfl hl.1 rfl (lv_room (Nat.le_of_ble_eq_true rfl)) dX6_type_4 ⟨Nat.le_of_ble_eq_true rfl, Nat.le_of_ble_eq_true rfl⟩) hS hF (fun H locs hP1 hk hS => ?_)
  have hP : va_P D vwCl (wX6 cs a S L) _ := k_keep hP hk
  refine lv_if_ne (tgt := 15) hx hb dX6_type_7 (by decide) (fun c7 => ?_) (fun c7 => ?_)
  · have hd := dn_f c7 hd
    refine lv_aload_n hx hb dX6_type_15 rfl (lv_at hl 0 rfl) ?_
    refine va_get (D := D) (ci := 4) (v := .ref (a 67)) (C := RX6) (T := TX6) (N := 12) hx hb hts (fun w h => List.mem_cons_of_mem _ (List.mem_append_left _ (List.mem_append_right _ h))) hown hK hP 0 rfl rfl 4 (by decide) (hts (.fieldLink RX6 30 "LeastNeed" "reader" "LLeastNeed$Reader;") (List.mem_of_getElem? (i := 1) rfl)) (fun _ h9 => h9) rfl dX6_type_16 ?_
    refine va_get (D := D) (ci := 1) (v := .int (S 67 2)) (C := RX2) (T := TX2) (N := 6) hx hb hts (fun w h => List.mem_cons_of_mem _ (List.mem_append_right _ h)) hown hK hP 67 rfl rfl 2 (by decide) (hts (.fieldLink RX6 94 "LeastNeed$Reader" "length" "I") (List.mem_of_getElem? (i := 2) rfl)) (fun _ h9 => h9) rfl dX6_type_19 ?_
    refine lv_sipush (v := (150 : Int32)) hx hb dX6_type_22 (by decide) ?_
    refine lv_icmp_lt (tgt := 33) hx hb dX6_type_25 (by decide) (fun c25 => ?_) (fun c25 => ?_)
    · have hd := dn_t c25 hd
      refine lv_aload_n hx hb dX6_type_33 rfl (lv_at hl 0 rfl) ?_
      refine va_get (D := D) (ci := 4) (v := .ref (a 67)) (C := RX6) (T := TX6) (N := 12) hx hb hts (fun w h => List.mem_cons_of_mem _ (List.mem_append_left _ (List.mem_append_right _ h))) hown hK hP 0 rfl rfl 4 (by decide) (hts (.fieldLink RX6 30 "LeastNeed" "reader" "LLeastNeed$Reader;") (List.mem_of_getElem? (i := 1) rfl)) (fun _ h9 => h9) rfl dX6_type_34 ?_
      refine lv_iload_n hx hb dX6_type_37 rfl (lv_at hl 1 rfl) ?_
      refine lv_i2c hx hb dX6_type_38 rfl ?_
      obtain ⟨S39, hq39, hd⟩ := dn_b1 hd
      have hPc : va_P D vwCl (wX2 cs (k_wi a 67) (k_wi S 67)) _ := k_sub hP [67, 68, 69] (wcX6_X2_67 cs a S L)
      have hDc : va_D A (wX2 cs (k_wi a 67) (k_wi S 67)) := hD.sub [67, 68, 69] (by decide +kernel) (wcX6_X2_67 cs a S L)
      have hF := k_self hDc hS hA
      refine k_run_v (va_runV (As := [.int ((p1.toUInt32 % 65536).toInt32)]) (rest := []) ⟨hx, hb, hml, hown, hts⟩ (mX2_put l D cs (k_wi a 67) (k_wi S 67) ((p1.toUInt32 % 65536).toInt32) S39 hq39 _) (cwV 1 hts gX6_type_X2_put rfl rfl rfl (by decide +kernel) ⟨Nat.le_of_ble_eq_true rfl, Nat.le_of_ble_eq_true rfl⟩) ⟨k_blind, va_recv hK hP (ci := 1) (q0 := 67) rfl rfl, k_pre hPc hK hNn hDc⟩ rfl rfl hl.1 rfl (lv_room (Nat.le_of_ble_eq_true rfl)) dX6_type_39 ⟨Nat.le_of_ble_eq_true rfl, Nat.le_of_ble_eq_true rfl⟩) hS hF (fun H locs hP1 hk hS => ?_)
      have hP : va_P D vwCl (wX6 cs a (k_sp S 67 3 S39) L) _ := k_back hP hD [67, 68, 69] [0, 1, 2, 3, 4, 5, 6, 7, 8, 9, 10, 11, 12, 13, 14, 15, 16, 17, 18, 19, 20, 21, 22, 23, 24, 25, 26, 27, 28, 29, 30, 31, 32, 33, 34, 35, 36, 37, 38, 39, 40, 41, 42, 43, 44, 45, 46, 47, 48, 49, 50, 51, 52, 53, 54, 55, 56, 57, 58, 59, 60, 61, 62, 63, 64, 65, 66, 70, 71, 72, 73, 74, 75, 76, 77, 78] [0, 1, 2, 3, 4, 5, 6, 7, 8, 9, 10, 11, 12, 13, 14, 15, 16, 17, 18, 19, 20, 21, 22, 23, 24, 25, 26, 27, 28, 29, 30, 31, 32, 33, 34, 35, 36, 37, 38, 39, 40, 41, 42, 43, 44, 45, 46, 47, 48, 49, 50, 51, 52, 53, 54, 55, 56, 57, 58, 59, 60, 61, 62, 63, 64, 65, 66, 76, 77, 78, 67, 68, 69, 70, 71, 72, 73, 74, 75] (wcX6_X2_67 cs a S L) (by decide +kernel) hk hP1 (wbX6_X2_67_S0 cs a S L S39)
      have hD := hDA (k_sp S 67 3 S39) L
      refine lv_aload_n hx hb dX6_type_42 rfl (lv_at hl 0 rfl) ?_
      refine va_get (D := D) (ci := 4) (v := .ref (a 67)) (C := RX6) (T := TX6) (N := 12) hx hb hts (fun w h => List.mem_cons_of_mem _ (List.mem_append_left _ (List.mem_append_right _ h))) hown hK hP 0 rfl rfl 4 (by decide) (hts (.fieldLink RX6 30 "LeastNeed" "reader" "LLeastNeed$Reader;") (List.mem_of_getElem? (i := 1) rfl)) (fun _ h9 => h9) rfl dX6_type_43 ?_
      refine va_get (D := D) (ci := 1) (v := .int ((k_sp S 67 3 S39) 67 2)) (C := RX2) (T := TX2) (N := 6) hx hb hts (fun w h => List.mem_cons_of_mem _ (List.mem_append_right _ h)) hown hK hP 67 rfl rfl 2 (by decide) (hts (.fieldLink RX6 94 "LeastNeed$Reader" "length" "I") (List.mem_of_getElem? (i := 2) rfl)) (fun _ h9 => h9) rfl dX6_type_46 ?_
      obtain ⟨e1, e2⟩ := dn_s2 hd
      exact k_iret hx hb hr hQ hAe e1 (by rw [e2]) hP hS hlocks dX6_type_49
    · have hd := dn_f c25 hd
      refine lv_aload_n hx hb dX6_type_28 rfl (lv_at hl 0 rfl) ?_
      obtain ⟨r29, S29, hq29, hd⟩ := dn_b2 hd
      have hF := k_self hD hS hA
      refine k_run_i (va_runV (As := []) (rest := []) ⟨hx, hb, hml, hown, hts⟩ (mX6_refusedAsFull l D cs a S L r29 S29 hq29 _) (cwV 0 hts gX6_type_X6_refusedAsFull rfl rfl rfl (by decide +kernel) ⟨Nat.le_of_ble_eq_true rfl, Nat.le_of_ble_eq_true rfl⟩) ⟨k_blind, va_recv hK hP (ci := 4) (q0 := 0) rfl rfl, k_pre hP hK hNn hD⟩ rfl rfl hl.1 rfl (lv_room (Nat.le_of_ble_eq_true rfl)) dX6_type_29 ⟨Nat.le_of_ble_eq_true rfl, Nat.le_of_ble_eq_true rfl⟩) hS hF (fun H locs hP1 hk hS => ?_)
      have hP : va_P D vwCl (wX6 cs a S29 L) _ := hP1
      have hD := hDA S29 L
      obtain ⟨e1, e2⟩ := dn_s2 hd
      exact k_iret hx hb hr hQ hAe e1 (by rw [e2]) hP hS hlocks dX6_type_32
  · have hd := dn_t c7 hd
    refine lv_aload_n hx hb dX6_type_10 rfl (lv_at hl 0 rfl) ?_
    obtain ⟨r11, S11, hq11, hd⟩ := dn_b2 hd
    have hF := k_self hD hS hA
    refine k_run_i (va_runV (As := []) (rest := []) ⟨hx, hb, hml, hown, hts⟩ (mX6_refusedAsBad l D cs a S L r11 S11 hq11 _) (cwV 0 hts gX6_type_X6_refusedAsBad rfl rfl rfl (by decide +kernel) ⟨Nat.le_of_ble_eq_true rfl, Nat.le_of_ble_eq_true rfl⟩) ⟨k_blind, va_recv hK hP (ci := 4) (q0 := 0) rfl rfl, k_pre hP hK hNn hD⟩ rfl rfl hl.1 rfl (lv_room (Nat.le_of_ble_eq_true rfl)) dX6_type_11 ⟨Nat.le_of_ble_eq_true rfl, Nat.le_of_ble_eq_true rfl⟩) hS hF (fun H locs hP1 hk hS => ?_)
    have hP : va_P D vwCl (wX6 cs a S11 L) _ := hP1
    have hD := hDA S11 L
    obtain ⟨e1, e2⟩ := dn_s2 hd
    exact k_iret hx hb hr hQ hAe e1 (by rw [e2]) hP hS hlocks dX6_type_14
-- LeastNeed.clear()I
set_option maxHeartbeats 4000000 in
set_option maxRecDepth 100000 in
theorem mX6_clear (l : Launch) (D : va_G) (cs : Nat → ClassId) (a : Nat → Nat) (S : Nat → Nat → Int32) (L : Nat → Nat → Int64) (r9 : Int32) (S9 : (Nat → Nat → Int32)) (hd : nX6_clear S L = some (r9, S9)) : ∀ sz : Nat, Met l yX6_clear wsX6_clear ({ frames := 0, cells := 0, slots := 0, locals := 0 }) (k_Pc D cs [.ref (a 0)] (wX6 cs a S L) sz) (k_Qi D r9 (wX6 cs a S L) (wX6 cs a S9 L) sz) 0 0 (va_A (wX6 cs a S L) sz) := by
  intro sz
  refine Met.ofW (cc := cX6_clear) (maxL := 2) (ret := (some .int)) (by decide) rfl ?_
  intro p e s m args below meth c s₁ B hml hv
  obtain ⟨rfl, hsz, hP, hK, hD0, hNn⟩ := hv
  have hx := B.exec
  have hb := B.bytes
  have hr := B.returns
  have hts := atoms_spec (ws := wsX6_clear) B.pre
  have hown : s.vm.findClass RX6 = some m.cls := findClass_of_methodNamed B.named
  have hlocks := B.notSynchronized
  subst hsz
  obtain ⟨A, hAe⟩ : ∃ A : Nat → Prop, A = va_A (wX6 cs a S L) s.heap.size := ⟨_, rfl⟩
  have hD : va_D A (wX6 cs a S L) := by rw [hAe]; exact hD0.self
  have hA : ∀ q : Nat, s.heap.size ≤ q → A q := fun q h => by rw [hAe]; exact Or.inr h
  have hS : va_S A s.heap s.heap [] := va_S.rf
  have hDA : ∀ (S : Nat → Nat → Int32) (L : Nat → Nat → Int64), va_D A (wX6 cs a S L) := fun S L => k_DA hD rfl
  have hl := lv_entry ([.ref (a 0)]) (n := 2) (Nat.le_of_ble_eq_true rfl)
  rw [lg_entry_eq]
  generalize (lg_sl ([.ref (a 0)]) ++ List.replicate (2 - (lg_sl ([.ref (a 0)])).length) Slot.unset).toArray = ls at hl ⊢
  have hl : lv_has ls 2 [(0, .ref (a 0))] := hl
  obtain ⟨Q, hQ⟩ : ∃ Q, Q = MQ below (k_Qi D r9 (wX6 cs a S L) (wX6 cs a S9 L) s.heap.size) ([.ref (a 0)] : List Value).toArray s 0 0 (va_A (wX6 cs a S L) s.heap.size) := ⟨_, rfl⟩
  rw [← hQ]
  unfold nX6_clear at hd
  refine lv_aload_n hx hb dX6_clear_0 rfl (lv_at hl 0 rfl) ?_
  refine va_get (D := D) (ci := 4) (v := .ref (a 67)) (C := RX6) (T := TX6) (N := 12) hx hb hts (fun w h => List.mem_cons_of_mem _ (List.mem_append_left _ (List.mem_append_right _ h))) hown hK hP 0 rfl rfl 4 (by decide) (hts (.fieldLink RX6 30 "LeastNeed" "reader" "LLeastNeed$Reader;") (List.mem_of_getElem? (i := 1) rfl)) (fun _ h9 => h9) rfl dX6_clear_1 ?_
  refine va_get (D := D) (ci := 1) (v := .int (S 67 2)) (C := RX2) (T := TX2) (N := 6) hx hb hts (fun w h => List.mem_cons_of_mem _ (List.mem_append_right _ h)) hown hK hP 67 rfl rfl 2 (by decide) (hts (.fieldLink RX6 94 "LeastNeed$Reader" "length" "I") (List.mem_of_getElem? (i := 2) rfl)) (fun _ h9 => h9) rfl dX6_clear_4 ?_
  refine lv_istore_n (lv' := [(1, .int (S 67 2)), (0, .ref (a 0))]) hx hb dX6_clear_7 rfl hl (by decide) rfl (fun ls hl => ?_)
  refine lv_aload_n hx hb dX6_clear_8 rfl (lv_at hl 1 rfl) ?_
  refine va_get (D := D) (ci := 4) (v := .ref (a 67)) (C := RX6) (T := TX6) (N := 12) hx hb hts (fun w h => List.mem_cons_of_mem _ (List.mem_append_left _ (List.mem_append_right _ h))) hown hK hP 0 rfl rfl 4 (by decide) (hts (.fieldLink RX6 30 "LeastNeed" "reader" "LLeastNeed$Reader;") (List.mem_of_getElem? (i := 1) rfl)) (fun _ h9 => h9) rfl dX6_clear_9 ?_
  refine lv_iconst (v := (0 : Int32)) hx hb dX6_clear_12 (by decide) ?_
  refine va_put (D := D) (ci := 1) (v := .int (0 : Int32)) (ty := .int) (C := RX2) (T := TX2) (N := 6) hx hb hts (fun w h => List.mem_cons_of_mem _ (List.mem_append_right _ h)) tyX2 tyX2_ok nmX2 hown hK hP hD hS 67 rfl rfl 2 (by decide) (hts (.fieldLink RX6 94 "LeastNeed$Reader" "length" "I") (List.mem_of_getElem? (i := 2) rfl)) (fun _ h9 => h9) rfl (by decide +kernel) rfl rfl (Nat.le_of_ble_eq_true rfl) dX6_clear_13 (fun H locs hP hD hS => ?_)
  have hP : va_P D vwCl (wX6 cs a (k_w S 67 2 (0 : Int32)) L) _ := k_eq hP (wsX6_f67_2 cs a S L (0 : Int32))
  have hD := hDA (k_w S 67 2 (0 : Int32)) L
  refine lv_iload_n hx hb dX6_clear_16 rfl (lv_at hl 0 rfl) ?_
  obtain ⟨e1, e2⟩ := dn_s2 hd
  exact k_iret hx hb hr hQ hAe e1 (by rw [e2]) hP hS hlocks dX6_clear_17
-- LeastNeed.isThing(I)Z
set_option maxHeartbeats 4000000 in
set_option maxRecDepth 100000 in
theorem mX6_isThing (l : Launch) (D : va_G) (cs : Nat → ClassId) (a : Nat → Nat) (S : Nat → Nat → Int32) (L : Nat → Nat → Int64) (p1 : Int32) (r9 : Int32) (hd : nX6_isThing S L p1 = some r9) : ∀ sz : Nat, Met l yX6_isThing wsX6_isThing ({ frames := 1, cells := 0, slots := 0, locals := 21 }) (k_Pc D cs [.ref (a 0), .int p1] (wX6 cs a S L) sz) (k_Qi D r9 (wX6 cs a S L) (wX6 cs a S L) sz) 0 0 (va_A (wX6 cs a S L) sz) := by
  intro sz
  refine Met.ofW (cc := cX6_isThing) (maxL := 2) (ret := (some .boolean)) (by decide) rfl ?_
  intro p e s m args below meth c s₁ B hml hv
  obtain ⟨rfl, hsz, hP, hK, hD0, hNn⟩ := hv
  have hx := B.exec
  have hb := B.bytes
  have hr := B.returns
  have hts := atoms_spec (ws := wsX6_isThing) B.pre
  have hown : s.vm.findClass RX6 = some m.cls := findClass_of_methodNamed B.named
  have hlocks := B.notSynchronized
  subst hsz
  obtain ⟨A, hAe⟩ : ∃ A : Nat → Prop, A = va_A (wX6 cs a S L) s.heap.size := ⟨_, rfl⟩
  have hD : va_D A (wX6 cs a S L) := by rw [hAe]; exact hD0.self
  have hA : ∀ q : Nat, s.heap.size ≤ q → A q := fun q h => by rw [hAe]; exact Or.inr h
  have hS : va_S A s.heap s.heap [] := va_S.rf
  have hDA : ∀ (S : Nat → Nat → Int32) (L : Nat → Nat → Int64), va_D A (wX6 cs a S L) := fun S L => k_DA hD rfl
  have hl := lv_entry ([.ref (a 0), .int p1]) (n := 2) (Nat.le_of_ble_eq_true rfl)
  rw [lg_entry_eq]
  generalize (lg_sl ([.ref (a 0), .int p1]) ++ List.replicate (2 - (lg_sl ([.ref (a 0), .int p1])).length) Slot.unset).toArray = ls at hl ⊢
  have hl : lv_has ls 2 [(0, .ref (a 0)), (1, .int p1)] := hl
  obtain ⟨Q, hQ⟩ : ∃ Q, Q = MQ below (k_Qi D r9 (wX6 cs a S L) (wX6 cs a S L) s.heap.size) ([.ref (a 0), .int p1] : List Value).toArray s 0 0 (va_A (wX6 cs a S L) s.heap.size) := ⟨_, rfl⟩
  rw [← hQ]
  unfold nX6_isThing at hd
  refine lv_iload_n hx hb dX6_isThing_0 rfl (lv_at hl 1 rfl) ?_
  refine lv_aload_n hx hb dX6_isThing_1 rfl (lv_at hl 0 rfl) ?_
  refine va_get (D := D) (ci := 4) (v := .ref (a 1)) (C := RX6) (T := TX6) (N := 12) hx hb hts (fun w h => List.mem_cons_of_mem _ (List.mem_append_left _ (List.mem_append_right _ h))) hown hK hP 0 rfl rfl 0 (by decide) (hts (.fieldLink RX6 12 "LeastNeed" "now" "LLeastNeed$Valley;") (List.mem_of_getElem? (i := 1) rfl)) (fun _ h9 => h9) rfl dX6_isThing_2 ?_
  refine va_get (D := D) (ci := 3) (v := .int (S 1 13)) (C := RX5) (T := TX5) (N := 15) hx hb hts (fun w h => List.mem_cons_of_mem _ (List.mem_append_right _ h)) hown hK hP 1 rfl rfl 13 (by decide) (hts (.fieldLink RX6 87 "LeastNeed$Valley" "things" "I") (List.mem_of_getElem? (i := 2) rfl)) (fun _ h9 => h9) rfl dX6_isThing_5 ?_
  obtain ⟨r8, hq8, hd⟩ := dn_b1 hd
  have hPc := k_P0 hP
  have hDc : va_D A ([] : va_W) := k_D0
  have hF := k_self hDc hS hA
  refine k_run_i (va_runS (As := [.int p1, .int (S 1 13)]) (rest := []) ⟨hx, hb, hml, hown, hts⟩ (mX6_upTo l D cs  p1 (S 1 13) r8 hq8 _) (va_cwS 2 hts gX6_isThing_X6_upTo rfl rfl rfl (by decide +kernel) ⟨Nat.le_of_ble_eq_true rfl, Nat.le_of_ble_eq_true rfl⟩) ⟨k_blind, k_pre hPc hK hNn hDc⟩ rfl rfl hl.1 rfl (lv_room (Nat.le_of_ble_eq_true rfl)) dX6_isThing_8 ⟨Nat.le_of_ble_eq_true rfl, Nat.le_of_ble_eq_true rfl⟩) hS hF (fun H locs hP1 hk hS => ?_)
  have hP : va_P D vwCl (wX6 cs a S L) _ := k_keep hP hk
  obtain ⟨hz, hd⟩ := dn_n hd
  have e1 := dn_s1 hd
  exact k_zret hx hb hr (dn_z hz) hQ hAe e1 rfl hP hS hlocks dX6_isThing_11
-- LeastNeed.refusedAsNo()I
set_option maxHeartbeats 4000000 in
set_option maxRecDepth 100000 in
theorem mX6_refusedAsNo (l : Launch) (D : va_G) (cs : Nat → ClassId) (a : Nat → Nat) (S : Nat → Nat → Int32) (L : Nat → Nat → Int64) (r9 : Int32) (S9 : (Nat → Nat → Int32)) (hd : nX6_refusedAsNo S L = some (r9, S9)) : ∀ sz : Nat, Met l yX6_refusedAsNo wsX6_refusedAsNo ({ frames := 0, cells := 0, slots := 0, locals := 0 }) (k_Pc D cs [.ref (a 0)] (wX6 cs a S L) sz) (k_Qi D r9 (wX6 cs a S L) (wX6 cs a S9 L) sz) 0 0 (va_A (wX6 cs a S L) sz) := by
  intro sz
  refine Met.ofW (cc := cX6_refusedAsNo) (maxL := 1) (ret := (some .int)) (by decide) rfl ?_
  intro p e s m args below meth c s₁ B hml hv
  obtain ⟨rfl, hsz, hP, hK, hD0, hNn⟩ := hv
  have hx := B.exec
  have hb := B.bytes
  have hr := B.returns
  have hts := atoms_spec (ws := wsX6_refusedAsNo) B.pre
  have hown : s.vm.findClass RX6 = some m.cls := findClass_of_methodNamed B.named
  have hlocks := B.notSynchronized
  subst hsz
  obtain ⟨A, hAe⟩ : ∃ A : Nat → Prop, A = va_A (wX6 cs a S L) s.heap.size := ⟨_, rfl⟩
  have hD : va_D A (wX6 cs a S L) := by rw [hAe]; exact hD0.self
  have hA : ∀ q : Nat, s.heap.size ≤ q → A q := fun q h => by rw [hAe]; exact Or.inr h
  have hS : va_S A s.heap s.heap [] := va_S.rf
  have hDA : ∀ (S : Nat → Nat → Int32) (L : Nat → Nat → Int64), va_D A (wX6 cs a S L) := fun S L => k_DA hD rfl
  have hl := lv_entry ([.ref (a 0)]) (n := 1) (Nat.le_of_ble_eq_true rfl)
  rw [lg_entry_eq]
  generalize (lg_sl ([.ref (a 0)]) ++ List.replicate (1 - (lg_sl ([.ref (a 0)])).length) Slot.unset).toArray = ls at hl ⊢
  have hl : lv_has ls 1 [(0, .ref (a 0))] := hl
  obtain ⟨Q, hQ⟩ : ∃ Q, Q = MQ below (k_Qi D r9 (wX6 cs a S L) (wX6 cs a S9 L) s.heap.size) ([.ref (a 0)] : List Value).toArray s 0 0 (va_A (wX6 cs a S L) s.heap.size) := ⟨_, rfl⟩
  rw [← hQ]
  unfold nX6_refusedAsNo at hd
  refine lv_aload_n hx hb dX6_refusedAsNo_0 rfl (lv_at hl 0 rfl) ?_
  refine va_get (D := D) (ci := 4) (v := .ref (a 75)) (C := RX6) (T := TX6) (N := 12) hx hb hts (fun w h => List.mem_cons_of_mem _ (List.mem_append_right _ h)) hown hK hP 0 rfl rfl 6 (by decide) (hts (.fieldLink RX6 41 "LeastNeed" "refused" "[I") (List.mem_of_getElem? (i := 1) rfl)) (fun _ h9 => h9) rfl dX6_refusedAsNo_1 ?_
  refine lv_iconst (v := (1 : Int32)) hx hb dX6_refusedAsNo_4 (by decide) ?_
  refine lv_dup2_11 hx hb dX6_refusedAsNo_5 rfl rfl ?_
  refine k_iald (D := D) (k := 1) (by rfl) hx hb hK hP 75 1 rfl rfl (k_in (by decide)) dX6_refusedAsNo_6 ?_
  refine lv_iconst (v := (1 : Int32)) hx hb dX6_refusedAsNo_7 (by decide) ?_
  refine lv_iadd hx hb dX6_refusedAsNo_8 ?_
  refine k_iast (D := D) (k := 1) (by rfl) hx hb hK hP hD hS 75 1 rfl rfl (k_in (by decide)) dX6_refusedAsNo_9 (fun H locs hP hD hS => ?_)
  have hP : va_P D vwCl (wX6 cs a (k_w S 75 1 ((S 75 1) + (1 : Int32))) L) _ := k_eq hP (wsX6_a75 cs a S L 1 ((S 75 1) + (1 : Int32)))
  have hD := hDA (k_w S 75 1 ((S 75 1) + (1 : Int32))) L
  refine lv_bipush (v := (-3 : Int32)) hx hb dX6_refusedAsNo_10 (by decide) ?_
  obtain ⟨e1, e2⟩ := dn_s2 hd
  exact k_iret hx hb hr hQ hAe e1 (by rw [e2]) hP hS hlocks dX6_refusedAsNo_12
-- LeastNeed.lose(I)I
set_option maxHeartbeats 4000000 in
set_option maxRecDepth 100000 in
theorem mX6_lose (l : Launch) (D : va_G) (cs : Nat → ClassId) (a : Nat → Nat) (S : Nat → Nat → Int32) (L : Nat → Nat → Int64) (p1 : Int32) (r9 : Int32) (S9 : (Nat → Nat → Int32)) (hd : nX6_lose S L p1 = some (r9, S9)) : ∀ sz : Nat, Met l yX6_lose wsX6_lose ({ frames := 3, cells := 0, slots := 0, locals := 81 }) (k_Pc D cs [.ref (a 0), .int p1] (wX6 cs a S L) sz) (k_Qi D r9 (wX6 cs a S L) (wX6 cs a S9 L) sz) 0 0 (va_A (wX6 cs a S L) sz) := by
  intro sz
  refine Met.ofW (cc := cX6_lose) (maxL := 2) (ret := (some .int)) (by decide) rfl ?_
  intro p e s m args below meth c s₁ B hml hv
  obtain ⟨rfl, hsz, hP, hK, hD0, hNn⟩ := hv
  have hx := B.exec
  have hb := B.bytes
  have hr := B.returns
  have hts := atoms_spec (ws := wsX6_lose) B.pre
  have hown : s.vm.findClass RX6 = some m.cls := findClass_of_methodNamed B.named
  have hlocks := B.notSynchronized
  subst hsz
  obtain ⟨A, hAe⟩ : ∃ A : Nat → Prop, A = va_A (wX6 cs a S L) s.heap.size := ⟨_, rfl⟩
  have hD : va_D A (wX6 cs a S L) := by rw [hAe]; exact hD0.self
  have hA : ∀ q : Nat, s.heap.size ≤ q → A q := fun q h => by rw [hAe]; exact Or.inr h
  have hS : va_S A s.heap s.heap [] := va_S.rf
  have hDA : ∀ (S : Nat → Nat → Int32) (L : Nat → Nat → Int64), va_D A (wX6 cs a S L) := fun S L => k_DA hD rfl
  have hl := lv_entry ([.ref (a 0), .int p1]) (n := 2) (Nat.le_of_ble_eq_true rfl)
  rw [lg_entry_eq]
  generalize (lg_sl ([.ref (a 0), .int p1]) ++ List.replicate (2 - (lg_sl ([.ref (a 0), .int p1])).length) Slot.unset).toArray = ls at hl ⊢
  have hl : lv_has ls 2 [(0, .ref (a 0)), (1, .int p1)] := hl
  obtain ⟨Q, hQ⟩ : ∃ Q, Q = MQ below (k_Qi D r9 (wX6 cs a S L) (wX6 cs a S9 L) s.heap.size) ([.ref (a 0), .int p1] : List Value).toArray s 0 0 (va_A (wX6 cs a S L) s.heap.size) := ⟨_, rfl⟩
  rw [← hQ]
  unfold nX6_lose at hd
  refine lv_aload_n hx hb dX6_lose_0 rfl (lv_at hl 0 rfl) ?_
  refine lv_iload_n hx hb dX6_lose_1 rfl (lv_at hl 1 rfl) ?_
  obtain ⟨r2, hq2, hd⟩ := dn_b1 hd
  have hF := k_self hD hS hA
  refine k_run_i (va_runV (As := [.int p1]) (rest := []) ⟨hx, hb, hml, hown, hts⟩ (mX6_isThing l D cs a S L p1 r2 hq2 _) (cwV 1 hts gX6_lose_X6_isThing rfl rfl rfl (by decide +kernel) ⟨Nat.le_of_ble_eq_true rfl, Nat.le_of_ble_eq_true rfl⟩) ⟨k_blind, va_recv hK hP (ci := 4) (q0 := 0) rfl rfl, k_pre hP hK hNn hD⟩ rfl rfl hl.1 rfl (lv_room (Nat.le_of_ble_eq_true rfl)) dX6_lose_2 ⟨Nat.le_of_ble_eq_true rfl, Nat.le_of_ble_eq_true rfl⟩) hS hF (fun H locs hP1 hk hS => ?_)
  have hP : va_P D vwCl (wX6 cs a S L) _ := hP1
  have hD := hDA S L
  refine lv_if_ne (tgt := 13) hx hb dX6_lose_5 (by decide) (fun c5 => ?_) (fun c5 => ?_)
  · have hd := dn_f c5 hd
    refine lv_aload_n hx hb dX6_lose_13 rfl (lv_at hl 0 rfl) ?_
    refine va_get (D := D) (ci := 4) (v := .ref (a 1)) (C := RX6) (T := TX6) (N := 12) hx hb hts (fun w h => List.mem_cons_of_mem _ (List.mem_append_left _ (List.mem_append_left _ (List.mem_append_right _ h)))) hown hK hP 0 rfl rfl 0 (by decide) (hts (.fieldLink RX6 12 "LeastNeed" "now" "LLeastNeed$Valley;") (List.mem_of_getElem? (i := 1) rfl)) (fun _ h9 => h9) rfl dX6_lose_14 ?_
    refine va_get (D := D) (ci := 3) (v := .ref (a 10)) (C := RX5) (T := TX5) (N := 15) hx hb hts (fun w h => List.mem_cons_of_mem _ (List.mem_append_left _ (List.mem_append_right _ h))) hown hK hP 1 rfl rfl 8 (by decide) (hts (.fieldLink RX6 112 "LeastNeed$Valley" "place" "[I") (List.mem_of_getElem? (i := 2) rfl)) (fun _ h9 => h9) rfl dX6_lose_17 ?_
    refine lv_iload_n hx hb dX6_lose_20 rfl (lv_at hl 1 rfl) ?_
    obtain ⟨hi21, hd⟩ := dn_i hd
    refine k_iald (D := D) (k := p1.toNatClampNeg) (by rfl) hx hb hK hP 10 1 rfl rfl hi21 dX6_lose_21 ?_
    refine lv_if_eq (tgt := 30) hx hb dX6_lose_22 (by decide) (fun c22 => ?_) (fun c22 => ?_)
    · have hd := dn_t c22 hd
      refine lv_aload_n hx hb dX6_lose_30 rfl (lv_at hl 0 rfl) ?_
      refine va_get (D := D) (ci := 4) (v := .ref (a 1)) (C := RX6) (T := TX6) (N := 12) hx hb hts (fun w h => List.mem_cons_of_mem _ (List.mem_append_left _ (List.mem_append_left _ (List.mem_append_right _ h)))) hown hK hP 0 rfl rfl 0 (by decide) (hts (.fieldLink RX6 12 "LeastNeed" "now" "LLeastNeed$Valley;") (List.mem_of_getElem? (i := 1) rfl)) (fun _ h9 => h9) rfl dX6_lose_31 ?_
      obtain ⟨S34, hq34, hd⟩ := dn_b1 hd
      have hPc : va_P D vwCl (wX5 cs (k_wi a 1) (k_wi S 1)) _ := k_sub hP [1, 2, 3, 4, 5, 6, 7, 8, 9, 10, 11, 12, 13, 14, 15, 16] (wcX6_X5_1 cs a S L)
      have hDc : va_D A (wX5 cs (k_wi a 1) (k_wi S 1)) := hD.sub [1, 2, 3, 4, 5, 6, 7, 8, 9, 10, 11, 12, 13, 14, 15, 16] (by decide +kernel) (wcX6_X5_1 cs a S L)
      have hF := k_self hDc hS hA
      refine k_run_v (va_runV (As := []) (rest := []) ⟨hx, hb, hml, hown, hts⟩ (mX5_keepPast l D cs (k_wi a 1) (k_wi S 1) S34 hq34 _) (cwV 0 hts gX6_lose_X5_keepPast rfl rfl rfl (by decide +kernel) ⟨Nat.le_of_ble_eq_true rfl, Nat.le_of_ble_eq_true rfl⟩) ⟨k_blind, va_recv hK hP (ci := 3) (q0 := 1) rfl rfl, k_pre hPc hK hNn hDc⟩ rfl rfl hl.1 rfl (lv_room (Nat.le_of_ble_eq_true rfl)) dX6_lose_34 ⟨Nat.le_of_ble_eq_true rfl, Nat.le_of_ble_eq_true rfl⟩) hS hF (fun H locs hP1 hk hS => ?_)
      have hP : va_P D vwCl (wX6 cs a (k_sp S 1 16 S34) L) _ := k_back hP hD [1, 2, 3, 4, 5, 6, 7, 8, 9, 10, 11, 12, 13, 14, 15, 16] [0, 17, 18, 19, 20, 21, 22, 23, 24, 25, 26, 27, 28, 29, 30, 31, 32, 33, 34, 35, 36, 37, 38, 39, 40, 41, 42, 43, 44, 45, 46, 47, 48, 49, 50, 51, 52, 53, 54, 55, 56, 57, 58, 59, 60, 61, 62, 63, 64, 65, 66, 67, 68, 69, 70, 71, 72, 73, 74, 75, 76, 77, 78] [0, 63, 64, 65, 66, 67, 68, 69, 70, 71, 72, 73, 74, 75, 76, 77, 78, 1, 2, 3, 4, 5, 6, 7, 8, 9, 10, 11, 12, 13, 14, 15, 16, 17, 18, 19, 20, 21, 22, 23, 24, 25, 26, 27, 28, 29, 30, 31, 32, 33, 34, 35, 36, 37, 38, 39, 40, 41, 42, 43, 44, 45, 46, 47, 48, 49, 50, 51, 52, 53, 54, 55, 56, 57, 58, 59, 60, 61, 62] (wcX6_X5_1 cs a S L) (by decide +kernel) hk hP1 (wbX6_X5_1_S0 cs a S L S34)
      have hD := hDA (k_sp S 1 16 S34) L
      refine lv_aload_n hx hb dX6_lose_37 rfl (lv_at hl 0 rfl) ?_
      refine va_get (D := D) (ci := 4) (v := .ref (a 1)) (C := RX6) (T := TX6) (N := 12) hx hb hts (fun w h => List.mem_cons_of_mem _ (List.mem_append_left _ (List.mem_append_left _ (List.mem_append_right _ h)))) hown hK hP 0 rfl rfl 0 (by decide) (hts (.fieldLink RX6 12 "LeastNeed" "now" "LLeastNeed$Valley;") (List.mem_of_getElem? (i := 1) rfl)) (fun _ h9 => h9) rfl dX6_lose_38 ?_
      refine va_get (D := D) (ci := 3) (v := .ref (a 10)) (C := RX5) (T := TX5) (N := 15) hx hb hts (fun w h => List.mem_cons_of_mem _ (List.mem_append_left _ (List.mem_append_right _ h))) hown hK hP 1 rfl rfl 8 (by decide) (hts (.fieldLink RX6 112 "LeastNeed$Valley" "place" "[I") (List.mem_of_getElem? (i := 2) rfl)) (fun _ h9 => h9) rfl dX6_lose_41 ?_
      refine lv_iload_n hx hb dX6_lose_44 rfl (lv_at hl 1 rfl) ?_
      refine lv_iconst (v := (1 : Int32)) hx hb dX6_lose_45 (by decide) ?_
      obtain ⟨hi46, hd⟩ := dn_i hd
      refine k_iast (D := D) (k := p1.toNatClampNeg) (by rfl) hx hb hK hP hD hS 10 1 rfl rfl hi46 dX6_lose_46 (fun H locs hP hD hS => ?_)
      have hP : va_P D vwCl (wX6 cs a (k_w (k_sp S 1 16 S34) 10 p1.toNatClampNeg (1 : Int32)) L) _ := k_eq hP (wsX6_a10 cs a (k_sp S 1 16 S34) L p1.toNatClampNeg (1 : Int32))
      have hD := hDA (k_w (k_sp S 1 16 S34) 10 p1.toNatClampNeg (1 : Int32)) L
      refine lv_aload_n hx hb dX6_lose_47 rfl (lv_at hl 0 rfl) ?_
      refine va_get (D := D) (ci := 4) (v := .ref (a 1)) (C := RX6) (T := TX6) (N := 12) hx hb hts (fun w h => List.mem_cons_of_mem _ (List.mem_append_left _ (List.mem_append_left _ (List.mem_append_right _ h)))) hown hK hP 0 rfl rfl 0 (by decide) (hts (.fieldLink RX6 12 "LeastNeed" "now" "LLeastNeed$Valley;") (List.mem_of_getElem? (i := 1) rfl)) (fun _ h9 => h9) rfl dX6_lose_48 ?_
      refine va_get (D := D) (ci := 3) (v := .ref (a 9)) (C := RX5) (T := TX5) (N := 15) hx hb hts (fun w h => List.mem_cons_of_mem _ (List.mem_append_left _ (List.mem_append_right _ h))) hown hK hP 1 rfl rfl 7 (by decide) (hts (.fieldLink RX6 121 "LeastNeed$Valley" "holder" "[I") (List.mem_of_getElem? (i := 3) rfl)) (fun _ h9 => h9) rfl dX6_lose_51 ?_
      refine lv_iload_n hx hb dX6_lose_54 rfl (lv_at hl 1 rfl) ?_
      obtain ⟨hi55, hd⟩ := dn_i hd
      refine k_iald (D := D) (k := p1.toNatClampNeg) (by rfl) hx hb hK hP 9 1 rfl rfl hi55 dX6_lose_55 ?_
      obtain ⟨e1, e2⟩ := dn_s2 hd
      exact k_iret hx hb hr hQ hAe e1 (by rw [e2]) hP hS hlocks dX6_lose_56
    · have hd := dn_f c22 hd
      refine lv_aload_n hx hb dX6_lose_25 rfl (lv_at hl 0 rfl) ?_
      obtain ⟨r26, S26, hq26, hd⟩ := dn_b2 hd
      have hF := k_self hD hS hA
      refine k_run_i (va_runV (As := []) (rest := []) ⟨hx, hb, hml, hown, hts⟩ (mX6_refusedAsNo l D cs a S L r26 S26 hq26 _) (cwV 0 hts gX6_lose_X6_refusedAsNo rfl rfl rfl (by decide +kernel) ⟨Nat.le_of_ble_eq_true rfl, Nat.le_of_ble_eq_true rfl⟩) ⟨k_blind, va_recv hK hP (ci := 4) (q0 := 0) rfl rfl, k_pre hP hK hNn hD⟩ rfl rfl hl.1 rfl (lv_room (Nat.le_of_ble_eq_true rfl)) dX6_lose_26 ⟨Nat.le_of_ble_eq_true rfl, Nat.le_of_ble_eq_true rfl⟩) hS hF (fun H locs hP1 hk hS => ?_)
      have hP : va_P D vwCl (wX6 cs a S26 L) _ := hP1
      have hD := hDA S26 L
      obtain ⟨e1, e2⟩ := dn_s2 hd
      exact k_iret hx hb hr hQ hAe e1 (by rw [e2]) hP hS hlocks dX6_lose_29
  · have hd := dn_t c5 hd
    refine lv_aload_n hx hb dX6_lose_8 rfl (lv_at hl 0 rfl) ?_
    obtain ⟨r9, S9, hq9, hd⟩ := dn_b2 hd
    have hF := k_self hD hS hA
    refine k_run_i (va_runV (As := []) (rest := []) ⟨hx, hb, hml, hown, hts⟩ (mX6_refusedAsBad l D cs a S L r9 S9 hq9 _) (cwV 0 hts gX6_lose_X6_refusedAsBad rfl rfl rfl (by decide +kernel) ⟨Nat.le_of_ble_eq_true rfl, Nat.le_of_ble_eq_true rfl⟩) ⟨k_blind, va_recv hK hP (ci := 4) (q0 := 0) rfl rfl, k_pre hP hK hNn hD⟩ rfl rfl hl.1 rfl (lv_room (Nat.le_of_ble_eq_true rfl)) dX6_lose_9 ⟨Nat.le_of_ble_eq_true rfl, Nat.le_of_ble_eq_true rfl⟩) hS hF (fun H locs hP1 hk hS => ?_)
    have hP : va_P D vwCl (wX6 cs a S9 L) _ := hP1
    have hD := hDA S9 L
    obtain ⟨e1, e2⟩ := dn_s2 hd
    exact k_iret hx hb hr hQ hAe e1 (by rw [e2]) hP hS hlocks dX6_lose_12
-- LeastNeed.back(I)I
set_option maxHeartbeats 4000000 in
set_option maxRecDepth 100000 in
theorem mX6_back (l : Launch) (D : va_G) (cs : Nat → ClassId) (a : Nat → Nat) (S : Nat → Nat → Int32) (L : Nat → Nat → Int64) (p1 : Int32) (r9 : Int32) (S9 : (Nat → Nat → Int32)) (hd : nX6_back S L p1 = some (r9, S9)) : ∀ sz : Nat, Met l yX6_back wsX6_back ({ frames := 3, cells := 0, slots := 0, locals := 81 }) (k_Pc D cs [.ref (a 0), .int p1] (wX6 cs a S L) sz) (k_Qi D r9 (wX6 cs a S L) (wX6 cs a S9 L) sz) 0 0 (va_A (wX6 cs a S L) sz) := by
  intro sz
  refine Met.ofW (cc := cX6_back) (maxL := 3) (ret := (some .int)) (by decide) rfl ?_
  intro p e s m args below meth c s₁ B hml hv
  obtain ⟨rfl, hsz, hP, hK, hD0, hNn⟩ := hv
  have hx := B.exec
  have hb := B.bytes
  have hr := B.returns
  have hts := atoms_spec (ws := wsX6_back) B.pre
  have hown : s.vm.findClass RX6 = some m.cls := findClass_of_methodNamed B.named
  have hlocks := B.notSynchronized
  subst hsz
  obtain ⟨A, hAe⟩ : ∃ A : Nat → Prop, A = va_A (wX6 cs a S L) s.heap.size := ⟨_, rfl⟩
  have hD : va_D A (wX6 cs a S L) := by rw [hAe]; exact hD0.self
  have hA : ∀ q : Nat, s.heap.size ≤ q → A q := fun q h => by rw [hAe]; exact Or.inr h
  have hS : va_S A s.heap s.heap [] := va_S.rf
  have hDA : ∀ (S : Nat → Nat → Int32) (L : Nat → Nat → Int64), va_D A (wX6 cs a S L) := fun S L => k_DA hD rfl
  have hl := lv_entry ([.ref (a 0), .int p1]) (n := 3) (Nat.le_of_ble_eq_true rfl)
  rw [lg_entry_eq]
  generalize (lg_sl ([.ref (a 0), .int p1]) ++ List.replicate (3 - (lg_sl ([.ref (a 0), .int p1])).length) Slot.unset).toArray = ls at hl ⊢
  have hl : lv_has ls 3 [(0, .ref (a 0)), (1, .int p1)] := hl
  obtain ⟨Q, hQ⟩ : ∃ Q, Q = MQ below (k_Qi D r9 (wX6 cs a S L) (wX6 cs a S9 L) s.heap.size) ([.ref (a 0), .int p1] : List Value).toArray s 0 0 (va_A (wX6 cs a S L) s.heap.size) := ⟨_, rfl⟩
  rw [← hQ]
  unfold nX6_back at hd
  refine lv_aload_n hx hb dX6_back_0 rfl (lv_at hl 0 rfl) ?_
  refine lv_iload_n hx hb dX6_back_1 rfl (lv_at hl 1 rfl) ?_
  obtain ⟨r2, hq2, hd⟩ := dn_b1 hd
  have hF := k_self hD hS hA
  refine k_run_i (va_runV (As := [.int p1]) (rest := []) ⟨hx, hb, hml, hown, hts⟩ (mX6_isThing l D cs a S L p1 r2 hq2 _) (cwV 1 hts gX6_back_X6_isThing rfl rfl rfl (by decide +kernel) ⟨Nat.le_of_ble_eq_true rfl, Nat.le_of_ble_eq_true rfl⟩) ⟨k_blind, va_recv hK hP (ci := 4) (q0 := 0) rfl rfl, k_pre hP hK hNn hD⟩ rfl rfl hl.1 rfl (lv_room (Nat.le_of_ble_eq_true rfl)) dX6_back_2 ⟨Nat.le_of_ble_eq_true rfl, Nat.le_of_ble_eq_true rfl⟩) hS hF (fun H locs hP1 hk hS => ?_)
  have hP : va_P D vwCl (wX6 cs a S L) _ := hP1
  have hD := hDA S L
  refine lv_if_ne (tgt := 13) hx hb dX6_back_5 (by decide) (fun c5 => ?_) (fun c5 => ?_)
  · have hd := dn_f c5 hd
    refine lv_aload_n hx hb dX6_back_13 rfl (lv_at hl 0 rfl) ?_
    refine va_get (D := D) (ci := 4) (v := .ref (a 1)) (C := RX6) (T := TX6) (N := 12) hx hb hts (fun w h => List.mem_cons_of_mem _ (List.mem_append_left _ (List.mem_append_left _ (List.mem_append_right _ h)))) hown hK hP 0 rfl rfl 0 (by decide) (hts (.fieldLink RX6 12 "LeastNeed" "now" "LLeastNeed$Valley;") (List.mem_of_getElem? (i := 1) rfl)) (fun _ h9 => h9) rfl dX6_back_14 ?_
    refine lv_iload_n hx hb dX6_back_17 rfl (lv_at hl 1 rfl) ?_
    obtain ⟨r18, hq18, hd⟩ := dn_b1 hd
    have hPc : va_P D vwCl (wX5 cs (k_wi a 1) (k_wi S 1)) _ := k_sub hP [1, 2, 3, 4, 5, 6, 7, 8, 9, 10, 11, 12, 13, 14, 15, 16] (wcX6_X5_1 cs a S L)
    have hDc : va_D A (wX5 cs (k_wi a 1) (k_wi S 1)) := hD.sub [1, 2, 3, 4, 5, 6, 7, 8, 9, 10, 11, 12, 13, 14, 15, 16] (by decide +kernel) (wcX6_X5_1 cs a S L)
    have hF := k_self hDc hS hA
    refine k_run_i (va_runV (As := [.int p1]) (rest := []) ⟨hx, hb, hml, hown, hts⟩ (mX5_isAway l D cs (k_wi a 1) (k_wi S 1) p1 r18 hq18 _) (cwV 1 hts gX6_back_X5_isAway rfl rfl rfl (by decide +kernel) ⟨Nat.le_of_ble_eq_true rfl, Nat.le_of_ble_eq_true rfl⟩) ⟨k_blind, va_recv hK hP (ci := 3) (q0 := 1) rfl rfl, k_pre hPc hK hNn hDc⟩ rfl rfl hl.1 rfl (lv_room (Nat.le_of_ble_eq_true rfl)) dX6_back_18 ⟨Nat.le_of_ble_eq_true rfl, Nat.le_of_ble_eq_true rfl⟩) hS hF (fun H locs hP1 hk hS => ?_)
    have hP : va_P D vwCl (wX6 cs a S L) _ := k_back hP hD [1, 2, 3, 4, 5, 6, 7, 8, 9, 10, 11, 12, 13, 14, 15, 16] [0, 17, 18, 19, 20, 21, 22, 23, 24, 25, 26, 27, 28, 29, 30, 31, 32, 33, 34, 35, 36, 37, 38, 39, 40, 41, 42, 43, 44, 45, 46, 47, 48, 49, 50, 51, 52, 53, 54, 55, 56, 57, 58, 59, 60, 61, 62, 63, 64, 65, 66, 67, 68, 69, 70, 71, 72, 73, 74, 75, 76, 77, 78] [0, 63, 64, 65, 66, 67, 68, 69, 70, 71, 72, 73, 74, 75, 76, 77, 78, 1, 2, 3, 4, 5, 6, 7, 8, 9, 10, 11, 12, 13, 14, 15, 16, 17, 18, 19, 20, 21, 22, 23, 24, 25, 26, 27, 28, 29, 30, 31, 32, 33, 34, 35, 36, 37, 38, 39, 40, 41, 42, 43, 44, 45, 46, 47, 48, 49, 50, 51, 52, 53, 54, 55, 56, 57, 58, 59, 60, 61, 62] (wcX6_X5_1 cs a S L) (by decide +kernel) hk hP1 (wbX6_X5_1 cs a S L)
    have hD := hDA S L
    refine lv_if_ne (tgt := 29) hx hb dX6_back_21 (by decide) (fun c21 => ?_) (fun c21 => ?_)
    · have hd := dn_f c21 hd
      refine lv_aload_n hx hb dX6_back_29 rfl (lv_at hl 0 rfl) ?_
      refine va_get (D := D) (ci := 4) (v := .ref (a 1)) (C := RX6) (T := TX6) (N := 12) hx hb hts (fun w h => List.mem_cons_of_mem _ (List.mem_append_left _ (List.mem_append_left _ (List.mem_append_right _ h)))) hown hK hP 0 rfl rfl 0 (by decide) (hts (.fieldLink RX6 12 "LeastNeed" "now" "LLeastNeed$Valley;") (List.mem_of_getElem? (i := 1) rfl)) (fun _ h9 => h9) rfl dX6_back_30 ?_
      refine lv_iload_n hx hb dX6_back_33 rfl (lv_at hl 1 rfl) ?_
      obtain ⟨r34, hq34, hd⟩ := dn_b1 hd
      have hPc : va_P D vwCl (wX5 cs (k_wi a 1) (k_wi S 1)) _ := k_sub hP [1, 2, 3, 4, 5, 6, 7, 8, 9, 10, 11, 12, 13, 14, 15, 16] (wcX6_X5_1 cs a S L)
      have hDc : va_D A (wX5 cs (k_wi a 1) (k_wi S 1)) := hD.sub [1, 2, 3, 4, 5, 6, 7, 8, 9, 10, 11, 12, 13, 14, 15, 16] (by decide +kernel) (wcX6_X5_1 cs a S L)
      have hF := k_self hDc hS hA
      refine k_run_i (va_runV (As := [.int p1]) (rest := []) ⟨hx, hb, hml, hown, hts⟩ (mX5_askedFor l D cs (k_wi a 1) (k_wi S 1) p1 r34 hq34 _) (cwV 1 hts gX6_back_X5_askedFor rfl rfl rfl (by decide +kernel) ⟨Nat.le_of_ble_eq_true rfl, Nat.le_of_ble_eq_true rfl⟩) ⟨k_blind, va_recv hK hP (ci := 3) (q0 := 1) rfl rfl, k_pre hPc hK hNn hDc⟩ rfl rfl hl.1 rfl (lv_room (Nat.le_of_ble_eq_true rfl)) dX6_back_34 ⟨Nat.le_of_ble_eq_true rfl, Nat.le_of_ble_eq_true rfl⟩) hS hF (fun H locs hP1 hk hS => ?_)
      have hP : va_P D vwCl (wX6 cs a S L) _ := k_back hP hD [1, 2, 3, 4, 5, 6, 7, 8, 9, 10, 11, 12, 13, 14, 15, 16] [0, 17, 18, 19, 20, 21, 22, 23, 24, 25, 26, 27, 28, 29, 30, 31, 32, 33, 34, 35, 36, 37, 38, 39, 40, 41, 42, 43, 44, 45, 46, 47, 48, 49, 50, 51, 52, 53, 54, 55, 56, 57, 58, 59, 60, 61, 62, 63, 64, 65, 66, 67, 68, 69, 70, 71, 72, 73, 74, 75, 76, 77, 78] [0, 63, 64, 65, 66, 67, 68, 69, 70, 71, 72, 73, 74, 75, 76, 77, 78, 1, 2, 3, 4, 5, 6, 7, 8, 9, 10, 11, 12, 13, 14, 15, 16, 17, 18, 19, 20, 21, 22, 23, 24, 25, 26, 27, 28, 29, 30, 31, 32, 33, 34, 35, 36, 37, 38, 39, 40, 41, 42, 43, 44, 45, 46, 47, 48, 49, 50, 51, 52, 53, 54, 55, 56, 57, 58, 59, 60, 61, 62] (wcX6_X5_1 cs a S L) (by decide +kernel) hk hP1 (wbX6_X5_1 cs a S L)
      have hD := hDA S L
      refine lv_istore_n (lv' := [(2, .int r34), (0, .ref (a 0)), (1, .int p1)]) hx hb dX6_back_37 rfl hl (by decide) rfl (fun ls hl => ?_)
      refine lv_aload_n hx hb dX6_back_38 rfl (lv_at hl 1 rfl) ?_
      refine va_get (D := D) (ci := 4) (v := .ref (a 1)) (C := RX6) (T := TX6) (N := 12) hx hb hts (fun w h => List.mem_cons_of_mem _ (List.mem_append_left _ (List.mem_append_left _ (List.mem_append_right _ h)))) hown hK hP 0 rfl rfl 0 (by decide) (hts (.fieldLink RX6 12 "LeastNeed" "now" "LLeastNeed$Valley;") (List.mem_of_getElem? (i := 1) rfl)) (fun _ h9 => h9) rfl dX6_back_39 ?_
      obtain ⟨S42, hq42, hd⟩ := dn_b1 hd
      have hPc : va_P D vwCl (wX5 cs (k_wi a 1) (k_wi S 1)) _ := k_sub hP [1, 2, 3, 4, 5, 6, 7, 8, 9, 10, 11, 12, 13, 14, 15, 16] (wcX6_X5_1 cs a S L)
      have hDc : va_D A (wX5 cs (k_wi a 1) (k_wi S 1)) := hD.sub [1, 2, 3, 4, 5, 6, 7, 8, 9, 10, 11, 12, 13, 14, 15, 16] (by decide +kernel) (wcX6_X5_1 cs a S L)
      have hF := k_self hDc hS hA
      refine k_run_v (va_runV (As := []) (rest := []) ⟨hx, hb, hml, hown, hts⟩ (mX5_keepPast l D cs (k_wi a 1) (k_wi S 1) S42 hq42 _) (cwV 0 hts gX6_back_X5_keepPast rfl rfl rfl (by decide +kernel) ⟨Nat.le_of_ble_eq_true rfl, Nat.le_of_ble_eq_true rfl⟩) ⟨k_blind, va_recv hK hP (ci := 3) (q0 := 1) rfl rfl, k_pre hPc hK hNn hDc⟩ rfl rfl hl.1 rfl (lv_room (Nat.le_of_ble_eq_true rfl)) dX6_back_42 ⟨Nat.le_of_ble_eq_true rfl, Nat.le_of_ble_eq_true rfl⟩) hS hF (fun H locs hP1 hk hS => ?_)
      have hP : va_P D vwCl (wX6 cs a (k_sp S 1 16 S42) L) _ := k_back hP hD [1, 2, 3, 4, 5, 6, 7, 8, 9, 10, 11, 12, 13, 14, 15, 16] [0, 17, 18, 19, 20, 21, 22, 23, 24, 25, 26, 27, 28, 29, 30, 31, 32, 33, 34, 35, 36, 37, 38, 39, 40, 41, 42, 43, 44, 45, 46, 47, 48, 49, 50, 51, 52, 53, 54, 55, 56, 57, 58, 59, 60, 61, 62, 63, 64, 65, 66, 67, 68, 69, 70, 71, 72, 73, 74, 75, 76, 77, 78] [0, 63, 64, 65, 66, 67, 68, 69, 70, 71, 72, 73, 74, 75, 76, 77, 78, 1, 2, 3, 4, 5, 6, 7, 8, 9, 10, 11, 12, 13, 14, 15, 16, 17, 18, 19, 20, 21, 22, 23, 24, 25, 26, 27, 28, 29, 30, 31, 32, 33, 34, 35, 36, 37, 38, 39, 40, 41, 42, 43, 44, 45, 46, 47, 48, 49, 50, 51, 52, 53, 54, 55, 56, 57, 58, 59, 60, 61, 62] (wcX6_X5_1 cs a S L) (by decide +kernel) hk hP1 (wbX6_X5_1_S0 cs a S L S42)
      have hD := hDA (k_sp S 1 16 S42) L
      refine lv_aload_n hx hb dX6_back_45 rfl (lv_at hl 1 rfl) ?_
      refine va_get (D := D) (ci := 4) (v := .ref (a 1)) (C := RX6) (T := TX6) (N := 12) hx hb hts (fun w h => List.mem_cons_of_mem _ (List.mem_append_left _ (List.mem_append_left _ (List.mem_append_right _ h)))) hown hK hP 0 rfl rfl 0 (by decide) (hts (.fieldLink RX6 12 "LeastNeed" "now" "LLeastNeed$Valley;") (List.mem_of_getElem? (i := 1) rfl)) (fun _ h9 => h9) rfl dX6_back_46 ?_
      refine va_get (D := D) (ci := 3) (v := .ref (a 9)) (C := RX5) (T := TX5) (N := 15) hx hb hts (fun w h => List.mem_cons_of_mem _ (List.mem_append_left _ (List.mem_append_right _ h))) hown hK hP 1 rfl rfl 7 (by decide) (hts (.fieldLink RX6 121 "LeastNeed$Valley" "holder" "[I") (List.mem_of_getElem? (i := 2) rfl)) (fun _ h9 => h9) rfl dX6_back_49 ?_
      refine lv_iload_n hx hb dX6_back_52 rfl (lv_at hl 2 rfl) ?_
      refine lv_aload_n hx hb dX6_back_53 rfl (lv_at hl 1 rfl) ?_
      refine va_get (D := D) (ci := 4) (v := .ref (a 1)) (C := RX6) (T := TX6) (N := 12) hx hb hts (fun w h => List.mem_cons_of_mem _ (List.mem_append_left _ (List.mem_append_left _ (List.mem_append_right _ h)))) hown hK hP 0 rfl rfl 0 (by decide) (hts (.fieldLink RX6 12 "LeastNeed" "now" "LLeastNeed$Valley;") (List.mem_of_getElem? (i := 1) rfl)) (fun _ h9 => h9) rfl dX6_back_54 ?_
      refine va_get (D := D) (ci := 3) (v := .ref (a 8)) (C := RX5) (T := TX5) (N := 15) hx hb hts (fun w h => List.mem_cons_of_mem _ (List.mem_append_left _ (List.mem_append_right _ h))) hown hK hP 1 rfl rfl 6 (by decide) (hts (.fieldLink RX6 131 "LeastNeed$Valley" "owner" "[I") (List.mem_of_getElem? (i := 3) rfl)) (fun _ h9 => h9) rfl dX6_back_57 ?_
      refine lv_iload_n hx hb dX6_back_60 rfl (lv_at hl 2 rfl) ?_
      obtain ⟨hi61, hd⟩ := dn_i hd
      refine k_iald (D := D) (k := p1.toNatClampNeg) (by rfl) hx hb hK hP 8 1 rfl rfl hi61 dX6_back_61 ?_
      obtain ⟨hi62, hd⟩ := dn_i hd
      refine k_iast (D := D) (k := p1.toNatClampNeg) (by rfl) hx hb hK hP hD hS 9 1 rfl rfl hi62 dX6_back_62 (fun H locs hP hD hS => ?_)
      have hP : va_P D vwCl (wX6 cs a (k_w (k_sp S 1 16 S42) 9 p1.toNatClampNeg ((k_sp S 1 16 S42) 8 p1.toNatClampNeg)) L) _ := k_eq hP (wsX6_a9 cs a (k_sp S 1 16 S42) L p1.toNatClampNeg ((k_sp S 1 16 S42) 8 p1.toNatClampNeg))
      have hD := hDA (k_w (k_sp S 1 16 S42) 9 p1.toNatClampNeg ((k_sp S 1 16 S42) 8 p1.toNatClampNeg)) L
      refine lv_iload_n hx hb dX6_back_63 rfl (lv_at hl 0 rfl) ?_
      obtain ⟨e1, e2⟩ := dn_s2 hd
      exact k_iret hx hb hr hQ hAe e1 (by rw [e2]) hP hS hlocks dX6_back_64
    · have hd := dn_t c21 hd
      refine lv_aload_n hx hb dX6_back_24 rfl (lv_at hl 0 rfl) ?_
      obtain ⟨r25, S25, hq25, hd⟩ := dn_b2 hd
      have hF := k_self hD hS hA
      refine k_run_i (va_runV (As := []) (rest := []) ⟨hx, hb, hml, hown, hts⟩ (mX6_refusedAsNo l D cs a S L r25 S25 hq25 _) (cwV 0 hts gX6_back_X6_refusedAsNo rfl rfl rfl (by decide +kernel) ⟨Nat.le_of_ble_eq_true rfl, Nat.le_of_ble_eq_true rfl⟩) ⟨k_blind, va_recv hK hP (ci := 4) (q0 := 0) rfl rfl, k_pre hP hK hNn hD⟩ rfl rfl hl.1 rfl (lv_room (Nat.le_of_ble_eq_true rfl)) dX6_back_25 ⟨Nat.le_of_ble_eq_true rfl, Nat.le_of_ble_eq_true rfl⟩) hS hF (fun H locs hP1 hk hS => ?_)
      have hP : va_P D vwCl (wX6 cs a S25 L) _ := hP1
      have hD := hDA S25 L
      obtain ⟨e1, e2⟩ := dn_s2 hd
      exact k_iret hx hb hr hQ hAe e1 (by rw [e2]) hP hS hlocks dX6_back_28
  · have hd := dn_t c5 hd
    refine lv_aload_n hx hb dX6_back_8 rfl (lv_at hl 0 rfl) ?_
    obtain ⟨r9, S9, hq9, hd⟩ := dn_b2 hd
    have hF := k_self hD hS hA
    refine k_run_i (va_runV (As := []) (rest := []) ⟨hx, hb, hml, hown, hts⟩ (mX6_refusedAsBad l D cs a S L r9 S9 hq9 _) (cwV 0 hts gX6_back_X6_refusedAsBad rfl rfl rfl (by decide +kernel) ⟨Nat.le_of_ble_eq_true rfl, Nat.le_of_ble_eq_true rfl⟩) ⟨k_blind, va_recv hK hP (ci := 4) (q0 := 0) rfl rfl, k_pre hP hK hNn hD⟩ rfl rfl hl.1 rfl (lv_room (Nat.le_of_ble_eq_true rfl)) dX6_back_9 ⟨Nat.le_of_ble_eq_true rfl, Nat.le_of_ble_eq_true rfl⟩) hS hF (fun H locs hP1 hk hS => ?_)
    have hP : va_P D vwCl (wX6 cs a S9 L) _ := hP1
    have hD := hDA S9 L
    obtain ⟨e1, e2⟩ := dn_s2 hd
    exact k_iret hx hb hr hQ hAe e1 (by rw [e2]) hP hS hlocks dX6_back_12
-- LeastNeed.coat(II)I
set_option maxHeartbeats 4000000 in
set_option maxRecDepth 100000 in
theorem mX6_coat (l : Launch) (D : va_G) (cs : Nat → ClassId) (a : Nat → Nat) (S : Nat → Nat → Int32) (L : Nat → Nat → Int64) (p1 : Int32) (p2 : Int32) (r9 : Int32) (S9 : (Nat → Nat → Int32)) (hd : nX6_coat S L p1 p2 = some (r9, S9)) : ∀ sz : Nat, Met l yX6_coat wsX6_coat ({ frames := 3, cells := 0, slots := 0, locals := 81 }) (k_Pc D cs [.ref (a 0), .int p1, .int p2] (wX6 cs a S L) sz) (k_Qi D r9 (wX6 cs a S L) (wX6 cs a S9 L) sz) 0 0 (va_A (wX6 cs a S L) sz) := by
  intro sz
  refine Met.ofW (cc := cX6_coat) (maxL := 4) (ret := (some .int)) (by decide) rfl ?_
  intro p e s m args below meth c s₁ B hml hv
  obtain ⟨rfl, hsz, hP, hK, hD0, hNn⟩ := hv
  have hx := B.exec
  have hb := B.bytes
  have hr := B.returns
  have hts := atoms_spec (ws := wsX6_coat) B.pre
  have hown : s.vm.findClass RX6 = some m.cls := findClass_of_methodNamed B.named
  have hlocks := B.notSynchronized
  subst hsz
  obtain ⟨A, hAe⟩ : ∃ A : Nat → Prop, A = va_A (wX6 cs a S L) s.heap.size := ⟨_, rfl⟩
  have hD : va_D A (wX6 cs a S L) := by rw [hAe]; exact hD0.self
  have hA : ∀ q : Nat, s.heap.size ≤ q → A q := fun q h => by rw [hAe]; exact Or.inr h
  have hS : va_S A s.heap s.heap [] := va_S.rf
  have hDA : ∀ (S : Nat → Nat → Int32) (L : Nat → Nat → Int64), va_D A (wX6 cs a S L) := fun S L => k_DA hD rfl
  have hl := lv_entry ([.ref (a 0), .int p1, .int p2]) (n := 4) (Nat.le_of_ble_eq_true rfl)
  rw [lg_entry_eq]
  generalize (lg_sl ([.ref (a 0), .int p1, .int p2]) ++ List.replicate (4 - (lg_sl ([.ref (a 0), .int p1, .int p2])).length) Slot.unset).toArray = ls at hl ⊢
  have hl : lv_has ls 4 [(0, .ref (a 0)), (1, .int p1), (2, .int p2)] := hl
  obtain ⟨Q, hQ⟩ : ∃ Q, Q = MQ below (k_Qi D r9 (wX6 cs a S L) (wX6 cs a S9 L) s.heap.size) ([.ref (a 0), .int p1, .int p2] : List Value).toArray s 0 0 (va_A (wX6 cs a S L) s.heap.size) := ⟨_, rfl⟩
  rw [← hQ]
  have Jo17 : ∀ (S_17 : Nat → Nat → Int32) (H : Heap) (locs : List Loc) (ls : Array Slot), nX6_coat_j17 S_17 L = some (r9, S9) → lv_has ls 4 [(0, .ref (a 0))] → va_P D vwCl (wX6 cs a S_17 L) H → va_S A s.heap H locs → W p l e (headSpec wsX6_coat ({ frames := 3, cells := 0, slots := 0, locals := 81 })).room s m ([.ref (a 0), .int p1, .int p2] : List Value).toArray below meth c H locs 0 0 Q (F0 m 17 ls []) := by
    intro S_17 H locs ls hd hl hP hS
    have hD := hDA S_17 L
    unfold nX6_coat_j17 at hd
    refine lv_aload_n hx hb dX6_coat_17 rfl (lv_at hl 0 rfl) ?_
    obtain ⟨r18, S18, hq18, hd⟩ := dn_b2 hd
    have hF := k_self hD hS hA
    refine k_run_i (va_runV (As := []) (rest := []) ⟨hx, hb, hml, hown, hts⟩ (mX6_refusedAsBad l D cs a S_17 L r18 S18 hq18 _) (cwV 0 hts gX6_coat_X6_refusedAsBad rfl rfl rfl (by decide +kernel) ⟨Nat.le_of_ble_eq_true rfl, Nat.le_of_ble_eq_true rfl⟩) ⟨k_blind, va_recv hK hP (ci := 4) (q0 := 0) rfl rfl, k_pre hP hK hNn hD⟩ rfl rfl hl.1 rfl (lv_room (Nat.le_of_ble_eq_true rfl)) dX6_coat_18 ⟨Nat.le_of_ble_eq_true rfl, Nat.le_of_ble_eq_true rfl⟩) hS hF (fun H locs hP1 hk hS => ?_)
    have hP : va_P D vwCl (wX6 cs a S18 L) _ := hP1
    have hD := hDA S18 L
    obtain ⟨e1, e2⟩ := dn_s2 hd
    exact k_iret hx hb hr hQ hAe e1 (by rw [e2]) hP hS hlocks dX6_coat_21
  unfold nX6_coat at hd
  refine lv_aload_n hx hb dX6_coat_0 rfl (lv_at hl 0 rfl) ?_
  refine lv_iload_n hx hb dX6_coat_1 rfl (lv_at hl 1 rfl) ?_
  obtain ⟨r2, hq2, hd⟩ := dn_b1 hd
  have hF := k_self hD hS hA
  refine k_run_i (va_runV (As := [.int p1]) (rest := []) ⟨hx, hb, hml, hown, hts⟩ (mX6_isPerson l D cs a S L p1 r2 hq2 _) (cwV 1 hts gX6_coat_X6_isPerson rfl rfl rfl (by decide +kernel) ⟨Nat.le_of_ble_eq_true rfl, Nat.le_of_ble_eq_true rfl⟩) ⟨k_blind, va_recv hK hP (ci := 4) (q0 := 0) rfl rfl, k_pre hP hK hNn hD⟩ rfl rfl hl.1 rfl (lv_room (Nat.le_of_ble_eq_true rfl)) dX6_coat_2 ⟨Nat.le_of_ble_eq_true rfl, Nat.le_of_ble_eq_true rfl⟩) hS hF (fun H locs hP1 hk hS => ?_)
  have hP : va_P D vwCl (wX6 cs a S L) _ := hP1
  have hD := hDA S L
  refine lv_if_eq (tgt := 17) hx hb dX6_coat_5 (by decide) (fun c5 => ?_) (fun c5 => ?_)
  · have hd := dn_t c5 hd
    exact Jo17 S _ _ _ hd (lv_sub hl [0] rfl) hP hS
  · have hd := dn_f c5 hd
    refine lv_iload_n hx hb dX6_coat_8 rfl (lv_at hl 2 rfl) ?_
    refine lv_bipush (v := (10 : Int32)) hx hb dX6_coat_9 (by decide) ?_
    obtain ⟨r11, hq11, hd⟩ := dn_b1 hd
    have hPc := k_P0 hP
    have hDc : va_D A ([] : va_W) := k_D0
    have hF := k_self hDc hS hA
    refine k_run_i (va_runS (As := [.int p2, .int (10 : Int32)]) (rest := []) ⟨hx, hb, hml, hown, hts⟩ (mX6_upTo l D cs  p2 (10 : Int32) r11 hq11 _) (va_cwS 2 hts gX6_coat_X6_upTo rfl rfl rfl (by decide +kernel) ⟨Nat.le_of_ble_eq_true rfl, Nat.le_of_ble_eq_true rfl⟩) ⟨k_blind, k_pre hPc hK hNn hDc⟩ rfl rfl hl.1 rfl (lv_room (Nat.le_of_ble_eq_true rfl)) dX6_coat_11 ⟨Nat.le_of_ble_eq_true rfl, Nat.le_of_ble_eq_true rfl⟩) hS hF (fun H locs hP1 hk hS => ?_)
    have hP : va_P D vwCl (wX6 cs a S L) _ := k_keep hP hk
    refine lv_if_ne (tgt := 22) hx hb dX6_coat_14 (by decide) (fun c14 => ?_) (fun c14 => ?_)
    · have hd := dn_f c14 hd
      refine lv_aload_n hx hb dX6_coat_22 rfl (lv_at hl 0 rfl) ?_
      refine va_get (D := D) (ci := 4) (v := .ref (a 1)) (C := RX6) (T := TX6) (N := 12) hx hb hts (fun w h => List.mem_cons_of_mem _ (List.mem_append_left _ (List.mem_append_left _ (List.mem_append_right _ h)))) hown hK hP 0 rfl rfl 0 (by decide) (hts (.fieldLink RX6 12 "LeastNeed" "now" "LLeastNeed$Valley;") (List.mem_of_getElem? (i := 1) rfl)) (fun _ h9 => h9) rfl dX6_coat_23 ?_
      obtain ⟨S26, hq26, hd⟩ := dn_b1 hd
      have hPc : va_P D vwCl (wX5 cs (k_wi a 1) (k_wi S 1)) _ := k_sub hP [1, 2, 3, 4, 5, 6, 7, 8, 9, 10, 11, 12, 13, 14, 15, 16] (wcX6_X5_1 cs a S L)
      have hDc : va_D A (wX5 cs (k_wi a 1) (k_wi S 1)) := hD.sub [1, 2, 3, 4, 5, 6, 7, 8, 9, 10, 11, 12, 13, 14, 15, 16] (by decide +kernel) (wcX6_X5_1 cs a S L)
      have hF := k_self hDc hS hA
      refine k_run_v (va_runV (As := []) (rest := []) ⟨hx, hb, hml, hown, hts⟩ (mX5_keepPast l D cs (k_wi a 1) (k_wi S 1) S26 hq26 _) (cwV 0 hts gX6_coat_X5_keepPast rfl rfl rfl (by decide +kernel) ⟨Nat.le_of_ble_eq_true rfl, Nat.le_of_ble_eq_true rfl⟩) ⟨k_blind, va_recv hK hP (ci := 3) (q0 := 1) rfl rfl, k_pre hPc hK hNn hDc⟩ rfl rfl hl.1 rfl (lv_room (Nat.le_of_ble_eq_true rfl)) dX6_coat_26 ⟨Nat.le_of_ble_eq_true rfl, Nat.le_of_ble_eq_true rfl⟩) hS hF (fun H locs hP1 hk hS => ?_)
      have hP : va_P D vwCl (wX6 cs a (k_sp S 1 16 S26) L) _ := k_back hP hD [1, 2, 3, 4, 5, 6, 7, 8, 9, 10, 11, 12, 13, 14, 15, 16] [0, 17, 18, 19, 20, 21, 22, 23, 24, 25, 26, 27, 28, 29, 30, 31, 32, 33, 34, 35, 36, 37, 38, 39, 40, 41, 42, 43, 44, 45, 46, 47, 48, 49, 50, 51, 52, 53, 54, 55, 56, 57, 58, 59, 60, 61, 62, 63, 64, 65, 66, 67, 68, 69, 70, 71, 72, 73, 74, 75, 76, 77, 78] [0, 63, 64, 65, 66, 67, 68, 69, 70, 71, 72, 73, 74, 75, 76, 77, 78, 1, 2, 3, 4, 5, 6, 7, 8, 9, 10, 11, 12, 13, 14, 15, 16, 17, 18, 19, 20, 21, 22, 23, 24, 25, 26, 27, 28, 29, 30, 31, 32, 33, 34, 35, 36, 37, 38, 39, 40, 41, 42, 43, 44, 45, 46, 47, 48, 49, 50, 51, 52, 53, 54, 55, 56, 57, 58, 59, 60, 61, 62] (wcX6_X5_1 cs a S L) (by decide +kernel) hk hP1 (wbX6_X5_1_S0 cs a S L S26)
      have hD := hDA (k_sp S 1 16 S26) L
      refine lv_aload_n hx hb dX6_coat_29 rfl (lv_at hl 0 rfl) ?_
      refine va_get (D := D) (ci := 4) (v := .ref (a 1)) (C := RX6) (T := TX6) (N := 12) hx hb hts (fun w h => List.mem_cons_of_mem _ (List.mem_append_left _ (List.mem_append_left _ (List.mem_append_right _ h)))) hown hK hP 0 rfl rfl 0 (by decide) (hts (.fieldLink RX6 12 "LeastNeed" "now" "LLeastNeed$Valley;") (List.mem_of_getElem? (i := 1) rfl)) (fun _ h9 => h9) rfl dX6_coat_30 ?_
      refine va_get (D := D) (ci := 3) (v := .ref (a 4)) (C := RX5) (T := TX5) (N := 15) hx hb hts (fun w h => List.mem_cons_of_mem _ (List.mem_append_left _ (List.mem_append_right _ h))) hown hK hP 1 rfl rfl 2 (by decide) (hts (.fieldLink RX6 134 "LeastNeed$Valley" "worn" "[I") (List.mem_of_getElem? (i := 2) rfl)) (fun _ h9 => h9) rfl dX6_coat_33 ?_
      refine lv_iload_n hx hb dX6_coat_36 rfl (lv_at hl 1 rfl) ?_
      obtain ⟨hi37, hd⟩ := dn_i hd
      refine k_iald (D := D) (k := p1.toNatClampNeg) (by rfl) hx hb hK hP 4 1 rfl rfl hi37 dX6_coat_37 ?_
      refine lv_istore_n (lv' := [(3, .int ((k_sp S 1 16 S26) 4 p1.toNatClampNeg)), (0, .ref (a 0)), (1, .int p1), (2, .int p2)]) hx hb dX6_coat_38 rfl hl (by decide) rfl (fun ls hl => ?_)
      refine lv_aload_n hx hb dX6_coat_39 rfl (lv_at hl 1 rfl) ?_
      refine va_get (D := D) (ci := 4) (v := .ref (a 1)) (C := RX6) (T := TX6) (N := 12) hx hb hts (fun w h => List.mem_cons_of_mem _ (List.mem_append_left _ (List.mem_append_left _ (List.mem_append_right _ h)))) hown hK hP 0 rfl rfl 0 (by decide) (hts (.fieldLink RX6 12 "LeastNeed" "now" "LLeastNeed$Valley;") (List.mem_of_getElem? (i := 1) rfl)) (fun _ h9 => h9) rfl dX6_coat_40 ?_
      refine va_get (D := D) (ci := 3) (v := .ref (a 4)) (C := RX5) (T := TX5) (N := 15) hx hb hts (fun w h => List.mem_cons_of_mem _ (List.mem_append_left _ (List.mem_append_right _ h))) hown hK hP 1 rfl rfl 2 (by decide) (hts (.fieldLink RX6 134 "LeastNeed$Valley" "worn" "[I") (List.mem_of_getElem? (i := 2) rfl)) (fun _ h9 => h9) rfl dX6_coat_43 ?_
      refine lv_iload_n hx hb dX6_coat_46 rfl (lv_at hl 2 rfl) ?_
      refine lv_iload_n hx hb dX6_coat_47 rfl (lv_at hl 3 rfl) ?_
      obtain ⟨hi48, hd⟩ := dn_i hd
      refine k_iast (D := D) (k := p1.toNatClampNeg) (by rfl) hx hb hK hP hD hS 4 1 rfl rfl hi48 dX6_coat_48 (fun H locs hP hD hS => ?_)
      have hP : va_P D vwCl (wX6 cs a (k_w (k_sp S 1 16 S26) 4 p1.toNatClampNeg p2) L) _ := k_eq hP (wsX6_a4 cs a (k_sp S 1 16 S26) L p1.toNatClampNeg p2)
      have hD := hDA (k_w (k_sp S 1 16 S26) 4 p1.toNatClampNeg p2) L
      refine lv_iload_n hx hb dX6_coat_49 rfl (lv_at hl 0 rfl) ?_
      obtain ⟨e1, e2⟩ := dn_s2 hd
      exact k_iret hx hb hr hQ hAe e1 (by rw [e2]) hP hS hlocks dX6_coat_50
    · have hd := dn_t c14 hd
      exact Jo17 S _ _ _ hd (lv_sub hl [0] rfl) hP hS
