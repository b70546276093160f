set_option maxRecDepth 20000 in
theorem wcX6_X3_13 (cs : Nat → ClassId) (a : Nat → Nat) (S : Nat → Nat → Int32) (L : Nat → Nat → Int64) : ([13, 14] : List Nat).map (fun i => (wX6 cs a S L)[i]?) = (wX3 cs 24 (4 : Int32) (6 : Int32) (k_wi a 13) (k_wi S 13)).map some := rfl
set_option maxRecDepth 20000 in
theorem wrX6_X3_13 (cs : Nat → ClassId) (a : Nat → Nat) (S : Nat → Nat → Int32) (L : Nat → Nat → Int64) : ([0, 1, 2, 3, 4, 5, 6, 7, 8, 9, 10, 11, 12, 15, 16, 17, 18, 19, 20, 21, 22, 23, 24, 25, 26, 27, 28, 29, 30, 31, 32, 33, 34, 35, 36, 37, 38, 39, 40, 41, 42, 43, 44, 45, 46, 47, 48, 49, 50, 51, 52, 53, 54, 55, 56, 57, 58, 59, 60, 61, 62, 63, 64, 65, 66, 67, 68, 69, 70, 71, 72, 73, 74, 75, 76, 77, 78] : List Nat).filterMap (fun i => (wX6 cs a S L)[i]?) = ([(a 0, .inr (4, [.ref (a 1), .ref (a 17), .ref (a 65), .ref (a 66), .ref (a 67), .ref (a 70), .ref (a 75), .ref (a 76), .ref (a 77), .ref (a 78), .long (L 0 10), .long (L 0 11)])), (a 1, .inr (3, [.ref (a 2), .ref (a 3), .ref (a 4), .ref (a 5), .ref (a 6), .ref (a 7), .ref (a 8), .ref (a 9), .ref (a 10), .ref (a 11), .ref (a 13), .ref (a 15), .int (S 1 12), .int (S 1 13), .int (S 1 14)])), (a 2, .inl (cs 1, 7, .inl (S 2))), (a 3, .inl (cs 1, 7, .inl (S 3))), (a 4, .inl (cs 1, 7, .inl (S 4))), (a 5, .inl (cs 1, 28, .inl (S 5))), (a 6, .inl (cs 1, 5, .inl (S 6))), (a 7, .inl (cs 1, 5, .inl (S 7))), (a 8, .inl (cs 1, 5, .inl (S 8))), (a 9, .inl (cs 1, 5, .inl (S 9))), (a 10, .inl (cs 1, 5, .inl (S 10))), (a 11, .inr (2, [.int 6, .int 6, .ref (a 12), .int (S 11 3)])), (a 12, .inl (cs 1, 36, .inl (S 12))), (a 15, .inr (2, [.int 18, .int 8, .ref (a 16), .int (S 15 3)])), (a 16, .inl (cs 1, 144, .inl (S 16))), (a 17, .inr (3, [.ref (a 18), .ref (a 19), .ref (a 20), .ref (a 21), .ref (a 22), .ref (a 23), .ref (a 24), .ref (a 25), .ref (a 26), .ref (a 27), .ref (a 29), .ref (a 31), .int (S 17 12), .int (S 17 13), .int (S 17 14)])), (a 18, .inl (cs 1, 7, .inl (S 18))), (a 19, .inl (cs 1, 7, .inl (S 19))), (a 20, .inl (cs 1, 7, .inl (S 20))), (a 21, .inl (cs 1, 28, .inl (S 21))), (a 22, .inl (cs 1, 5, .inl (S 22))), (a 23, .inl (cs 1, 5, .inl (S 23))), (a 24, .inl (cs 1, 5, .inl (S 24))), (a 25, .inl (cs 1, 5, .inl (S 25))), (a 26, .inl (cs 1, 5, .inl (S 26))), (a 27, .inr (2, [.int 6, .int 6, .ref (a 28), .int (S 27 3)])), (a 28, .inl (cs 1, 36, .inl (S 28))), (a 29, .inr (2, [.int 4, .int 6, .ref (a 30), .int (S 29 3)])), (a 30, .inl (cs 1, 24, .inl (S 30))), (a 31, .inr (2, [.int 18, .int 8, .ref (a 32), .int (S 31 3)])), (a 32, .inl (cs 1, 144, .inl (S 32))), (a 33, .inr (3, [.ref (a 34), .ref (a 35), .ref (a 36), .ref (a 37), .ref (a 38), .ref (a 39), .ref (a 40), .ref (a 41), .ref (a 42), .ref (a 43), .ref (a 45), .ref (a 47), .int (S 33 12), .int (S 33 13), .int (S 33 14)])), (a 34, .inl (cs 1, 7, .inl (S 34))), (a 35, .inl (cs 1, 7, .inl (S 35))), (a 36, .inl (cs 1, 7, .inl (S 36))), (a 37, .inl (cs 1, 28, .inl (S 37))), (a 38, .inl (cs 1, 5, .inl (S 38))), (a 39, .inl (cs 1, 5, .inl (S 39))), (a 40, .inl (cs 1, 5, .inl (S 40))), (a 41, .inl (cs 1, 5, .inl (S 41))), (a 42, .inl (cs 1, 5, .inl (S 42))), (a 43, .inr (2, [.int 6, .int 6, .ref (a 44), .int (S 43 3)])), (a 44, .inl (cs 1, 36, .inl (S 44))), (a 45, .inr (2, [.int 4, .int 6, .ref (a 46), .int (S 45 3)])), (a 46, .inl (cs 1, 24, .inl (S 46))), (a 47, .inr (2, [.int 18, .int 8, .ref (a 48), .int (S 47 3)])), (a 48, .inl (cs 1, 144, .inl (S 48))), (a 49, .inr (3, [.ref (a 50), .ref (a 51), .ref (a 52), .ref (a 53), .ref (a 54), .ref (a 55), .ref (a 56), .ref (a 57), .ref (a 58), .ref (a 59), .ref (a 61), .ref (a 63), .int (S 49 12), .int (S 49 13), .int (S 49 14)])), (a 50, .inl (cs 1, 7, .inl (S 50))), (a 51, .inl (cs 1, 7, .inl (S 51))), (a 52, .inl (cs 1, 7, .inl (S 52))), (a 53, .inl (cs 1, 28, .inl (S 53))), (a 54, .inl (cs 1, 5, .inl (S 54))), (a 55, .inl (cs 1, 5, .inl (S 55))), (a 56, .inl (cs 1, 5, .inl (S 56))), (a 57, .inl (cs 1, 5, .inl (S 57))), (a 58, .inl (cs 1, 5, .inl (S 58))), (a 59, .inr (2, [.int 6, .int 6, .ref (a 60), .int (S 59 3)])), (a 60, .inl (cs 1, 36, .inl (S 60))), (a 61, .inr (2, [.int 4, .int 6, .ref (a 62), .int (S 61 3)])), (a 62, .inl (cs 1, 24, .inl (S 62))), (a 63, .inr (2, [.int 18, .int 8, .ref (a 64), .int (S 63 3)])), (a 64, .inl (cs 1, 144, .inl (S 64))), (a 65, .inl (cs 4, 2, .inr (.inr (.inr (.inr (fun j => if j = 0 then some (a 33) else if j = 1 then some (a 49) else none)))))), (a 66, .inl (cs 3, 2, .inl (S 66))), (a 67, .inr (1, [.ref (a 68), .ref (a 69), .int (S 67 2), .int (S 67 3), .int (S 67 4), .int (S 67 5)])), (a 68, .inl (cs 0, 150, .inl (S 68))), (a 69, .inl (cs 1, 6, .inl (S 69))), (a 70, .inr (0, [.ref (a 71), .ref (a 72), .ref (a 73), .ref (a 74), .int (S 70 4)])), (a 71, .inl (cs 2, 7, .inr (.inl (L 71)))), (a 72, .inl (cs 2, 7, .inr (.inl (L 72)))), (a 73, .inl (cs 2, 7, .inr (.inl (L 73)))), (a 74, .inl (cs 2, 7, .inr (.inl (L 74)))), (a 75, .inl (cs 1, 3, .inl (S 75))), (a 76, .inl (cs 1, 6, .inl (S 76))), (a 77, .inl (cs 1, 8, .inl (S 77))), (a 78, .inl (cs 1, 36, .inl (S 78)))] : va_W) := rfl
set_option maxRecDepth 20000 in
theorem wbX6_X3_13 (cs : Nat → ClassId) (a : Nat → Nat) (S : Nat → Nat → Int32) (L : Nat → Nat → Int64) : ([0, 1, 2, 3, 4, 5, 6, 7, 8, 9, 10, 11, 12, 77, 78, 13, 14, 15, 16, 17, 18, 19, 20, 21, 22, 23, 24, 25, 26, 27, 28, 29, 30, 31, 32, 33, 34, 35, 36, 37, 38, 39, 40, 41, 42, 43, 44, 45, 46, 47, 48, 49, 50, 51, 52, 53, 54, 55, 56, 57, 58, 59, 60, 61, 62, 63, 64, 65, 66, 67, 68, 69, 70, 71, 72, 73, 74, 75, 76] : List Nat).map (fun i => (([0, 1, 2, 3, 4, 5, 6, 7, 8, 9, 10, 11, 12, 15, 16, 17, 18, 19, 20, 21, 22, 23, 24, 25, 26, 27, 28, 29, 30, 31, 32, 33, 34, 35, 36, 37, 38, 39, 40, 41, 42, 43, 44, 45, 46, 47, 48, 49, 50, 51, 52, 53, 54, 55, 56, 57, 58, 59, 60, 61, 62, 63, 64, 65, 66, 67, 68, 69, 70, 71, 72, 73, 74, 75, 76, 77, 78] : List Nat).filterMap (fun i => (wX6 cs a S L)[i]?) ++ (wX3 cs 24 (4 : Int32) (6 : Int32) (k_wi a 13) (k_wi S 13)))[i]?) = (wX6 cs a S L).map some := (congrArg (fun z : va_W => ([0, 1, 2, 3, 4, 5, 6, 7, 8, 9, 10, 11, 12, 77, 78, 13, 14, 15, 16, 17, 18, 19, 20, 21, 22, 23, 24, 25, 26, 27, 28, 29, 30, 31, 32, 33, 34, 35, 36, 37, 38, 39, 40, 41, 42, 43, 44, 45, 46, 47, 48, 49, 50, 51, 52, 53, 54, 55, 56, 57, 58, 59, 60, 61, 62, 63, 64, 65, 66, 67, 68, 69, 70, 71, 72, 73, 74, 75, 76] : List Nat).map (fun i => (z ++ (wX3 cs 24 (4 : Int32) (6 : Int32) (k_wi a 13) (k_wi S 13)))[i]?)) (wrX6_X3_13 cs a S L)).trans rfl
set_option maxRecDepth 20000 in
theorem wbX6_X3_13_S0 (cs : Nat → ClassId) (a : Nat → Nat) (S : Nat → Nat → Int32) (L : Nat → Nat → Int64) (VS0 : Nat → Nat → Int32) : ([0, 1, 2, 3, 4, 5, 6, 7, 8, 9, 10, 11, 12, 77, 78, 13, 14, 15, 16, 17, 18, 19, 20, 21, 22, 23, 24, 25, 26, 27, 28, 29, 30, 31, 32, 33, 34, 35, 36, 37, 38, 39, 40, 41, 42, 43, 44, 45, 46, 47, 48, 49, 50, 51, 52, 53, 54, 55, 56, 57, 58, 59, 60, 61, 62, 63, 64, 65, 66, 67, 68, 69, 70, 71, 72, 73, 74, 75, 76] : List Nat).map (fun i => (([0, 1, 2, 3, 4, 5, 6, 7, 8, 9, 10, 11, 12, 15, 16, 17, 18, 19, 20, 21, 22, 23, 24, 25, 26, 27, 28, 29, 30, 31, 32, 33, 34, 35, 36, 37, 38, 39, 40, 41, 42, 43, 44, 45, 46, 47, 48, 49, 50, 51, 52, 53, 54, 55, 56, 57, 58, 59, 60, 61, 62, 63, 64, 65, 66, 67, 68, 69, 70, 71, 72, 73, 74, 75, 76, 77, 78] : List Nat).filterMap (fun i => (wX6 cs a S L)[i]?) ++ (wX3 cs 24 (4 : Int32) (6 : Int32) (k_wi a 13) VS0))[i]?) = (wX6 cs a (k_sp S 13 2 VS0) L).map some := (congrArg (fun z : va_W => ([0, 1, 2, 3, 4, 5, 6, 7, 8, 9, 10, 11, 12, 77, 78, 13, 14, 15, 16, 17, 18, 19, 20, 21, 22, 23, 24, 25, 26, 27, 28, 29, 30, 31, 32, 33, 34, 35, 36, 37, 38, 39, 40, 41, 42, 43, 44, 45, 46, 47, 48, 49, 50, 51, 52, 53, 54, 55, 56, 57, 58, 59, 60, 61, 62, 63, 64, 65, 66, 67, 68, 69, 70, 71, 72, 73, 74, 75, 76] : List Nat).map (fun i => (z ++ (wX3 cs 24 (4 : Int32) (6 : Int32) (k_wi a 13) VS0))[i]?)) (wrX6_X3_13 cs a S L)).trans rfl
theorem wsX6_f13_3 (cs : Nat → ClassId) (a : Nat → Nat) (S : Nat → Nat → Int32) (L : Nat → Nat → Int64) (x : Int32) : List.set (wX6 cs a S L) 13 (a 13, .inr (2, ([.int 4, .int 6, .ref (a 14), .int (S 13 3)] : List Value).set 3 (.int x))) = (wX6 cs a (k_w S 13 3 x) L) := rfl
theorem wsX6_f11_3 (cs : Nat → ClassId) (a : Nat → Nat) (S : Nat → Nat → Int32) (L : Nat → Nat → Int64) (x : Int32) : List.set (wX6 cs a S L) 11 (a 11, .inr (2, ([.int 6, .int 6, .ref (a 12), .int (S 11 3)] : List Value).set 3 (.int x))) = (wX6 cs a (k_w S 11 3 x) L) := rfl
set_option maxRecDepth 20000 in
theorem wcX6_aI_76 (cs : Nat → ClassId) (a : Nat → Nat) (S : Nat → Nat → Int32) (L : Nat → Nat → Int64) : ([76] : List Nat).map (fun i => (wX6 cs a S L)[i]?) = (wAI cs 6 (k_wi a 76) (k_wi S 76)).map some := rfl
set_option maxRecDepth 20000 in
theorem wrX6_aI_76 (cs : Nat → ClassId) (a : Nat → Nat) (S : Nat → Nat → Int32) (L : Nat → Nat → Int64) : ([0, 1, 2, 3, 4, 5, 6, 7, 8, 9, 10, 11, 12, 13, 14, 15, 16, 17, 18, 19, 20, 21, 22, 23, 24, 25, 26, 27, 28, 29, 30, 31, 32, 33, 34, 35, 36, 37, 38, 39, 40, 41, 42, 43, 44, 45, 46, 47, 48, 49, 50, 51, 52, 53, 54, 55, 56, 57, 58, 59, 60, 61, 62, 63, 64, 65, 66, 67, 68, 69, 70, 71, 72, 73, 74, 75, 77, 78] : List Nat).filterMap (fun i => (wX6 cs a S L)[i]?) = ([(a 0, .inr (4, [.ref (a 1), .ref (a 17), .ref (a 65), .ref (a 66), .ref (a 67), .ref (a 70), .ref (a 75), .ref (a 76), .ref (a 77), .ref (a 78), .long (L 0 10), .long (L 0 11)])), (a 1, .inr (3, [.ref (a 2), .ref (a 3), .ref (a 4), .ref (a 5), .ref (a 6), .ref (a 7), .ref (a 8), .ref (a 9), .ref (a 10), .ref (a 11), .ref (a 13), .ref (a 15), .int (S 1 12), .int (S 1 13), .int (S 1 14)])), (a 2, .inl (cs 1, 7, .inl (S 2))), (a 3, .inl (cs 1, 7, .inl (S 3))), (a 4, .inl (cs 1, 7, .inl (S 4))), (a 5, .inl (cs 1, 28, .inl (S 5))), (a 6, .inl (cs 1, 5, .inl (S 6))), (a 7, .inl (cs 1, 5, .inl (S 7))), (a 8, .inl (cs 1, 5, .inl (S 8))), (a 9, .inl (cs 1, 5, .inl (S 9))), (a 10, .inl (cs 1, 5, .inl (S 10))), (a 11, .inr (2, [.int 6, .int 6, .ref (a 12), .int (S 11 3)])), (a 12, .inl (cs 1, 36, .inl (S 12))), (a 13, .inr (2, [.int 4, .int 6, .ref (a 14), .int (S 13 3)])), (a 14, .inl (cs 1, 24, .inl (S 14))), (a 15, .inr (2, [.int 18, .int 8, .ref (a 16), .int (S 15 3)])), (a 16, .inl (cs 1, 144, .inl (S 16))), (a 17, .inr (3, [.ref (a 18), .ref (a 19), .ref (a 20), .ref (a 21), .ref (a 22), .ref (a 23), .ref (a 24), .ref (a 25), .ref (a 26), .ref (a 27), .ref (a 29), .ref (a 31), .int (S 17 12), .int (S 17 13), .int (S 17 14)])), (a 18, .inl (cs 1, 7, .inl (S 18))), (a 19, .inl (cs 1, 7, .inl (S 19))), (a 20, .inl (cs 1, 7, .inl (S 20))), (a 21, .inl (cs 1, 28, .inl (S 21))), (a 22, .inl (cs 1, 5, .inl (S 22))), (a 23, .inl (cs 1, 5, .inl (S 23))), (a 24, .inl (cs 1, 5, .inl (S 24))), (a 25, .inl (cs 1, 5, .inl (S 25))), (a 26, .inl (cs 1, 5, .inl (S 26))), (a 27, .inr (2, [.int 6, .int 6, .ref (a 28), .int (S 27 3)])), (a 28, .inl (cs 1, 36, .inl (S 28))), (a 29, .inr (2, [.int 4, .int 6, .ref (a 30), .int (S 29 3)])), (a 30, .inl (cs 1, 24, .inl (S 30))), (a 31, .inr (2, [.int 18, .int 8, .ref (a 32), .int (S 31 3)])), (a 32, .inl (cs 1, 144, .inl (S 32))), (a 33, .inr (3, [.ref (a 34), .ref (a 35), .ref (a 36), .ref (a 37), .ref (a 38), .ref (a 39), .ref (a 40), .ref (a 41), .ref (a 42), .ref (a 43), .ref (a 45), .ref (a 47), .int (S 33 12), .int (S 33 13), .int (S 33 14)])), (a 34, .inl (cs 1, 7, .inl (S 34))), (a 35, .inl (cs 1, 7, .inl (S 35))), (a 36, .inl (cs 1, 7, .inl (S 36))), (a 37, .inl (cs 1, 28, .inl (S 37))), (a 38, .inl (cs 1, 5, .inl (S 38))), (a 39, .inl (cs 1, 5, .inl (S 39))), (a 40, .inl (cs 1, 5, .inl (S 40))), (a 41, .inl (cs 1, 5, .inl (S 41))), (a 42, .inl (cs 1, 5, .inl (S 42))), (a 43, .inr (2, [.int 6, .int 6, .ref (a 44), .int (S 43 3)])), (a 44, .inl (cs 1, 36, .inl (S 44))), (a 45, .inr (2, [.int 4, .int 6, .ref (a 46), .int (S 45 3)])), (a 46, .inl (cs 1, 24, .inl (S 46))), (a 47, .inr (2, [.int 18, .int 8, .ref (a 48), .int (S 47 3)])), (a 48, .inl (cs 1, 144, .inl (S 48))), (a 49, .inr (3, [.ref (a 50), .ref (a 51), .ref (a 52), .ref (a 53), .ref (a 54), .ref (a 55), .ref (a 56), .ref (a 57), .ref (a 58), .ref (a 59), .ref (a 61), .ref (a 63), .int (S 49 12), .int (S 49 13), .int (S 49 14)])), (a 50, .inl (cs 1, 7, .inl (S 50))), (a 51, .inl (cs 1, 7, .inl (S 51))), (a 52, .inl (cs 1, 7, .inl (S 52))), (a 53, .inl (cs 1, 28, .inl (S 53))), (a 54, .inl (cs 1, 5, .inl (S 54))), (a 55, .inl (cs 1, 5, .inl (S 55))), (a 56, .inl (cs 1, 5, .inl (S 56))), (a 57, .inl (cs 1, 5, .inl (S 57))), (a 58, .inl (cs 1, 5, .inl (S 58))), (a 59, .inr (2, [.int 6, .int 6, .ref (a 60), .int (S 59 3)])), (a 60, .inl (cs 1, 36, .inl (S 60))), (a 61, .inr (2, [.int 4, .int 6, .ref (a 62), .int (S 61 3)])), (a 62, .inl (cs 1, 24, .inl (S 62))), (a 63, .inr (2, [.int 18, .int 8, .ref (a 64), .int (S 63 3)])), (a 64, .inl (cs 1, 144, .inl (S 64))), (a 65, .inl (cs 4, 2, .inr (.inr (.inr (.inr (fun j => if j = 0 then some (a 33) else if j = 1 then some (a 49) else none)))))), (a 66, .inl (cs 3, 2, .inl (S 66))), (a 67, .inr (1, [.ref (a 68), .ref (a 69), .int (S 67 2), .int (S 67 3), .int (S 67 4), .int (S 67 5)])), (a 68, .inl (cs 0, 150, .inl (S 68))), (a 69, .inl (cs 1, 6, .inl (S 69))), (a 70, .inr (0, [.ref (a 71), .ref (a 72), .ref (a 73), .ref (a 74), .int (S 70 4)])), (a 71, .inl (cs 2, 7, .inr (.inl (L 71)))), (a 72, .inl (cs 2, 7, .inr (.inl (L 72)))), (a 73, .inl (cs 2, 7, .inr (.inl (L 73)))), (a 74, .inl (cs 2, 7, .inr (.inl (L 74)))), (a 75, .inl (cs 1, 3, .inl (S 75))), (a 77, .inl (cs 1, 8, .inl (S 77))), (a 78, .inl (cs 1, 36, .inl (S 78)))] : va_W) := rfl
set_option maxRecDepth 20000 in
theorem wbX6_aI_76 (cs : Nat → ClassId) (a : Nat → Nat) (S : Nat → Nat → Int32) (L : Nat → Nat → Int64) : ([0, 1, 2, 3, 4, 5, 6, 7, 8, 9, 10, 11, 12, 13, 14, 15, 16, 17, 18, 19, 20, 21, 22, 23, 24, 25, 26, 27, 28, 29, 30, 31, 32, 33, 34, 35, 36, 37, 38, 39, 40, 41, 42, 43, 44, 45, 46, 47, 48, 49, 50, 51, 52, 53, 54, 55, 56, 57, 58, 59, 60, 61, 62, 63, 64, 65, 66, 67, 68, 69, 70, 71, 72, 73, 74, 75, 78, 76, 77] : List Nat).map (fun i => (([0, 1, 2, 3, 4, 5, 6, 7, 8, 9, 10, 11, 12, 13, 14, 15, 16, 17, 18, 19, 20, 21, 22, 23, 24, 25, 26, 27, 28, 29, 30, 31, 32, 33, 34, 35, 36, 37, 38, 39, 40, 41, 42, 43, 44, 45, 46, 47, 48, 49, 50, 51, 52, 53, 54, 55, 56, 57, 58, 59, 60, 61, 62, 63, 64, 65, 66, 67, 68, 69, 70, 71, 72, 73, 74, 75, 77, 78] : List Nat).filterMap (fun i => (wX6 cs a S L)[i]?) ++ (wAI cs 6 (k_wi a 76) (k_wi S 76)))[i]?) = (wX6 cs a S L).map some := (congrArg (fun z : va_W => ([0, 1, 2, 3, 4, 5, 6, 7, 8, 9, 10, 11, 12, 13, 14, 15, 16, 17, 18, 19, 20, 21, 22, 23, 24, 25, 26, 27, 28, 29, 30, 31, 32, 33, 34, 35, 36, 37, 38, 39, 40, 41, 42, 43, 44, 45, 46, 47, 48, 49, 50, 51, 52, 53, 54, 55, 56, 57, 58, 59, 60, 61, 62, 63, 64, 65, 66, 67, 68, 69, 70, 71, 72, 73, 74, 75, 78, 76, 77] : List Nat).map (fun i => (z ++ (wAI cs 6 (k_wi a 76) (k_wi S 76)))[i]?)) (wrX6_aI_76 cs a S L)).trans rfl
theorem wsX6_a76 (cs : Nat → ClassId) (a : Nat → Nat) (S : Nat → Nat → Int32) (L : Nat → Nat → Int64) (k : Nat) (x : Int32) : List.set (wX6 cs a S L) 76 (a 76, .inl (cs 1, 6, .inl (upd (S 76) k x))) = (wX6 cs a (k_w S 76 k x) L) := rfl
-- LeastNeed.came(IIII)I
set_option maxHeartbeats 4000000 in
set_option maxRecDepth 100000 in
theorem mX6_came (l : Launch) (D : va_G) (cs : Nat → ClassId) (a : Nat → Nat) (S : Nat → Nat → Int32) (L : Nat → Nat → Int64) (p1 : Int32) (p2 : Int32) (p3 : Int32) (p4 : Int32) (r9 : Int32) (S9 : (Nat → Nat → Int32)) (hd : nX6_came S L p1 p2 p3 p4 = some (r9, S9)) : ∀ sz : Nat, Met l yX6_came wsX6_came ({ frames := 2, cells := 0, slots := 0, locals := 42 }) (k_Pc D cs [.ref (a 0), .int p1, .int p2, .int p3, .int p4] (wX6 cs a S L) sz) (k_Qi D r9 (wX6 cs a S L) (wX6 cs a S9 L) sz) 0 0 (va_A (wX6 cs a S L) sz) := by
  intro sz
  refine Met.ofW (cc := cX6_came) (maxL := 6) (ret := (some .int)) (by decide) rfl ?_
  intro p e s m args below meth c s₁ B hml hv
  obtain ⟨rfl, hsz, hP, hK, hD0, hNn⟩ := hv
  have hx := B.exec
  have hb := B.bytes
  have hr := B.returns
  have hts := atoms_spec (ws := wsX6_came) B.pre
  have hown : s.vm.findClass RX6 = some m.cls := findClass_of_methodNamed B.named
  have hlocks := B.notSynchronized
  subst hsz
  obtain ⟨A, hAe⟩ : ∃ A : Nat → Prop, A = va_A (wX6 cs a S L) s.heap.size := ⟨_, rfl⟩
  have hD : va_D A (wX6 cs a S L) := by rw [hAe]; exact hD0.self
  have hA : ∀ q : Nat, s.heap.size ≤ q → A q := fun q h => by rw [hAe]; exact Or.inr h
  have hS : va_S A s.heap s.heap [] := va_S.rf
  have hDA : ∀ (S : Nat → Nat → Int32) (L : Nat → Nat → Int64), va_D A (wX6 cs a S L) := fun S L => k_DA hD rfl
  have hl := lv_entry ([.ref (a 0), .int p1, .int p2, .int p3, .int p4]) (n := 6) (Nat.le_of_ble_eq_true rfl)
  rw [lg_entry_eq]
  generalize (lg_sl ([.ref (a 0), .int p1, .int p2, .int p3, .int p4]) ++ List.replicate (6 - (lg_sl ([.ref (a 0), .int p1, .int p2, .int p3, .int p4])).length) Slot.unset).toArray = ls at hl ⊢
  have hl : lv_has ls 6 [(0, .ref (a 0)), (1, .int p1), (2, .int p2), (3, .int p3), (4, .int p4)] := hl
  obtain ⟨Q, hQ⟩ : ∃ Q, Q = MQ below (k_Qi D r9 (wX6 cs a S L) (wX6 cs a S9 L) s.heap.size) ([.ref (a 0), .int p1, .int p2, .int p3, .int p4] : List Value).toArray s 0 0 (va_A (wX6 cs a S L) s.heap.size) := ⟨_, rfl⟩
  rw [← hQ]
  have Jo63 : ∀ (S_63 : Nat → Nat → Int32) (H : Heap) (locs : List Loc) (ls : Array Slot), nX6_came_j63 p1 p2 p3 p4 S_63 L = some (r9, S9) → lv_has ls 6 [(0, .ref (a 0)), (1, .int p1), (2, .int p2), (3, .int p3), (4, .int p4)] → va_P D vwCl (wX6 cs a S_63 L) H → va_S A s.heap H locs → W p l e (headSpec wsX6_came ({ frames := 2, cells := 0, slots := 0, locals := 42 })).room s m ([.ref (a 0), .int p1, .int p2, .int p3, .int p4] : List Value).toArray below meth c H locs 0 0 Q (F0 m 63 ls []) := by
    intro S_63 H locs ls hd hl hP hS
    have hD := hDA S_63 L
    unfold nX6_came_j63 at hd
    refine lv_aload_n hx hb dX6_came_63 rfl (lv_at hl 0 rfl) ?_
    refine va_get (D := D) (ci := 4) (v := .ref (a 1)) (C := RX6) (T := TX6) (N := 12) hx hb hts (fun w h => List.mem_cons_of_mem _ (List.mem_append_left _ (List.mem_append_left _ (List.mem_append_right _ h)))) hown hK hP 0 rfl rfl 0 (by decide) (hts (.fieldLink RX6 12 "LeastNeed" "now" "LLeastNeed$Valley;") (List.mem_of_getElem? (i := 1) rfl)) (fun _ h9 => h9) rfl dX6_came_64 ?_
    refine va_get (D := D) (ci := 3) (v := .ref (a 13)) (C := RX5) (T := TX5) (N := 15) hx hb hts (fun w h => List.mem_cons_of_mem _ (List.mem_append_left _ (List.mem_append_right _ h))) hown hK hP 1 rfl rfl 10 (by decide) (hts (.fieldLink RX6 211 "LeastNeed$Valley" "cames" "LLeastNeed$Rows;") (List.mem_of_getElem? (i := 2) rfl)) (fun _ h9 => h9) rfl dX6_came_67 ?_
    obtain ⟨r70, hq70, hd⟩ := dn_b1 hd
    have hPc : va_P D vwCl (wX3 cs 24 (4 : Int32) (6 : Int32) (k_wi a 13) (k_wi S_63 13)) _ := k_sub hP [13, 14] (wcX6_X3_13 cs a S_63 L)
    have hDc : va_D A (wX3 cs 24 (4 : Int32) (6 : Int32) (k_wi a 13) (k_wi S_63 13)) := hD.sub [13, 14] (by decide +kernel) (wcX6_X3_13 cs a S_63 L)
    have hF := k_self hDc hS hA
    refine k_run_i (va_runV (As := []) (rest := []) ⟨hx, hb, hml, hown, hts⟩ (mX3_isFull l D cs (k_wi a 13) 24 (4 : Int32) (6 : Int32) (k_wi S_63 13) r70 hq70 _) (cwV 0 hts gX6_came_X3_isFull rfl rfl rfl (by decide +kernel) ⟨Nat.le_of_ble_eq_true rfl, Nat.le_of_ble_eq_true rfl⟩) ⟨k_blind, va_recv hK hP (ci := 2) (q0 := 13) rfl rfl, k_pre hPc hK hNn hDc⟩ rfl rfl hl.1 rfl (lv_room (Nat.le_of_ble_eq_true rfl)) dX6_came_70 ⟨Nat.le_of_ble_eq_true rfl, Nat.le_of_ble_eq_true rfl⟩) hS hF (fun H locs hP1 hk hS => ?_)
    have hP : va_P D vwCl (wX6 cs a S_63 L) _ := k_back hP hD [13, 14] [0, 1, 2, 3, 4, 5, 6, 7, 8, 9, 10, 11, 12, 15, 16, 17, 18, 19, 20, 21, 22, 23, 24, 25, 26, 27, 28, 29, 30, 31, 32, 33, 34, 35, 36, 37, 38, 39, 40, 41, 42, 43, 44, 45, 46, 47, 48, 49, 50, 51, 52, 53, 54, 55, 56, 57, 58, 59, 60, 61, 62, 63, 64, 65, 66, 67, 68, 69, 70, 71, 72, 73, 74, 75, 76, 77, 78] [0, 1, 2, 3, 4, 5, 6, 7, 8, 9, 10, 11, 12, 77, 78, 13, 14, 15, 16, 17, 18, 19, 20, 21, 22, 23, 24, 25, 26, 27, 28, 29, 30, 31, 32, 33, 34, 35, 36, 37, 38, 39, 40, 41, 42, 43, 44, 45, 46, 47, 48, 49, 50, 51, 52, 53, 54, 55, 56, 57, 58, 59, 60, 61, 62, 63, 64, 65, 66, 67, 68, 69, 70, 71, 72, 73, 74, 75, 76] (wcX6_X3_13 cs a S_63 L) (by decide +kernel) hk hP1 (wbX6_X3_13 cs a S_63 L)
    have hD := hDA S_63 L
    refine lv_if_eq (tgt := 81) hx hb dX6_came_73 (by decide) (fun c73 => ?_) (fun c73 => ?_)
    · have hd := dn_t c73 hd
      refine lv_aload_n hx hb dX6_came_81 rfl (lv_at hl 0 rfl) ?_
      refine va_get (D := D) (ci := 4) (v := .ref (a 1)) (C := RX6) (T := TX6) (N := 12) hx hb hts (fun w h => List.mem_cons_of_mem _ (List.mem_append_left _ (List.mem_append_left _ (List.mem_append_right _ h)))) hown hK hP 0 rfl rfl 0 (by decide) (hts (.fieldLink RX6 12 "LeastNeed" "now" "LLeastNeed$Valley;") (List.mem_of_getElem? (i := 1) rfl)) (fun _ h9 => h9) rfl dX6_came_82 ?_
      refine va_get (D := D) (ci := 3) (v := .ref (a 13)) (C := RX5) (T := TX5) (N := 15) hx hb hts (fun w h => List.mem_cons_of_mem _ (List.mem_append_left _ (List.mem_append_right _ h))) hown hK hP 1 rfl rfl 10 (by decide) (hts (.fieldLink RX6 211 "LeastNeed$Valley" "cames" "LLeastNeed$Rows;") (List.mem_of_getElem? (i := 2) rfl)) (fun _ h9 => h9) rfl dX6_came_85 ?_
      obtain ⟨S88, hq88, hd⟩ := dn_b1 hd
      have hPc : va_P D vwCl (wX3 cs 24 (4 : Int32) (6 : Int32) (k_wi a 13) (k_wi S_63 13)) _ := k_sub hP [13, 14] (wcX6_X3_13 cs a S_63 L)
      have hDc : va_D A (wX3 cs 24 (4 : Int32) (6 : Int32) (k_wi a 13) (k_wi S_63 13)) := hD.sub [13, 14] (by decide +kernel) (wcX6_X3_13 cs a S_63 L)
      have hF := k_self hDc hS hA
      refine k_run_v (va_runV (As := []) (rest := []) ⟨hx, hb, hml, hown, hts⟩ (mX3_begin l D cs (k_wi a 13) 24 (4 : Int32) (6 : Int32) (k_wi S_63 13) S88 hq88 _) (cwV 0 hts gX6_came_X3_begin rfl rfl rfl (by decide +kernel) ⟨Nat.le_of_ble_eq_true rfl, Nat.le_of_ble_eq_true rfl⟩) ⟨k_blind, va_recv hK hP (ci := 2) (q0 := 13) rfl rfl, k_pre hPc hK hNn hDc⟩ rfl rfl hl.1 rfl (lv_room (Nat.le_of_ble_eq_true rfl)) dX6_came_88 ⟨Nat.le_of_ble_eq_true rfl, Nat.le_of_ble_eq_true rfl⟩) hS hF (fun H locs hP1 hk hS => ?_)
      have hP : va_P D vwCl (wX6 cs a (k_sp S_63 13 2 S88) L) _ := k_back hP hD [13, 14] [0, 1, 2, 3, 4, 5, 6, 7, 8, 9, 10, 11, 12, 15, 16, 17, 18, 19, 20, 21, 22, 23, 24, 25, 26, 27, 28, 29, 30, 31, 32, 33, 34, 35, 36, 37, 38, 39, 40, 41, 42, 43, 44, 45, 46, 47, 48, 49, 50, 51, 52, 53, 54, 55, 56, 57, 58, 59, 60, 61, 62, 63, 64, 65, 66, 67, 68, 69, 70, 71, 72, 73, 74, 75, 76, 77, 78] [0, 1, 2, 3, 4, 5, 6, 7, 8, 9, 10, 11, 12, 77, 78, 13, 14, 15, 16, 17, 18, 19, 20, 21, 22, 23, 24, 25, 26, 27, 28, 29, 30, 31, 32, 33, 34, 35, 36, 37, 38, 39, 40, 41, 42, 43, 44, 45, 46, 47, 48, 49, 50, 51, 52, 53, 54, 55, 56, 57, 58, 59, 60, 61, 62, 63, 64, 65, 66, 67, 68, 69, 70, 71, 72, 73, 74, 75, 76] (wcX6_X3_13 cs a S_63 L) (by decide +kernel) hk hP1 (wbX6_X3_13_S0 cs a S_63 L S88)
      have hD := hDA (k_sp S_63 13 2 S88) L
      refine lv_aload_n hx hb dX6_came_91 rfl (lv_at hl 0 rfl) ?_
      refine va_get (D := D) (ci := 4) (v := .ref (a 1)) (C := RX6) (T := TX6) (N := 12) hx hb hts (fun w h => List.mem_cons_of_mem _ (List.mem_append_left _ (List.mem_append_left _ (List.mem_append_right _ h)))) hown hK hP 0 rfl rfl 0 (by decide) (hts (.fieldLink RX6 12 "LeastNeed" "now" "LLeastNeed$Valley;") (List.mem_of_getElem? (i := 1) rfl)) (fun _ h9 => h9) rfl dX6_came_92 ?_
      refine va_get (D := D) (ci := 3) (v := .ref (a 13)) (C := RX5) (T := TX5) (N := 15) hx hb hts (fun w h => List.mem_cons_of_mem _ (List.mem_append_left _ (List.mem_append_right _ h))) hown hK hP 1 rfl rfl 10 (by decide) (hts (.fieldLink RX6 211 "LeastNeed$Valley" "cames" "LLeastNeed$Rows;") (List.mem_of_getElem? (i := 2) rfl)) (fun _ h9 => h9) rfl dX6_came_95 ?_
      refine lv_iconst (v := (0 : Int32)) hx hb dX6_came_98 (by decide) ?_
      refine lv_iload_n hx hb dX6_came_99 rfl (lv_at hl 1 rfl) ?_
      obtain ⟨S100, hq100, hd⟩ := dn_b1 hd
      have hPc : va_P D vwCl (wX3 cs 24 (4 : Int32) (6 : Int32) (k_wi a 13) (k_wi (k_sp S_63 13 2 S88) 13)) _ := k_sub hP [13, 14] (wcX6_X3_13 cs a (k_sp S_63 13 2 S88) L)
      have hDc : va_D A (wX3 cs 24 (4 : Int32) (6 : Int32) (k_wi a 13) (k_wi (k_sp S_63 13 2 S88) 13)) := hD.sub [13, 14] (by decide +kernel) (wcX6_X3_13 cs a (k_sp S_63 13 2 S88) L)
      have hF := k_self hDc hS hA
      refine k_run_v (va_runV (As := [.int (0 : Int32), .int p1]) (rest := []) ⟨hx, hb, hml, hown, hts⟩ (mX3_put l D cs (k_wi a 13) 24 (4 : Int32) (6 : Int32) (k_wi (k_sp S_63 13 2 S88) 13) (0 : Int32) p1 S100 hq100 _) (cwV 2 hts gX6_came_X3_put rfl rfl rfl (by decide +kernel) ⟨Nat.le_of_ble_eq_true rfl, Nat.le_of_ble_eq_true rfl⟩) ⟨k_blind, va_recv hK hP (ci := 2) (q0 := 13) rfl rfl, k_pre hPc hK hNn hDc⟩ rfl rfl hl.1 rfl (lv_room (Nat.le_of_ble_eq_true rfl)) dX6_came_100 ⟨Nat.le_of_ble_eq_true rfl, Nat.le_of_ble_eq_true rfl⟩) hS hF (fun H locs hP1 hk hS => ?_)
      have hP : va_P D vwCl (wX6 cs a (k_sp (k_sp S_63 13 2 S88) 13 2 S100) L) _ := k_back hP hD [13, 14] [0, 1, 2, 3, 4, 5, 6, 7, 8, 9, 10, 11, 12, 15, 16, 17, 18, 19, 20, 21, 22, 23, 24, 25, 26, 27, 28, 29, 30, 31, 32, 33, 34, 35, 36, 37, 38, 39, 40, 41, 42, 43, 44, 45, 46, 47, 48, 49, 50, 51, 52, 53, 54, 55, 56, 57, 58, 59, 60, 61, 62, 63, 64, 65, 66, 67, 68, 69, 70, 71, 72, 73, 74, 75, 76, 77, 78] [0, 1, 2, 3, 4, 5, 6, 7, 8, 9, 10, 11, 12, 77, 78, 13, 14, 15, 16, 17, 18, 19, 20, 21, 22, 23, 24, 25, 26, 27, 28, 29, 30, 31, 32, 33, 34, 35, 36, 37, 38, 39, 40, 41, 42, 43, 44, 45, 46, 47, 48, 49, 50, 51, 52, 53, 54, 55, 56, 57, 58, 59, 60, 61, 62, 63, 64, 65, 66, 67, 68, 69, 70, 71, 72, 73, 74, 75, 76] (wcX6_X3_13 cs a (k_sp S_63 13 2 S88) L) (by decide +kernel) hk hP1 (wbX6_X3_13_S0 cs a (k_sp S_63 13 2 S88) L S100)
      have hD := hDA (k_sp (k_sp S_63 13 2 S88) 13 2 S100) L
      refine lv_aload_n hx hb dX6_came_103 rfl (lv_at hl 0 rfl) ?_
      refine va_get (D := D) (ci := 4) (v := .ref (a 1)) (C := RX6) (T := TX6) (N := 12) hx hb hts (fun w h => List.mem_cons_of_mem _ (List.mem_append_left _ (List.mem_append_left _ (List.mem_append_right _ h)))) hown hK hP 0 rfl rfl 0 (by decide) (hts (.fieldLink RX6 12 "LeastNeed" "now" "LLeastNeed$Valley;") (List.mem_of_getElem? (i := 1) rfl)) (fun _ h9 => h9) rfl dX6_came_104 ?_
      refine va_get (D := D) (ci := 3) (v := .ref (a 13)) (C := RX5) (T := TX5) (N := 15) hx hb hts (fun w h => List.mem_cons_of_mem _ (List.mem_append_left _ (List.mem_append_right _ h))) hown hK hP 1 rfl rfl 10 (by decide) (hts (.fieldLink RX6 211 "LeastNeed$Valley" "cames" "LLeastNeed$Rows;") (List.mem_of_getElem? (i := 2) rfl)) (fun _ h9 => h9) rfl dX6_came_107 ?_
      refine lv_iconst (v := (1 : Int32)) hx hb dX6_came_110 (by decide) ?_
      refine lv_iload_n hx hb dX6_came_111 rfl (lv_at hl 2 rfl) ?_
      obtain ⟨S112, hq112, hd⟩ := dn_b1 hd
      have hPc : va_P D vwCl (wX3 cs 24 (4 : Int32) (6 : Int32) (k_wi a 13) (k_wi (k_sp (k_sp S_63 13 2 S88) 13 2 S100) 13)) _ := k_sub hP [13, 14] (wcX6_X3_13 cs a (k_sp (k_sp S_63 13 2 S88) 13 2 S100) L)
      have hDc : va_D A (wX3 cs 24 (4 : Int32) (6 : Int32) (k_wi a 13) (k_wi (k_sp (k_sp S_63 13 2 S88) 13 2 S100) 13)) := hD.sub [13, 14] (by decide +kernel) (wcX6_X3_13 cs a (k_sp (k_sp S_63 13 2 S88) 13 2 S100) L)
      have hF := k_self hDc hS hA
      refine k_run_v (va_runV (As := [.int (1 : Int32), .int p2]) (rest := []) ⟨hx, hb, hml, hown, hts⟩ (mX3_put l D cs (k_wi a 13) 24 (4 : Int32) (6 : Int32) (k_wi (k_sp (k_sp S_63 13 2 S88) 13 2 S100) 13) (1 : Int32) p2 S112 hq112 _) (cwV 2 hts gX6_came_X3_put rfl rfl rfl (by decide +kernel) ⟨Nat.le_of_ble_eq_true rfl, Nat.le_of_ble_eq_true rfl⟩) ⟨k_blind, va_recv hK hP (ci := 2) (q0 := 13) rfl rfl, k_pre hPc hK hNn hDc⟩ rfl rfl hl.1 rfl (lv_room (Nat.le_of_ble_eq_true rfl)) dX6_came_112 ⟨Nat.le_of_ble_eq_true rfl, Nat.le_of_ble_eq_true rfl⟩) hS hF (fun H locs hP1 hk hS => ?_)
      have hP : va_P D vwCl (wX6 cs a (k_sp (k_sp (k_sp S_63 13 2 S88) 13 2 S100) 13 2 S112) L) _ := k_back hP hD [13, 14] [0, 1, 2, 3, 4, 5, 6, 7, 8, 9, 10, 11, 12, 15, 16, 17, 18, 19, 20, 21, 22, 23, 24, 25, 26, 27, 28, 29, 30, 31, 32, 33, 34, 35, 36, 37, 38, 39, 40, 41, 42, 43, 44, 45, 46, 47, 48, 49, 50, 51, 52, 53, 54, 55, 56, 57, 58, 59, 60, 61, 62, 63, 64, 65, 66, 67, 68, 69, 70, 71, 72, 73, 74, 75, 76, 77, 78] [0, 1, 2, 3, 4, 5, 6, 7, 8, 9, 10, 11, 12, 77, 78, 13, 14, 15, 16, 17, 18, 19, 20, 21, 22, 23, 24, 25, 26, 27, 28, 29, 30, 31, 32, 33, 34, 35, 36, 37, 38, 39, 40, 41, 42, 43, 44, 45, 46, 47, 48, 49, 50, 51, 52, 53, 54, 55, 56, 57, 58, 59, 60, 61, 62, 63, 64, 65, 66, 67, 68, 69, 70, 71, 72, 73, 74, 75, 76] (wcX6_X3_13 cs a (k_sp (k_sp S_63 13 2 S88) 13 2 S100) L) (by decide +kernel) hk hP1 (wbX6_X3_13_S0 cs a (k_sp (k_sp S_63 13 2 S88) 13 2 S100) L S112)
      have hD := hDA (k_sp (k_sp (k_sp S_63 13 2 S88) 13 2 S100) 13 2 S112) L
      refine lv_aload_n hx hb dX6_came_115 rfl (lv_at hl 0 rfl) ?_
      refine va_get (D := D) (ci := 4) (v := .ref (a 1)) (C := RX6) (T := TX6) (N := 12) hx hb hts (fun w h => List.mem_cons_of_mem _ (List.mem_append_left _ (List.mem_append_left _ (List.mem_append_right _ h)))) hown hK hP 0 rfl rfl 0 (by decide) (hts (.fieldLink RX6 12 "LeastNeed" "now" "LLeastNeed$Valley;") (List.mem_of_getElem? (i := 1) rfl)) (fun _ h9 => h9) rfl dX6_came_116 ?_
      refine va_get (D := D) (ci := 3) (v := .ref (a 13)) (C := RX5) (T := TX5) (N := 15) hx hb hts (fun w h => List.mem_cons_of_mem _ (List.mem_append_left _ (List.mem_append_right _ h))) hown hK hP 1 rfl rfl 10 (by decide) (hts (.fieldLink RX6 211 "LeastNeed$Valley" "cames" "LLeastNeed$Rows;") (List.mem_of_getElem? (i := 2) rfl)) (fun _ h9 => h9) rfl dX6_came_119 ?_
      refine lv_iconst (v := (2 : Int32)) hx hb dX6_came_122 (by decide) ?_
      refine lv_iload_n hx hb dX6_came_123 rfl (lv_at hl 3 rfl) ?_
      obtain ⟨S124, hq124, hd⟩ := dn_b1 hd
      have hPc : va_P D vwCl (wX3 cs 24 (4 : Int32) (6 : Int32) (k_wi a 13) (k_wi (k_sp (k_sp (k_sp S_63 13 2 S88) 13 2 S100) 13 2 S112) 13)) _ := k_sub hP [13, 14] (wcX6_X3_13 cs a (k_sp (k_sp (k_sp S_63 13 2 S88) 13 2 S100) 13 2 S112) L)
      have hDc : va_D A (wX3 cs 24 (4 : Int32) (6 : Int32) (k_wi a 13) (k_wi (k_sp (k_sp (k_sp S_63 13 2 S88) 13 2 S100) 13 2 S112) 13)) := hD.sub [13, 14] (by decide +kernel) (wcX6_X3_13 cs a (k_sp (k_sp (k_sp S_63 13 2 S88) 13 2 S100) 13 2 S112) L)
      have hF := k_self hDc hS hA
      refine k_run_v (va_runV (As := [.int (2 : Int32), .int p3]) (rest := []) ⟨hx, hb, hml, hown, hts⟩ (mX3_put l D cs (k_wi a 13) 24 (4 : Int32) (6 : Int32) (k_wi (k_sp (k_sp (k_sp S_63 13 2 S88) 13 2 S100) 13 2 S112) 13) (2 : Int32) p3 S124 hq124 _) (cwV 2 hts gX6_came_X3_put rfl rfl rfl (by decide +kernel) ⟨Nat.le_of_ble_eq_true rfl, Nat.le_of_ble_eq_true rfl⟩) ⟨k_blind, va_recv hK hP (ci := 2) (q0 := 13) rfl rfl, k_pre hPc hK hNn hDc⟩ rfl rfl hl.1 rfl (lv_room (Nat.le_of_ble_eq_true rfl)) dX6_came_124 ⟨Nat.le_of_ble_eq_true rfl, Nat.le_of_ble_eq_true rfl⟩) hS hF (fun H locs hP1 hk hS => ?_)
      have hP : va_P D vwCl (wX6 cs a (k_sp (k_sp (k_sp (k_sp S_63 13 2 S88) 13 2 S100) 13 2 S112) 13 2 S124) L) _ := k_back hP hD [13, 14] [0, 1, 2, 3, 4, 5, 6, 7, 8, 9, 10, 11, 12, 15, 16, 17, 18, 19, 20, 21, 22, 23, 24, 25, 26, 27, 28, 29, 30, 31, 32, 33, 34, 35, 36, 37, 38, 39, 40, 41, 42, 43, 44, 45, 46, 47, 48, 49, 50, 51, 52, 53, 54, 55, 56, 57, 58, 59, 60, 61, 62, 63, 64, 65, 66, 67, 68, 69, 70, 71, 72, 73, 74, 75, 76, 77, 78] [0, 1, 2, 3, 4, 5, 6, 7, 8, 9, 10, 11, 12, 77, 78, 13, 14, 15, 16, 17, 18, 19, 20, 21, 22, 23, 24, 25, 26, 27, 28, 29, 30, 31, 32, 33, 34, 35, 36, 37, 38, 39, 40, 41, 42, 43, 44, 45, 46, 47, 48, 49, 50, 51, 52, 53, 54, 55, 56, 57, 58, 59, 60, 61, 62, 63, 64, 65, 66, 67, 68, 69, 70, 71, 72, 73, 74, 75, 76] (wcX6_X3_13 cs a (k_sp (k_sp (k_sp S_63 13 2 S88) 13 2 S100) 13 2 S112) L) (by decide +kernel) hk hP1 (wbX6_X3_13_S0 cs a (k_sp (k_sp (k_sp S_63 13 2 S88) 13 2 S100) 13 2 S112) L S124)
      have hD := hDA (k_sp (k_sp (k_sp (k_sp S_63 13 2 S88) 13 2 S100) 13 2 S112) 13 2 S124) L
      refine lv_aload_n hx hb dX6_came_127 rfl (lv_at hl 0 rfl) ?_
      refine va_get (D := D) (ci := 4) (v := .ref (a 1)) (C := RX6) (T := TX6) (N := 12) hx hb hts (fun w h => List.mem_cons_of_mem _ (List.mem_append_left _ (List.mem_append_left _ (List.mem_append_right _ h)))) hown hK hP 0 rfl rfl 0 (by decide) (hts (.fieldLink RX6 12 "LeastNeed" "now" "LLeastNeed$Valley;") (List.mem_of_getElem? (i := 1) rfl)) (fun _ h9 => h9) rfl dX6_came_128 ?_
      refine va_get (D := D) (ci := 3) (v := .ref (a 13)) (C := RX5) (T := TX5) (N := 15) hx hb hts (fun w h => List.mem_cons_of_mem _ (List.mem_append_left _ (List.mem_append_right _ h))) hown hK hP 1 rfl rfl 10 (by decide) (hts (.fieldLink RX6 211 "LeastNeed$Valley" "cames" "LLeastNeed$Rows;") (List.mem_of_getElem? (i := 2) rfl)) (fun _ h9 => h9) rfl dX6_came_131 ?_
      refine lv_iconst (v := (3 : Int32)) hx hb dX6_came_134 (by decide) ?_
      refine lv_iload hx hb dX6_came_135 (lv_at hl 4 rfl) ?_
      obtain ⟨S137, hq137, hd⟩ := dn_b1 hd
      have hPc : va_P D vwCl (wX3 cs 24 (4 : Int32) (6 : Int32) (k_wi a 13) (k_wi (k_sp (k_sp (k_sp (k_sp S_63 13 2 S88) 13 2 S100) 13 2 S112) 13 2 S124) 13)) _ := k_sub hP [13, 14] (wcX6_X3_13 cs a (k_sp (k_sp (k_sp (k_sp S_63 13 2 S88) 13 2 S100) 13 2 S112) 13 2 S124) L)
      have hDc : va_D A (wX3 cs 24 (4 : Int32) (6 : Int32) (k_wi a 13) (k_wi (k_sp (k_sp (k_sp (k_sp S_63 13 2 S88) 13 2 S100) 13 2 S112) 13 2 S124) 13)) := hD.sub [13, 14] (by decide +kernel) (wcX6_X3_13 cs a (k_sp (k_sp (k_sp (k_sp S_63 13 2 S88) 13 2 S100) 13 2 S112) 13 2 S124) L)
      have hF := k_self hDc hS hA
      refine k_run_v (va_runV (As := [.int (3 : Int32), .int p4]) (rest := []) ⟨hx, hb, hml, hown, hts⟩ (mX3_put l D cs (k_wi a 13) 24 (4 : Int32) (6 : Int32) (k_wi (k_sp (k_sp (k_sp (k_sp S_63 13 2 S88) 13 2 S100) 13 2 S112) 13 2 S124) 13) (3 : Int32) p4 S137 hq137 _) (cwV 2 hts gX6_came_X3_put rfl rfl rfl (by decide +kernel) ⟨Nat.le_of_ble_eq_true rfl, Nat.le_of_ble_eq_true rfl⟩) ⟨k_blind, va_recv hK hP (ci := 2) (q0 := 13) rfl rfl, k_pre hPc hK hNn hDc⟩ rfl rfl hl.1 rfl (lv_room (Nat.le_of_ble_eq_true rfl)) dX6_came_137 ⟨Nat.le_of_ble_eq_true rfl, Nat.le_of_ble_eq_true rfl⟩) hS hF (fun H locs hP1 hk hS => ?_)
      have hP : va_P D vwCl (wX6 cs a (k_sp (k_sp (k_sp (k_sp (k_sp S_63 13 2 S88) 13 2 S100) 13 2 S112) 13 2 S124) 13 2 S137) L) _ := k_back hP hD [13, 14] [0, 1, 2, 3, 4, 5, 6, 7, 8, 9, 10, 11, 12, 15, 16, 17, 18, 19, 20, 21, 22, 23, 24, 25, 26, 27, 28, 29, 30, 31, 32, 33, 34, 35, 36, 37, 38, 39, 40, 41, 42, 43, 44, 45, 46, 47, 48, 49, 50, 51, 52, 53, 54, 55, 56, 57, 58, 59, 60, 61, 62, 63, 64, 65, 66, 67, 68, 69, 70, 71, 72, 73, 74, 75, 76, 77, 78] [0, 1, 2, 3, 4, 5, 6, 7, 8, 9, 10, 11, 12, 77, 78, 13, 14, 15, 16, 17, 18, 19, 20, 21, 22, 23, 24, 25, 26, 27, 28, 29, 30, 31, 32, 33, 34, 35, 36, 37, 38, 39, 40, 41, 42, 43, 44, 45, 46, 47, 48, 49, 50, 51, 52, 53, 54, 55, 56, 57, 58, 59, 60, 61, 62, 63, 64, 65, 66, 67, 68, 69, 70, 71, 72, 73, 74, 75, 76] (wcX6_X3_13 cs a (k_sp (k_sp (k_sp (k_sp S_63 13 2 S88) 13 2 S100) 13 2 S112) 13 2 S124) L) (by decide +kernel) hk hP1 (wbX6_X3_13_S0 cs a (k_sp (k_sp (k_sp (k_sp S_63 13 2 S88) 13 2 S100) 13 2 S112) 13 2 S124) L S137)
      have hD := hDA (k_sp (k_sp (k_sp (k_sp (k_sp S_63 13 2 S88) 13 2 S100) 13 2 S112) 13 2 S124) 13 2 S137) L
      refine lv_aload_n hx hb dX6_came_140 rfl (lv_at hl 0 rfl) ?_
      refine va_get (D := D) (ci := 4) (v := .ref (a 1)) (C := RX6) (T := TX6) (N := 12) hx hb hts (fun w h => List.mem_cons_of_mem _ (List.mem_append_left _ (List.mem_append_left _ (List.mem_append_right _ h)))) hown hK hP 0 rfl rfl 0 (by decide) (hts (.fieldLink RX6 12 "LeastNeed" "now" "LLeastNeed$Valley;") (List.mem_of_getElem? (i := 1) rfl)) (fun _ h9 => h9) rfl dX6_came_141 ?_
      refine va_get (D := D) (ci := 3) (v := .ref (a 13)) (C := RX5) (T := TX5) (N := 15) hx hb hts (fun w h => List.mem_cons_of_mem _ (List.mem_append_left _ (List.mem_append_right _ h))) hown hK hP 1 rfl rfl 10 (by decide) (hts (.fieldLink RX6 211 "LeastNeed$Valley" "cames" "LLeastNeed$Rows;") (List.mem_of_getElem? (i := 2) rfl)) (fun _ h9 => h9) rfl dX6_came_144 ?_
      refine va_get (D := D) (ci := 2) (v := .int ((k_sp (k_sp (k_sp (k_sp (k_sp S_63 13 2 S88) 13 2 S100) 13 2 S112) 13 2 S124) 13 2 S137) 13 3)) (C := RX3) (T := TX3) (N := 4) hx hb hts (fun w h => List.mem_cons_of_mem _ (List.mem_append_right _ h)) hown hK hP 13 rfl rfl 3 (by decide) (hts (.fieldLink RX6 150 "LeastNeed$Rows" "used" "I") (List.mem_of_getElem? (i := 3) rfl)) (fun _ h9 => h9) rfl dX6_came_147 ?_
      obtain ⟨e1, e2⟩ := dn_s2 hd
      exact k_iret hx hb hr hQ hAe e1 (by rw [e2]) hP hS hlocks dX6_came_150
    · have hd := dn_f c73 hd
      refine lv_aload_n hx hb dX6_came_76 rfl (lv_at hl 0 rfl) ?_
      obtain ⟨r77, S77, hq77, hd⟩ := dn_b2 hd
      have hF := k_self hD hS hA
      refine k_run_i (va_runV (As := []) (rest := []) ⟨hx, hb, hml, hown, hts⟩ (mX6_refusedAsFull l D cs a S_63 L r77 S77 hq77 _) (cwV 0 hts gX6_came_X6_refusedAsFull rfl rfl rfl (by decide +kernel) ⟨Nat.le_of_ble_eq_true rfl, Nat.le_of_ble_eq_true rfl⟩) ⟨k_blind, va_recv hK hP (ci := 4) (q0 := 0) rfl rfl, k_pre hP hK hNn hD⟩ rfl rfl hl.1 rfl (lv_room (Nat.le_of_ble_eq_true rfl)) dX6_came_77 ⟨Nat.le_of_ble_eq_true rfl, Nat.le_of_ble_eq_true rfl⟩) hS hF (fun H locs hP1 hk hS => ?_)
      have hP : va_P D vwCl (wX6 cs a S77 L) _ := hP1
      have hD := hDA S77 L
      obtain ⟨e1, e2⟩ := dn_s2 hd
      exact k_iret hx hb hr hQ hAe e1 (by rw [e2]) hP hS hlocks dX6_came_80
  have Jo58 : ∀ (S_58 : Nat → Nat → Int32) (H : Heap) (locs : List Loc) (ls : Array Slot), nX6_came_j58 S_58 L = some (r9, S9) → lv_has ls 6 [(0, .ref (a 0))] → va_P D vwCl (wX6 cs a S_58 L) H → va_S A s.heap H locs → W p l e (headSpec wsX6_came ({ frames := 2, cells := 0, slots := 0, locals := 42 })).room s m ([.ref (a 0), .int p1, .int p2, .int p3, .int p4] : List Value).toArray below meth c H locs 0 0 Q (F0 m 58 ls []) := by
    intro S_58 H locs ls hd hl hP hS
    have hD := hDA S_58 L
    unfold nX6_came_j58 at hd
    refine lv_aload_n hx hb dX6_came_58 rfl (lv_at hl 0 rfl) ?_
    obtain ⟨r59, S59, hq59, hd⟩ := dn_b2 hd
    have hF := k_self hD hS hA
    refine k_run_i (va_runV (As := []) (rest := []) ⟨hx, hb, hml, hown, hts⟩ (mX6_refusedAsBad l D cs a S_58 L r59 S59 hq59 _) (cwV 0 hts gX6_came_X6_refusedAsBad rfl rfl rfl (by decide +kernel) ⟨Nat.le_of_ble_eq_true rfl, Nat.le_of_ble_eq_true rfl⟩) ⟨k_blind, va_recv hK hP (ci := 4) (q0 := 0) rfl rfl, k_pre hP hK hNn hD⟩ rfl rfl hl.1 rfl (lv_room (Nat.le_of_ble_eq_true rfl)) dX6_came_59 ⟨Nat.le_of_ble_eq_true rfl, Nat.le_of_ble_eq_true rfl⟩) hS hF (fun H locs hP1 hk hS => ?_)
    have hP : va_P D vwCl (wX6 cs a S59 L) _ := hP1
    have hD := hDA S59 L
    obtain ⟨e1, e2⟩ := dn_s2 hd
    exact k_iret hx hb hr hQ hAe e1 (by rw [e2]) hP hS hlocks dX6_came_62
  have Jo30 : ∀ (w0_30 : Int32) (S_30 : Nat → Nat → Int32) (H : Heap) (locs : List Loc) (ls : Array Slot), nX6_came_j30 p1 p2 p3 p4 w0_30 S_30 L = some (r9, S9) → lv_has ls 6 [(0, .ref (a 0)), (1, .int p1), (2, .int p2), (3, .int p3), (4, .int p4)] → va_P D vwCl (wX6 cs a S_30 L) H → va_S A s.heap H locs → W p l e (headSpec wsX6_came ({ frames := 2, cells := 0, slots := 0, locals := 42 })).room s m ([.ref (a 0), .int p1, .int p2, .int p3, .int p4] : List Value).toArray below meth c H locs 0 0 Q (F0 m 30 ls [.int w0_30]) := by
    intro w0_30 S_30 H locs ls hd hl hP hS
    have hD := hDA S_30 L
    unfold nX6_came_j30 at hd
    refine lv_istore (lv' := [(5, .int w0_30), (0, .ref (a 0)), (1, .int p1), (2, .int p2), (3, .int p3), (4, .int p4)]) hx hb dX6_came_30 hl (by decide) rfl (fun ls hl => ?_)
    refine lv_iload hx hb dX6_came_32 (lv_at hl 0 rfl) ?_
    refine lv_if_eq (tgt := 58) hx hb dX6_came_34 (by decide) (fun c34 => ?_) (fun c34 => ?_)
    · have hd := dn_t c34 hd
      exact Jo58 S_30 _ _ _ hd (lv_sub hl [1] rfl) hP hS
    · have hd := dn_f c34 hd
      refine lv_iload_n hx hb dX6_came_37 rfl (lv_at hl 3 rfl) ?_
      refine lv_iload hx hb dX6_came_38 (lv_at hl 5 rfl) ?_
      refine lv_icmp_eq (tgt := 58) hx hb dX6_came_40 (by decide) (fun c40 => ?_) (fun c40 => ?_)
      · have hd := dn_t c40 hd
        exact Jo58 S_30 _ _ _ hd (lv_sub hl [1] rfl) hP hS
      · have hd := dn_f c40 hd
        refine lv_iload hx hb dX6_came_43 (lv_at hl 5 rfl) ?_
        refine lv_iconst (v := (-1 : Int32)) hx hb dX6_came_45 (by decide) ?_
        refine lv_icmp_eq (tgt := 63) hx hb dX6_came_46 (by decide) (fun c46 => ?_) (fun c46 => ?_)
        · have hd := dn_t c46 hd
          exact Jo63 S_30 _ _ _ hd (lv_sub hl [1, 2, 3, 4, 5] rfl) hP hS
        · have hd := dn_f c46 hd
          refine lv_aload_n hx hb dX6_came_49 rfl (lv_at hl 1 rfl) ?_
          refine lv_iload hx hb dX6_came_50 (lv_at hl 5 rfl) ?_
          obtain ⟨r52, hq52, hd⟩ := dn_b1 hd
          have hF := k_self hD hS hA
          refine k_run_i (va_runV (As := [.int p4]) (rest := []) ⟨hx, hb, hml, hown, hts⟩ (mX6_isPerson l D cs a S_30 L p4 r52 hq52 _) (cwV 1 hts gX6_came_X6_isPerson rfl rfl rfl (by decide +kernel) ⟨Nat.le_of_ble_eq_true rfl, Nat.le_of_ble_eq_true rfl⟩) ⟨k_blind, va_recv hK hP (ci := 4) (q0 := 0) rfl rfl, k_pre hP hK hNn hD⟩ rfl rfl hl.1 rfl (lv_room (Nat.le_of_ble_eq_true rfl)) dX6_came_52 ⟨Nat.le_of_ble_eq_true rfl, Nat.le_of_ble_eq_true rfl⟩) hS hF (fun H locs hP1 hk hS => ?_)
          have hP : va_P D vwCl (wX6 cs a S_30 L) _ := hP1
          have hD := hDA S_30 L
          refine lv_if_ne (tgt := 63) hx hb dX6_came_55 (by decide) (fun c55 => ?_) (fun c55 => ?_)
          · have hd := dn_f c55 hd
            exact Jo63 S_30 _ _ _ hd (lv_sub hl [1, 2, 3, 4, 5] rfl) hP hS
          · have hd := dn_t c55 hd
            exact Jo58 S_30 _ _ _ hd (lv_sub hl [1] rfl) hP hS
  have Jo29 : ∀ (S_29 : Nat → Nat → Int32) (H : Heap) (locs : List Loc) (ls : Array Slot), nX6_came_j29 p1 p2 p3 p4 S_29 L = some (r9, S9) → lv_has ls 6 [(0, .ref (a 0)), (1, .int p1), (2, .int p2), (3, .int p3), (4, .int p4)] → va_P D vwCl (wX6 cs a S_29 L) H → va_S A s.heap H locs → W p l e (headSpec wsX6_came ({ frames := 2, cells := 0, slots := 0, locals := 42 })).room s m ([.ref (a 0), .int p1, .int p2, .int p3, .int p4] : List Value).toArray below meth c H locs 0 0 Q (F0 m 29 ls []) := by
    intro S_29 H locs ls hd hl hP hS
    have hD := hDA S_29 L
    unfold nX6_came_j29 at hd
    refine lv_iconst (v := (0 : Int32)) hx hb dX6_came_29 (by decide) ?_
    exact Jo30 (0 : Int32) S_29 _ _ _ hd (lv_sub hl [0, 1, 2, 3, 4] rfl) hP hS
  unfold nX6_came at hd
  refine lv_aload_n hx hb dX6_came_0 rfl (lv_at hl 0 rfl) ?_
  refine lv_iload_n hx hb dX6_came_1 rfl (lv_at hl 1 rfl) ?_
  obtain ⟨r2, hq2, hd⟩ := dn_b1 hd
  have hF := k_self hD hS hA
  refine k_run_i (va_runV (As := [.int p1]) (rest := []) ⟨hx, hb, hml, hown, hts⟩ (mX6_isThing l D cs a S L p1 r2 hq2 _) (cwV 1 hts gX6_came_X6_isThing rfl rfl rfl (by decide +kernel) ⟨Nat.le_of_ble_eq_true rfl, Nat.le_of_ble_eq_true rfl⟩) ⟨k_blind, va_recv hK hP (ci := 4) (q0 := 0) rfl rfl, k_pre hP hK hNn hD⟩ rfl rfl hl.1 rfl (lv_room (Nat.le_of_ble_eq_true rfl)) dX6_came_2 ⟨Nat.le_of_ble_eq_true rfl, Nat.le_of_ble_eq_true rfl⟩) hS hF (fun H locs hP1 hk hS => ?_)
  have hP : va_P D vwCl (wX6 cs a S L) _ := hP1
  have hD := hDA S L
  refine lv_if_eq (tgt := 29) hx hb dX6_came_5 (by decide) (fun c5 => ?_) (fun c5 => ?_)
  · have hd := dn_t c5 hd
    exact Jo29 S _ _ _ hd (lv_sub hl [0, 1, 2, 3, 4] rfl) hP hS
  · have hd := dn_f c5 hd
    refine lv_aload_n hx hb dX6_came_8 rfl (lv_at hl 0 rfl) ?_
    refine lv_iload_n hx hb dX6_came_9 rfl (lv_at hl 2 rfl) ?_
    obtain ⟨r10, hq10, hd⟩ := dn_b1 hd
    have hF := k_self hD hS hA
    refine k_run_i (va_runV (As := [.int p2]) (rest := []) ⟨hx, hb, hml, hown, hts⟩ (mX6_isPerson l D cs a S L p2 r10 hq10 _) (cwV 1 hts gX6_came_X6_isPerson rfl rfl rfl (by decide +kernel) ⟨Nat.le_of_ble_eq_true rfl, Nat.le_of_ble_eq_true rfl⟩) ⟨k_blind, va_recv hK hP (ci := 4) (q0 := 0) rfl rfl, k_pre hP hK hNn hD⟩ rfl rfl hl.1 rfl (lv_room (Nat.le_of_ble_eq_true rfl)) dX6_came_10 ⟨Nat.le_of_ble_eq_true rfl, Nat.le_of_ble_eq_true rfl⟩) hS hF (fun H locs hP1 hk hS => ?_)
    have hP : va_P D vwCl (wX6 cs a S L) _ := hP1
    have hD := hDA S L
    refine lv_if_eq (tgt := 29) hx hb dX6_came_13 (by decide) (fun c13 => ?_) (fun c13 => ?_)
    · have hd := dn_t c13 hd
      exact Jo29 S _ _ _ hd (lv_sub hl [0, 1, 2, 3, 4] rfl) hP hS
    · have hd := dn_f c13 hd
      refine lv_iload_n hx hb dX6_came_16 rfl (lv_at hl 3 rfl) ?_
      refine lv_bipush (v := (100 : Int32)) hx hb dX6_came_17 (by decide) ?_
      obtain ⟨r19, hq19, hd⟩ := dn_b1 hd
      have hPc := k_P0 hP
      have hDc : va_D A ([] : va_W) := k_D0
      have hF := k_self hDc hS hA
      refine k_run_i (va_runS (As := [.int p3, .int (100 : Int32)]) (rest := []) ⟨hx, hb, hml, hown, hts⟩ (mX6_upTo l D cs  p3 (100 : Int32) r19 hq19 _) (va_cwS 2 hts gX6_came_X6_upTo rfl rfl rfl (by decide +kernel) ⟨Nat.le_of_ble_eq_true rfl, Nat.le_of_ble_eq_true rfl⟩) ⟨k_blind, k_pre hPc hK hNn hDc⟩ rfl rfl hl.1 rfl (lv_room (Nat.le_of_ble_eq_true rfl)) dX6_came_19 ⟨Nat.le_of_ble_eq_true rfl, Nat.le_of_ble_eq_true rfl⟩) hS hF (fun H locs hP1 hk hS => ?_)
      have hP : va_P D vwCl (wX6 cs a S L) _ := k_keep hP hk
      refine lv_if_eq (tgt := 29) hx hb dX6_came_22 (by decide) (fun c22 => ?_) (fun c22 => ?_)
      · have hd := dn_t c22 hd
        exact Jo29 S _ _ _ hd (lv_sub hl [0, 1, 2, 3, 4] rfl) hP hS
      · have hd := dn_f c22 hd
        refine lv_iconst (v := (1 : Int32)) hx hb dX6_came_25 (by decide) ?_
        refine lv_goto (tgt := 30) hx hb dX6_came_26 (by decide) ?_
        exact Jo30 (1 : Int32) S _ _ _ hd (lv_sub hl [0, 1, 2, 3, 4] rfl) hP hS
-- LeastNeed.forget(I)I
set_option maxHeartbeats 4000000 in
set_option maxRecDepth 100000 in
theorem mX6_forget (l : Launch) (D : va_G) (cs : Nat → ClassId) (a : Nat → Nat) (S : Nat → Nat → Int32) (L : Nat → Nat → Int64) (p1 : Int32) (r9 : Int32) (S9 : (Nat → Nat → Int32)) (hd : nX6_forget S L p1 = some (r9, S9)) : ∀ sz : Nat, Met l yX6_forget wsX6_forget ({ frames := 1, cells := 0, slots := 0, locals := 21 }) (k_Pc D cs [.ref (a 0), .int p1] (wX6 cs a S L) sz) (k_Qi D r9 (wX6 cs a S L) (wX6 cs a S9 L) sz) 0 0 (va_A (wX6 cs a S L) sz) := by
  intro sz
  refine Met.ofW (cc := cX6_forget) (maxL := 4) (ret := (some .int)) (by decide) rfl ?_
  intro p e s m args below meth c s₁ B hml hv
  obtain ⟨rfl, hsz, hP, hK, hD0, hNn⟩ := hv
  have hx := B.exec
  have hb := B.bytes
  have hr := B.returns
  have hts := atoms_spec (ws := wsX6_forget) B.pre
  have hown : s.vm.findClass RX6 = some m.cls := findClass_of_methodNamed B.named
  have hlocks := B.notSynchronized
  subst hsz
  obtain ⟨A, hAe⟩ : ∃ A : Nat → Prop, A = va_A (wX6 cs a S L) s.heap.size := ⟨_, rfl⟩
  have hD : va_D A (wX6 cs a S L) := by rw [hAe]; exact hD0.self
  have hA : ∀ q : Nat, s.heap.size ≤ q → A q := fun q h => by rw [hAe]; exact Or.inr h
  have hS : va_S A s.heap s.heap [] := va_S.rf
  have hDA : ∀ (S : Nat → Nat → Int32) (L : Nat → Nat → Int64), va_D A (wX6 cs a S L) := fun S L => k_DA hD rfl
  have hl := lv_entry ([.ref (a 0), .int p1]) (n := 4) (Nat.le_of_ble_eq_true rfl)
  rw [lg_entry_eq]
  generalize (lg_sl ([.ref (a 0), .int p1]) ++ List.replicate (4 - (lg_sl ([.ref (a 0), .int p1])).length) Slot.unset).toArray = ls at hl ⊢
  have hl : lv_has ls 4 [(0, .ref (a 0)), (1, .int p1)] := hl
  obtain ⟨Q, hQ⟩ : ∃ Q, Q = MQ below (k_Qi D r9 (wX6 cs a S L) (wX6 cs a S9 L) s.heap.size) ([.ref (a 0), .int p1] : List Value).toArray s 0 0 (va_A (wX6 cs a S L) s.heap.size) := ⟨_, rfl⟩
  rw [← hQ]
  have Jo34a : ∀ (S_34a : Nat → Nat → Int32) (H : Heap) (locs : List Loc) (ls : Array Slot), nX6_forget_j34a S_34a L = some (r9, S9) → lv_has ls 4 [] → va_P D vwCl (wX6 cs a S_34a L) H → va_S A s.heap H locs → W p l e (headSpec wsX6_forget ({ frames := 1, cells := 0, slots := 0, locals := 21 })).room s m ([.ref (a 0), .int p1] : List Value).toArray below meth c H locs 0 0 Q (F0 m 34 ls [.ref (a 11)]) := by
    intro S_34a H locs ls hd hl hP hS
    have hD := hDA S_34a L
    unfold nX6_forget_j34a at hd
    refine lv_astore_n (lv' := [(2, .ref (a 11))]) hx hb dX6_forget_34 rfl hl (by decide) rfl (fun ls hl => ?_)
    refine lv_aload_n hx hb dX6_forget_35 rfl (lv_at hl 0 rfl) ?_
    refine va_get (D := D) (ci := 2) (v := .int (S_34a 11 3)) (C := RX3) (T := TX3) (N := 4) hx hb hts (fun w h => List.mem_cons_of_mem _ (List.mem_append_right _ h)) hown hK hP 11 rfl rfl 3 (by decide) (hts (.fieldLink RX6 150 "LeastNeed$Rows" "used" "I") (List.mem_of_getElem? (i := 4) rfl)) (fun _ h9 => h9) rfl dX6_forget_36 ?_
    refine lv_istore_n (lv' := [(3, .int (S_34a 11 3)), (2, .ref (a 11))]) hx hb dX6_forget_39 rfl hl (by decide) rfl (fun ls hl => ?_)
    refine lv_aload_n hx hb dX6_forget_40 rfl (lv_at hl 1 rfl) ?_
    refine lv_iconst (v := (0 : Int32)) hx hb dX6_forget_41 (by decide) ?_
    refine va_put (D := D) (ci := 2) (v := .int (0 : Int32)) (ty := .int) (C := RX3) (T := TX3) (N := 4) hx hb hts (fun w h => List.mem_cons_of_mem _ (List.mem_append_right _ h)) tyX3 tyX3_ok nmX3 hown hK hP hD hS 11 rfl rfl 3 (by decide) (hts (.fieldLink RX6 150 "LeastNeed$Rows" "used" "I") (List.mem_of_getElem? (i := 4) rfl)) (fun _ h9 => h9) rfl (by decide +kernel) rfl rfl (Nat.le_of_ble_eq_true rfl) dX6_forget_42 (fun H locs hP hD hS => ?_)
    have hP : va_P D vwCl (wX6 cs a (k_w S_34a 11 3 (0 : Int32)) L) _ := k_eq hP (wsX6_f11_3 cs a S_34a L (0 : Int32))
    have hD := hDA (k_w S_34a 11 3 (0 : Int32)) L
    refine lv_iload_n hx hb dX6_forget_45 rfl (lv_at hl 0 rfl) ?_
    obtain ⟨e1, e2⟩ := dn_s2 hd
    exact k_iret hx hb hr hQ hAe e1 (by rw [e2]) hP hS hlocks dX6_forget_46
  have Jo34 : ∀ (S_34 : Nat → Nat → Int32) (H : Heap) (locs : List Loc) (ls : Array Slot), nX6_forget_j34 S_34 L = some (r9, S9) → lv_has ls 4 [] → va_P D vwCl (wX6 cs a S_34 L) H → va_S A s.heap H locs → W p l e (headSpec wsX6_forget ({ frames := 1, cells := 0, slots := 0, locals := 21 })).room s m ([.ref (a 0), .int p1] : List Value).toArray below meth c H locs 0 0 Q (F0 m 34 ls [.ref (a 13)]) := by
    intro S_34 H locs ls hd hl hP hS
    have hD := hDA S_34 L
    unfold nX6_forget_j34 at hd
    refine lv_astore_n (lv' := [(2, .ref (a 13))]) hx hb dX6_forget_34 rfl hl (by decide) rfl (fun ls hl => ?_)
    refine lv_aload_n hx hb dX6_forget_35 rfl (lv_at hl 0 rfl) ?_
    refine va_get (D := D) (ci := 2) (v := .int (S_34 13 3)) (C := RX3) (T := TX3) (N := 4) hx hb hts (fun w h => List.mem_cons_of_mem _ (List.mem_append_right _ h)) hown hK hP 13 rfl rfl 3 (by decide) (hts (.fieldLink RX6 150 "LeastNeed$Rows" "used" "I") (List.mem_of_getElem? (i := 4) rfl)) (fun _ h9 => h9) rfl dX6_forget_36 ?_
    refine lv_istore_n (lv' := [(3, .int (S_34 13 3)), (2, .ref (a 13))]) hx hb dX6_forget_39 rfl hl (by decide) rfl (fun ls hl => ?_)
    refine lv_aload_n hx hb dX6_forget_40 rfl (lv_at hl 1 rfl) ?_
    refine lv_iconst (v := (0 : Int32)) hx hb dX6_forget_41 (by decide) ?_
    refine va_put (D := D) (ci := 2) (v := .int (0 : Int32)) (ty := .int) (C := RX3) (T := TX3) (N := 4) hx hb hts (fun w h => List.mem_cons_of_mem _ (List.mem_append_right _ h)) tyX3 tyX3_ok nmX3 hown hK hP hD hS 13 rfl rfl 3 (by decide) (hts (.fieldLink RX6 150 "LeastNeed$Rows" "used" "I") (List.mem_of_getElem? (i := 4) rfl)) (fun _ h9 => h9) rfl (by decide +kernel) rfl rfl (Nat.le_of_ble_eq_true rfl) dX6_forget_42 (fun H locs hP hD hS => ?_)
    have hP : va_P D vwCl (wX6 cs a (k_w S_34 13 3 (0 : Int32)) L) _ := k_eq hP (wsX6_f13_3 cs a S_34 L (0 : Int32))
    have hD := hDA (k_w S_34 13 3 (0 : Int32)) L
    refine lv_iload_n hx hb dX6_forget_45 rfl (lv_at hl 0 rfl) ?_
    obtain ⟨e1, e2⟩ := dn_s2 hd
    exact k_iret hx hb hr hQ hAe e1 (by rw [e2]) hP hS hlocks dX6_forget_46
  unfold nX6_forget at hd
  refine lv_iload_n hx hb dX6_forget_0 rfl (lv_at hl 1 rfl) ?_
  refine lv_iconst (v := (2 : Int32)) hx hb dX6_forget_1 (by decide) ?_
  obtain ⟨r2, hq2, hd⟩ := dn_b1 hd
  have hPc := k_P0 hP
  have hDc : va_D A ([] : va_W) := k_D0
  have hF := k_self hDc hS hA
  refine k_run_i (va_runS (As := [.int p1, .int (2 : Int32)]) (rest := []) ⟨hx, hb, hml, hown, hts⟩ (mX6_upTo l D cs  p1 (2 : Int32) r2 hq2 _) (va_cwS 2 hts gX6_forget_X6_upTo rfl rfl rfl (by decide +kernel) ⟨Nat.le_of_ble_eq_true rfl, Nat.le_of_ble_eq_true rfl⟩) ⟨k_blind, k_pre hPc hK hNn hDc⟩ rfl rfl hl.1 rfl (lv_room (Nat.le_of_ble_eq_true rfl)) dX6_forget_2 ⟨Nat.le_of_ble_eq_true rfl, Nat.le_of_ble_eq_true rfl⟩) hS hF (fun H locs hP1 hk hS => ?_)
  have hP : va_P D vwCl (wX6 cs a S L) _ := k_keep hP hk
  refine lv_if_ne (tgt := 13) hx hb dX6_forget_5 (by decide) (fun c5 => ?_) (fun c5 => ?_)
  · have hd := dn_f c5 hd
    refine lv_iload_n hx hb dX6_forget_13 rfl (lv_at hl 1 rfl) ?_
    refine lv_if_ne (tgt := 27) hx hb dX6_forget_14 (by decide) (fun c14 => ?_) (fun c14 => ?_)
    · have hd := dn_f c14 hd
      refine lv_aload_n hx hb dX6_forget_27 rfl (lv_at hl 0 rfl) ?_
      refine va_get (D := D) (ci := 4) (v := .ref (a 1)) (C := RX6) (T := TX6) (N := 12) hx hb hts (fun w h => List.mem_cons_of_mem _ (List.mem_append_left _ (List.mem_append_left _ (List.mem_append_right _ h)))) hown hK hP 0 rfl rfl 0 (by decide) (hts (.fieldLink RX6 12 "LeastNeed" "now" "LLeastNeed$Valley;") (List.mem_of_getElem? (i := 1) rfl)) (fun _ h9 => h9) rfl dX6_forget_28 ?_
      refine va_get (D := D) (ci := 3) (v := .ref (a 13)) (C := RX5) (T := TX5) (N := 15) hx hb hts (fun w h => List.mem_cons_of_mem _ (List.mem_append_left _ (List.mem_append_right _ h))) hown hK hP 1 rfl rfl 10 (by decide) (hts (.fieldLink RX6 211 "LeastNeed$Valley" "cames" "LLeastNeed$Rows;") (List.mem_of_getElem? (i := 3) rfl)) (fun _ h9 => h9) rfl dX6_forget_31 ?_
      exact Jo34 S _ _ _ hd (lv_sub hl [] rfl) hP hS
    · have hd := dn_t c14 hd
      refine lv_aload_n hx hb dX6_forget_17 rfl (lv_at hl 0 rfl) ?_
      refine va_get (D := D) (ci := 4) (v := .ref (a 1)) (C := RX6) (T := TX6) (N := 12) hx hb hts (fun w h => List.mem_cons_of_mem _ (List.mem_append_left _ (List.mem_append_left _ (List.mem_append_right _ h)))) hown hK hP 0 rfl rfl 0 (by decide) (hts (.fieldLink RX6 12 "LeastNeed" "now" "LLeastNeed$Valley;") (List.mem_of_getElem? (i := 1) rfl)) (fun _ h9 => h9) rfl dX6_forget_18 ?_
      refine va_get (D := D) (ci := 3) (v := .ref (a 11)) (C := RX5) (T := TX5) (N := 15) hx hb hts (fun w h => List.mem_cons_of_mem _ (List.mem_append_left _ (List.mem_append_right _ h))) hown hK hP 1 rfl rfl 9 (by decide) (hts (.fieldLink RX6 198 "LeastNeed$Valley" "notes" "LLeastNeed$Rows;") (List.mem_of_getElem? (i := 2) rfl)) (fun _ h9 => h9) rfl dX6_forget_21 ?_
      refine lv_goto (tgt := 34) hx hb dX6_forget_24 (by decide) ?_
      exact Jo34a S _ _ _ hd (lv_sub hl [] rfl) hP hS
  · have hd := dn_t c5 hd
    refine lv_aload_n hx hb dX6_forget_8 rfl (lv_at hl 0 rfl) ?_
    obtain ⟨r9, S9, hq9, hd⟩ := dn_b2 hd
    have hF := k_self hD hS hA
    refine k_run_i (va_runV (As := []) (rest := []) ⟨hx, hb, hml, hown, hts⟩ (mX6_refusedAsBad l D cs a S L r9 S9 hq9 _) (cwV 0 hts gX6_forget_X6_refusedAsBad rfl rfl rfl (by decide +kernel) ⟨Nat.le_of_ble_eq_true rfl, Nat.le_of_ble_eq_true rfl⟩) ⟨k_blind, va_recv hK hP (ci := 4) (q0 := 0) rfl rfl, k_pre hP hK hNn hD⟩ rfl rfl hl.1 rfl (lv_room (Nat.le_of_ble_eq_true rfl)) dX6_forget_9 ⟨Nat.le_of_ble_eq_true rfl, Nat.le_of_ble_eq_true rfl⟩) hS hF (fun H locs hP1 hk hS => ?_)
    have hP : va_P D vwCl (wX6 cs a S9 L) _ := hP1
    have hD := hDA S9 L
    obtain ⟨e1, e2⟩ := dn_s2 hd
    exact k_iret hx hb hr hQ hAe e1 (by rw [e2]) hP hS hlocks dX6_forget_12
-- LeastNeed.is(I)I
set_option maxHeartbeats 4000000 in
set_option maxRecDepth 100000 in
theorem mX6_is (l : Launch) (D : va_G) (cs : Nat → ClassId) (a : Nat → Nat) (S : Nat → Nat → Int32) (L : Nat → Nat → Int64) (p1 : Int32) (r9 : Int32) (S9 : (Nat → Nat → Int32)) (hd : nX6_is S L p1 = some (r9, S9)) : ∀ sz : Nat, Met l yX6_is wsX6_is ({ frames := 3, cells := 0, slots := 0, locals := 74 }) (k_Pc D cs [.ref (a 0), .int p1] (wX6 cs a S L) sz) (k_Qi D r9 (wX6 cs a S L) (wX6 cs a S9 L) sz) 0 0 (va_A (wX6 cs a S L) sz) := by
  intro sz
  refine Met.ofW (cc := cX6_is) (maxL := 2) (ret := (some .int)) (by decide) rfl ?_
  intro p e s m args below meth c s₁ B hml hv
  obtain ⟨rfl, hsz, hP, hK, hD0, hNn⟩ := hv
  have hx := B.exec
  have hb := B.bytes
  have hr := B.returns
  have hts := atoms_spec (ws := wsX6_is) B.pre
  have hown : s.vm.findClass RX6 = some m.cls := findClass_of_methodNamed B.named
  have hlocks := B.notSynchronized
  subst hsz
  obtain ⟨A, hAe⟩ : ∃ A : Nat → Prop, A = va_A (wX6 cs a S L) s.heap.size := ⟨_, rfl⟩
  have hD : va_D A (wX6 cs a S L) := by rw [hAe]; exact hD0.self
  have hA : ∀ q : Nat, s.heap.size ≤ q → A q := fun q h => by rw [hAe]; exact Or.inr h
  have hS : va_S A s.heap s.heap [] := va_S.rf
  have hDA : ∀ (S : Nat → Nat → Int32) (L : Nat → Nat → Int64), va_D A (wX6 cs a S L) := fun S L => k_DA hD rfl
  have hl := lv_entry ([.ref (a 0), .int p1]) (n := 2) (Nat.le_of_ble_eq_true rfl)
  rw [lg_entry_eq]
  generalize (lg_sl ([.ref (a 0), .int p1]) ++ List.replicate (2 - (lg_sl ([.ref (a 0), .int p1])).length) Slot.unset).toArray = ls at hl ⊢
  have hl : lv_has ls 2 [(0, .ref (a 0)), (1, .int p1)] := hl
  obtain ⟨Q, hQ⟩ : ∃ Q, Q = MQ below (k_Qi D r9 (wX6 cs a S L) (wX6 cs a S9 L) s.heap.size) ([.ref (a 0), .int p1] : List Value).toArray s 0 0 (va_A (wX6 cs a S L) s.heap.size) := ⟨_, rfl⟩
  rw [← hQ]
  unfold nX6_is at hd
  refine lv_aload_n hx hb dX6_is_0 rfl (lv_at hl 0 rfl) ?_
  refine lv_iload_n hx hb dX6_is_1 rfl (lv_at hl 1 rfl) ?_
  obtain ⟨r2, hq2, hd⟩ := dn_b1 hd
  have hF := k_self hD hS hA
  refine k_run_i (va_runV (As := [.int p1]) (rest := []) ⟨hx, hb, hml, hown, hts⟩ (mX6_isPerson l D cs a S L p1 r2 hq2 _) (cwV 1 hts gX6_is_X6_isPerson rfl rfl rfl (by decide +kernel) ⟨Nat.le_of_ble_eq_true rfl, Nat.le_of_ble_eq_true rfl⟩) ⟨k_blind, va_recv hK hP (ci := 4) (q0 := 0) rfl rfl, k_pre hP hK hNn hD⟩ rfl rfl hl.1 rfl (lv_room (Nat.le_of_ble_eq_true rfl)) dX6_is_2 ⟨Nat.le_of_ble_eq_true rfl, Nat.le_of_ble_eq_true rfl⟩) hS hF (fun H locs hP1 hk hS => ?_)
  have hP : va_P D vwCl (wX6 cs a S L) _ := hP1
  have hD := hDA S L
  refine lv_if_ne (tgt := 13) hx hb dX6_is_5 (by decide) (fun c5 => ?_) (fun c5 => ?_)
  · have hd := dn_f c5 hd
    refine lv_aload_n hx hb dX6_is_13 rfl (lv_at hl 0 rfl) ?_
    refine va_get (D := D) (ci := 4) (v := .ref (a 1)) (C := RX6) (T := TX6) (N := 12) hx hb hts (fun w h => List.mem_cons_of_mem _ (List.mem_append_left _ (List.mem_append_left _ (List.mem_append_right _ h)))) hown hK hP 0 rfl rfl 0 (by decide) (hts (.fieldLink RX6 12 "LeastNeed" "now" "LLeastNeed$Valley;") (List.mem_of_getElem? (i := 1) rfl)) (fun _ h9 => h9) rfl dX6_is_14 ?_
    refine lv_iload_n hx hb dX6_is_17 rfl (lv_at hl 1 rfl) ?_
    obtain ⟨r18, hq18, hd⟩ := dn_b1 hd
    have hPc : va_P D vwCl (wX5 cs (k_wi a 1) (k_wi S 1)) _ := k_sub hP [1, 2, 3, 4, 5, 6, 7, 8, 9, 10, 11, 12, 13, 14, 15, 16] (wcX6_X5_1 cs a S L)
    have hDc : va_D A (wX5 cs (k_wi a 1) (k_wi S 1)) := hD.sub [1, 2, 3, 4, 5, 6, 7, 8, 9, 10, 11, 12, 13, 14, 15, 16] (by decide +kernel) (wcX6_X5_1 cs a S L)
    have hF := k_self hDc hS hA
    refine k_run_i (va_runV (As := [.int p1]) (rest := []) ⟨hx, hb, hml, hown, hts⟩ (mX5_kindsByNotes l D cs (k_wi a 1) (k_wi S 1) p1 r18 hq18 _) (cwV 1 hts gX6_is_X5_kindsByNotes rfl rfl rfl (by decide +kernel) ⟨Nat.le_of_ble_eq_true rfl, Nat.le_of_ble_eq_true rfl⟩) ⟨k_blind, va_recv hK hP (ci := 3) (q0 := 1) rfl rfl, k_pre hPc hK hNn hDc⟩ rfl rfl hl.1 rfl (lv_room (Nat.le_of_ble_eq_true rfl)) dX6_is_18 ⟨Nat.le_of_ble_eq_true rfl, Nat.le_of_ble_eq_true rfl⟩) hS hF (fun H locs hP1 hk hS => ?_)
    have hP : va_P D vwCl (wX6 cs a S L) _ := k_back hP hD [1, 2, 3, 4, 5, 6, 7, 8, 9, 10, 11, 12, 13, 14, 15, 16] [0, 17, 18, 19, 20, 21, 22, 23, 24, 25, 26, 27, 28, 29, 30, 31, 32, 33, 34, 35, 36, 37, 38, 39, 40, 41, 42, 43, 44, 45, 46, 47, 48, 49, 50, 51, 52, 53, 54, 55, 56, 57, 58, 59, 60, 61, 62, 63, 64, 65, 66, 67, 68, 69, 70, 71, 72, 73, 74, 75, 76, 77, 78] [0, 63, 64, 65, 66, 67, 68, 69, 70, 71, 72, 73, 74, 75, 76, 77, 78, 1, 2, 3, 4, 5, 6, 7, 8, 9, 10, 11, 12, 13, 14, 15, 16, 17, 18, 19, 20, 21, 22, 23, 24, 25, 26, 27, 28, 29, 30, 31, 32, 33, 34, 35, 36, 37, 38, 39, 40, 41, 42, 43, 44, 45, 46, 47, 48, 49, 50, 51, 52, 53, 54, 55, 56, 57, 58, 59, 60, 61, 62] (wcX6_X5_1 cs a S L) (by decide +kernel) hk hP1 (wbX6_X5_1 cs a S L)
    have hD := hDA S L
    obtain ⟨e1, e2⟩ := dn_s2 hd
    exact k_iret hx hb hr hQ hAe e1 (by rw [e2]) hP hS hlocks dX6_is_21
  · have hd := dn_t c5 hd
    refine lv_aload_n hx hb dX6_is_8 rfl (lv_at hl 0 rfl) ?_
    obtain ⟨r9, S9, hq9, hd⟩ := dn_b2 hd
    have hF := k_self hD hS hA
    refine k_run_i (va_runV (As := []) (rest := []) ⟨hx, hb, hml, hown, hts⟩ (mX6_refusedAsBad l D cs a S L r9 S9 hq9 _) (cwV 0 hts gX6_is_X6_refusedAsBad rfl rfl rfl (by decide +kernel) ⟨Nat.le_of_ble_eq_true rfl, Nat.le_of_ble_eq_true rfl⟩) ⟨k_blind, va_recv hK hP (ci := 4) (q0 := 0) rfl rfl, k_pre hP hK hNn hD⟩ rfl rfl hl.1 rfl (lv_room (Nat.le_of_ble_eq_true rfl)) dX6_is_9 ⟨Nat.le_of_ble_eq_true rfl, Nat.le_of_ble_eq_true rfl⟩) hS hF (fun H locs hP1 hk hS => ?_)
    have hP : va_P D vwCl (wX6 cs a S9 L) _ := hP1
    have hD := hDA S9 L
    obtain ⟨e1, e2⟩ := dn_s2 hd
    exact k_iret hx hb hr hQ hAe e1 (by rw [e2]) hP hS hlocks dX6_is_12
-- LeastNeed.mostAlike([II)I
set_option maxHeartbeats 4000000 in
set_option maxRecDepth 100000 in
theorem mX6_mostAlike (l : Launch) (D : va_G) (cs : Nat → ClassId) (a : Nat → Nat) (N : Nat) (S : Nat → Nat → Int32) (p1 : Int32) (r9 : Int32) (hd : nX6_mostAlike N S p1 = some r9) : ∀ sz : Nat, Met l yX6_mostAlike wsX6_mostAlike ({ frames := 0, cells := 0, slots := 0, locals := 0 }) (k_Pc D cs [.ref (a 0), .int p1] (wAI cs N a S) sz) (k_Qi D r9 (wAI cs N a S) (wAI cs N a S) sz) 0 0 (va_A (wAI cs N a S) sz) := by
  intro sz
  refine Met.ofW (cc := cX6_mostAlike) (maxL := 6) (ret := (some .int)) (by decide) rfl ?_
  intro p e s m args below meth c s₁ B hml hv
  obtain ⟨rfl, hsz, hP, hK, hD0, hNn⟩ := hv
  have hx := B.exec
  have hb := B.bytes
  have hr := B.returns
  have hts := atoms_spec (ws := wsX6_mostAlike) B.pre
  have hown : s.vm.findClass RX6 = some m.cls := findClass_of_methodNamed B.named
  have hlocks := B.notSynchronized
  subst hsz
  obtain ⟨A, hAe⟩ : ∃ A : Nat → Prop, A = va_A (wAI cs N a S) s.heap.size := ⟨_, rfl⟩
  have hD : va_D A (wAI cs N a S) := by rw [hAe]; exact hD0.self
  have hA : ∀ q : Nat, s.heap.size ≤ q → A q := fun q h => by rw [hAe]; exact Or.inr h
  have hS : va_S A s.heap s.heap [] := va_S.rf
  have hDA : ∀ (S : Nat → Nat → Int32), va_D A (wAI cs N a S) := fun S => k_DA hD rfl
  have hl := lv_entry ([.ref (a 0), .int p1]) (n := 6) (Nat.le_of_ble_eq_true rfl)
  rw [lg_entry_eq]
  generalize (lg_sl ([.ref (a 0), .int p1]) ++ List.replicate (6 - (lg_sl ([.ref (a 0), .int p1])).length) Slot.unset).toArray = ls at hl ⊢
  have hl : lv_has ls 6 [(0, .ref (a 0)), (1, .int p1)] := hl
  obtain ⟨Q, hQ⟩ : ∃ Q, Q = MQ below (k_Qi D r9 (wAI cs N a S) (wAI cs N a S) s.heap.size) ([.ref (a 0), .int p1] : List Value).toArray s 0 0 (va_A (wAI cs N a S) s.heap.size) := ⟨_, rfl⟩
  rw [← hQ]
  have Lo4 : ∀ (n1 : Nat) (x2_4 : Int32) (x3_4 : Int32) (H : Heap) (locs : List Loc) (ls : Array Slot), k_it (fun st => nX6_mostAlike_l4 N p1 st.1 st.2 S) n1 (x2_4, x3_4) = some r9 → lv_has ls 6 [(0, .ref (a 0)), (1, .int p1), (2, .int x2_4), (3, .int x3_4)] → va_P D vwCl (wAI cs N a S) H → va_S A s.heap H locs → W p l e (headSpec wsX6_mostAlike ({ frames := 0, cells := 0, slots := 0, locals := 0 })).room s m ([.ref (a 0), .int p1] : List Value).toArray below meth c H locs 0 0 Q (F0 m 4 ls []) := by
    intro n1
    induction n1 with
    | zero => intro x2_4 x3_4 H locs ls hd; exact dn_it0 hd
    | succ n1 ih1 =>
      intro x2_4 x3_4 H locs ls hd hl hP hS
      have hD := hDA S
      obtain ⟨y1, hd, hy1⟩ := dn_it hd
      have hd : nX6_mostAlike_l4 N p1 x2_4 x3_4 S = some y1 := hd
      have Lo16 : ∀ (n2 : Nat) (x2_16 : Int32) (x3_16 : Int32) (x4_16 : Int32) (x5_16 : Int32) (H : Heap) (locs : List Loc) (ls : Array Slot), k_it (fun st => nX6_mostAlike_i4_l16 N p1 x2_16 x3_16 st.1 st.2 S) n2 (x4_16, x5_16) = some y1 → lv_has ls 6 [(0, .ref (a 0)), (1, .int p1), (2, .int x2_16), (3, .int x3_16), (4, .int x4_16), (5, .int x5_16)] → va_P D vwCl (wAI cs N a S) H → va_S A s.heap H locs → W p l e (headSpec wsX6_mostAlike ({ frames := 0, cells := 0, slots := 0, locals := 0 })).room s m ([.ref (a 0), .int p1] : List Value).toArray below meth c H locs 0 0 Q (F0 m 16 ls []) := by
        intro n2
        induction n2 with
        | zero => intro x2_16 x3_16 x4_16 x5_16 H locs ls hd; exact dn_it0 hd
        | succ n2 ih2 =>
          intro x2_16 x3_16 x4_16 x5_16 H locs ls hd hl hP hS
          have hD := hDA S
          obtain ⟨y2, hd, hy2⟩ := dn_it hd
          have hd : nX6_mostAlike_i4_l16 N p1 x2_16 x3_16 x4_16 x5_16 S = some y2 := hd
          unfold nX6_mostAlike_i4_l16 at hd
          refine lv_iload hx hb dX6_mostAlike_16 (lv_at hl 5 rfl) ?_
          refine lv_aload_n hx hb dX6_mostAlike_18 rfl (lv_at hl 0 rfl) ?_
          refine va_alen (D := D) (v := Int32.ofNat N) hx hb hK hP 0 1 rfl rfl rfl dX6_mostAlike_19 ?_
          refine lv_icmp_ge (tgt := 52) hx hb dX6_mostAlike_20 (by decide) (fun c20 => ?_) (fun c20 => ?_)
          · have hd := dn_t c20 hd
            have hd := dn_up hd hy2
            refine lv_iload_n hx hb dX6_mostAlike_52 rfl (lv_at hl 1 rfl) ?_
            refine lv_iload_n hx hb dX6_mostAlike_53 rfl (lv_at hl 3 rfl) ?_
            refine lv_ishr hx hb dX6_mostAlike_54 ?_
            refine lv_iconst (v := (1 : Int32)) hx hb dX6_mostAlike_55 (by decide) ?_
            refine lv_iand hx hb dX6_mostAlike_56 ?_
            refine lv_iconst (v := (1 : Int32)) hx hb dX6_mostAlike_57 (by decide) ?_
            refine lv_icmp_ne (tgt := 70) hx hb dX6_mostAlike_58 (by decide) (fun c58 => ?_) (fun c58 => ?_)
            · have hd := dn_f c58 hd
              refine lv_iinc (v := x3_16 + (1 : Int32)) (lv' := [(3, .int (x3_16 + (1 : Int32))), (0, .ref (a 0)), (1, .int p1), (2, .int x2_16), (4, .int x4_16), (5, .int x5_16)]) hx hb dX6_mostAlike_70 hl (k := 3) rfl rfl (by decide) rfl (fun ls hl => ?_)
              refine lv_goto (tgt := 4) hx hb dX6_mostAlike_73 (by decide) ?_
              exact ih1 x2_16 (x3_16 + (1 : Int32)) _ _ _ (dn_bk hd hy1) (lv_sub hl [1, 2, 3, 0] rfl) hP hS
            · have hd := dn_t c58 hd
              refine lv_iload hx hb dX6_mostAlike_61 (lv_at hl 4 rfl) ?_
              refine lv_iload_n hx hb dX6_mostAlike_63 rfl (lv_at hl 2 rfl) ?_
              refine lv_icmp_le (tgt := 70) hx hb dX6_mostAlike_64 (by decide) (fun c64 => ?_) (fun c64 => ?_)
              · have hd := dn_t c64 hd
                refine lv_iinc (v := x3_16 + (1 : Int32)) (lv' := [(3, .int (x3_16 + (1 : Int32))), (0, .ref (a 0)), (1, .int p1), (2, .int x2_16), (4, .int x4_16), (5, .int x5_16)]) hx hb dX6_mostAlike_70 hl (k := 3) rfl rfl (by decide) rfl (fun ls hl => ?_)
                refine lv_goto (tgt := 4) hx hb dX6_mostAlike_73 (by decide) ?_
                exact ih1 x2_16 (x3_16 + (1 : Int32)) _ _ _ (dn_bk hd hy1) (lv_sub hl [1, 2, 3, 0] rfl) hP hS
              · have hd := dn_f c64 hd
                refine lv_iload hx hb dX6_mostAlike_67 (lv_at hl 4 rfl) ?_
                refine lv_istore_n (lv' := [(2, .int x4_16), (0, .ref (a 0)), (1, .int p1), (3, .int x3_16), (4, .int x4_16), (5, .int x5_16)]) hx hb dX6_mostAlike_69 rfl hl (by decide) rfl (fun ls hl => ?_)
                refine lv_iinc (v := x3_16 + (1 : Int32)) (lv' := [(3, .int (x3_16 + (1 : Int32))), (2, .int x4_16), (0, .ref (a 0)), (1, .int p1), (4, .int x4_16), (5, .int x5_16)]) hx hb dX6_mostAlike_70 hl (k := 3) rfl rfl (by decide) rfl (fun ls hl => ?_)
                refine lv_goto (tgt := 4) hx hb dX6_mostAlike_73 (by decide) ?_
                exact ih1 x4_16 (x3_16 + (1 : Int32)) _ _ _ (dn_bk hd hy1) (lv_sub hl [2, 3, 1, 0] rfl) hP hS
          · have hd := dn_f c20 hd
            refine lv_iload_n hx hb dX6_mostAlike_23 rfl (lv_at hl 1 rfl) ?_
            refine lv_iload hx hb dX6_mostAlike_24 (lv_at hl 5 rfl) ?_
            refine lv_ishr hx hb dX6_mostAlike_26 ?_
            refine lv_iconst (v := (1 : Int32)) hx hb dX6_mostAlike_27 (by decide) ?_
            refine lv_iand hx hb dX6_mostAlike_28 ?_
            refine lv_iconst (v := (1 : Int32)) hx hb dX6_mostAlike_29 (by decide) ?_
            refine lv_icmp_ne (tgt := 46) hx hb dX6_mostAlike_30 (by decide) (fun c30 => ?_) (fun c30 => ?_)
            · have hd := dn_f c30 hd
              refine lv_iinc (v := x5_16 + (1 : Int32)) (lv' := [(5, .int (x5_16 + (1 : Int32))), (0, .ref (a 0)), (1, .int p1), (2, .int x2_16), (3, .int x3_16), (4, .int x4_16)]) hx hb dX6_mostAlike_46 hl (k := 5) rfl rfl (by decide) rfl (fun ls hl => ?_)
              refine lv_goto (tgt := 16) hx hb dX6_mostAlike_49 (by decide) ?_
              exact ih2 x2_16 x3_16 x4_16 (x5_16 + (1 : Int32)) _ _ _ (dn_bk hd hy2) (lv_sub hl [1, 2, 3, 4, 5, 0] rfl) hP hS
            · have hd := dn_t c30 hd
              refine lv_aload_n hx hb dX6_mostAlike_33 rfl (lv_at hl 0 rfl) ?_
              refine lv_iload hx hb dX6_mostAlike_34 (lv_at hl 5 rfl) ?_
              obtain ⟨hi36, hd⟩ := dn_i hd
              refine k_iald (D := D) (k := x5_16.toNatClampNeg) (by rfl) hx hb hK hP 0 1 rfl rfl hi36 dX6_mostAlike_36 ?_
              refine lv_aload_n hx hb dX6_mostAlike_37 rfl (lv_at hl 0 rfl) ?_
              refine lv_iload_n hx hb dX6_mostAlike_38 rfl (lv_at hl 3 rfl) ?_
              obtain ⟨hi39, hd⟩ := dn_i hd
              refine k_iald (D := D) (k := x3_16.toNatClampNeg) (by rfl) hx hb hK hP 0 1 rfl rfl hi39 dX6_mostAlike_39 ?_
              refine lv_icmp_ne (tgt := 46) hx hb dX6_mostAlike_40 (by decide) (fun c40 => ?_) (fun c40 => ?_)
              · have hd := dn_f c40 hd
                refine lv_iinc (v := x5_16 + (1 : Int32)) (lv' := [(5, .int (x5_16 + (1 : Int32))), (0, .ref (a 0)), (1, .int p1), (2, .int x2_16), (3, .int x3_16), (4, .int x4_16)]) hx hb dX6_mostAlike_46 hl (k := 5) rfl rfl (by decide) rfl (fun ls hl => ?_)
                refine lv_goto (tgt := 16) hx hb dX6_mostAlike_49 (by decide) ?_
                exact ih2 x2_16 x3_16 x4_16 (x5_16 + (1 : Int32)) _ _ _ (dn_bk hd hy2) (lv_sub hl [1, 2, 3, 4, 5, 0] rfl) hP hS
              · have hd := dn_t c40 hd
                refine lv_iinc (v := x4_16 + (1 : Int32)) (lv' := [(4, .int (x4_16 + (1 : Int32))), (0, .ref (a 0)), (1, .int p1), (2, .int x2_16), (3, .int x3_16), (5, .int x5_16)]) hx hb dX6_mostAlike_43 hl (k := 4) rfl rfl (by decide) rfl (fun ls hl => ?_)
                refine lv_iinc (v := x5_16 + (1 : Int32)) (lv' := [(5, .int (x5_16 + (1 : Int32))), (4, .int (x4_16 + (1 : Int32))), (0, .ref (a 0)), (1, .int p1), (2, .int x2_16), (3, .int x3_16)]) hx hb dX6_mostAlike_46 hl (k := 5) rfl rfl (by decide) rfl (fun ls hl => ?_)
                refine lv_goto (tgt := 16) hx hb dX6_mostAlike_49 (by decide) ?_
                exact ih2 x2_16 x3_16 (x4_16 + (1 : Int32)) (x5_16 + (1 : Int32)) _ _ _ (dn_bk hd hy2) (lv_sub hl [2, 3, 4, 5, 1, 0] rfl) hP hS
      unfold nX6_mostAlike_l4 at hd
      refine lv_iload_n hx hb dX6_mostAlike_4 rfl (lv_at hl 3 rfl) ?_
      refine lv_aload_n hx hb dX6_mostAlike_5 rfl (lv_at hl 0 rfl) ?_
      refine va_alen (D := D) (v := Int32.ofNat N) hx hb hK hP 0 1 rfl rfl rfl dX6_mostAlike_6 ?_
      refine lv_icmp_ge (tgt := 76) hx hb dX6_mostAlike_7 (by decide) (fun c7 => ?_) (fun c7 => ?_)
      · have hd := dn_t c7 hd
        have hd := dn_up hd hy1
        refine lv_iload_n hx hb dX6_mostAlike_76 rfl (lv_at hl 2 rfl) ?_
        have e1 := dn_s1 hd
        exact k_iret hx hb hr hQ hAe e1 rfl hP hS hlocks dX6_mostAlike_77
      · have hd := dn_f c7 hd
        refine lv_iconst (v := (0 : Int32)) hx hb dX6_mostAlike_10 (by decide) ?_
        refine lv_istore (lv' := [(4, .int (0 : Int32)), (0, .ref (a 0)), (1, .int p1), (2, .int x2_4), (3, .int x3_4)]) hx hb dX6_mostAlike_11 hl (by decide) rfl (fun ls hl => ?_)
        refine lv_iconst (v := (0 : Int32)) hx hb dX6_mostAlike_13 (by decide) ?_
        refine lv_istore (lv' := [(5, .int (0 : Int32)), (4, .int (0 : Int32)), (0, .ref (a 0)), (1, .int p1), (2, .int x2_4), (3, .int x3_4)]) hx hb dX6_mostAlike_14 hl (by decide) rfl (fun ls hl => ?_)
        exact Lo16 1000 x2_4 x3_4 (0 : Int32) (0 : Int32) _ _ _ hd (lv_sub hl [2, 3, 4, 5, 1, 0] rfl) hP hS
  unfold nX6_mostAlike at hd
  refine lv_iconst (v := (0 : Int32)) hx hb dX6_mostAlike_0 (by decide) ?_
  refine lv_istore_n (lv' := [(2, .int (0 : Int32)), (0, .ref (a 0)), (1, .int p1)]) hx hb dX6_mostAlike_1 rfl hl (by decide) rfl (fun ls hl => ?_)
  refine lv_iconst (v := (0 : Int32)) hx hb dX6_mostAlike_2 (by decide) ?_
  refine lv_istore_n (lv' := [(3, .int (0 : Int32)), (2, .int (0 : Int32)), (0, .ref (a 0)), (1, .int p1)]) hx hb dX6_mostAlike_3 rfl hl (by decide) rfl (fun ls hl => ?_)
  exact Lo4 1000 (0 : Int32) (0 : Int32) _ _ _ hd (lv_sub hl [2, 3, 1, 0] rfl) hP hS
-- LeastNeed.watch(I)I
set_option maxHeartbeats 4000000 in
set_option maxRecDepth 100000 in
theorem mX6_watch (l : Launch) (D : va_G) (cs : Nat → ClassId) (a : Nat → Nat) (S : Nat → Nat → Int32) (L : Nat → Nat → Int64) (p1 : Int32) (r9 : Int32) (S9 : (Nat → Nat → Int32)) (hd : nX6_watch S L p1 = some (r9, S9)) : ∀ sz : Nat, Met l yX6_watch wsX6_watch ({ frames := 3, cells := 0, slots := 0, locals := 74 }) (k_Pc D cs [.ref (a 0), .int p1] (wX6 cs a S L) sz) (k_Qi D r9 (wX6 cs a S L) (wX6 cs a S9 L) sz) 0 0 (va_A (wX6 cs a S L) sz) := by
  intro sz
  refine Met.ofW (cc := cX6_watch) (maxL := 8) (ret := (some .int)) (by decide) rfl ?_
  intro p e s m args below meth c s₁ B hml hv
  obtain ⟨rfl, hsz, hP, hK, hD0, hNn⟩ := hv
  have hx := B.exec
  have hb := B.bytes
  have hr := B.returns
  have hts := atoms_spec (ws := wsX6_watch) B.pre
  have hown : s.vm.findClass RX6 = some m.cls := findClass_of_methodNamed B.named
  have hlocks := B.notSynchronized
  subst hsz
  obtain ⟨A, hAe⟩ : ∃ A : Nat → Prop, A = va_A (wX6 cs a S L) s.heap.size := ⟨_, rfl⟩
  have hD : va_D A (wX6 cs a S L) := by rw [hAe]; exact hD0.self
  have hA : ∀ q : Nat, s.heap.size ≤ q → A q := fun q h => by rw [hAe]; exact Or.inr h
  have hS : va_S A s.heap s.heap [] := va_S.rf
  have hDA : ∀ (S : Nat → Nat → Int32) (L : Nat → Nat → Int64), va_D A (wX6 cs a S L) := fun S L => k_DA hD rfl
  have hl := lv_entry ([.ref (a 0), .int p1]) (n := 8) (Nat.le_of_ble_eq_true rfl)
  rw [lg_entry_eq]
  generalize (lg_sl ([.ref (a 0), .int p1]) ++ List.replicate (8 - (lg_sl ([.ref (a 0), .int p1])).length) Slot.unset).toArray = ls at hl ⊢
  have hl : lv_has ls 8 [(0, .ref (a 0)), (1, .int p1)] := hl
  obtain ⟨Q, hQ⟩ : ∃ Q, Q = MQ below (k_Qi D r9 (wX6 cs a S L) (wX6 cs a S9 L) s.heap.size) ([.ref (a 0), .int p1] : List Value).toArray s 0 0 (va_A (wX6 cs a S L) s.heap.size) := ⟨_, rfl⟩
  rw [← hQ]
  have Lo31 : ∀ (n1 : Nat) (x2_31 : Int32) (x3_31 : Int32) (x4_31 : Int32) (x5_31 : Int32) (S_31 : Nat → Nat → Int32) (H : Heap) (locs : List Loc) (ls : Array Slot), k_it (fun st => nX6_watch_l31 p1 x2_31 st.1 st.2.1 st.2.2.1 st.2.2.2 L) n1 (x3_31, x4_31, x5_31, S_31) = some (r9, S9) → lv_has ls 8 [(0, .ref (a 0)), (1, .int p1), (2, .int x2_31), (3, .int x3_31), (4, .int x4_31), (5, .int x5_31)] → va_P D vwCl (wX6 cs a S_31 L) H → va_S A s.heap H locs → W p l e (headSpec wsX6_watch ({ frames := 3, cells := 0, slots := 0, locals := 74 })).room s m ([.ref (a 0), .int p1] : List Value).toArray below meth c H locs 0 0 Q (F0 m 31 ls []) := by
    intro n1
    induction n1 with
    | zero => intro x2_31 x3_31 x4_31 x5_31 S_31 H locs ls hd; exact dn_it0 hd
    | succ n1 ih1 =>
      intro x2_31 x3_31 x4_31 x5_31 S_31 H locs ls hd hl hP hS
      have hD := hDA S_31 L
      obtain ⟨y1, hd, hy1⟩ := dn_it hd
      have hd : nX6_watch_l31 p1 x2_31 x3_31 x4_31 x5_31 S_31 L = some y1 := hd
      have Lo52 : ∀ (n2 : Nat) (x3_52 : Int32) (x4_52 : Int32) (x5_52 : Int32) (x6_52 : Int32) (x7_52 : Int32) (S_52 : Nat → Nat → Int32) (H : Heap) (locs : List Loc) (ls : Array Slot), k_it (fun st => nX6_watch_i31_l52 p1 x2_31 x3_52 x4_52 x5_52 x6_52 st.1 st.2 L) n2 (x7_52, S_52) = some y1 → lv_has ls 8 [(0, .ref (a 0)), (1, .int p1), (2, .int x2_31), (3, .int x3_52), (4, .int x4_52), (5, .int x5_52), (6, .int x6_52), (7, .int x7_52)] → va_P D vwCl (wX6 cs a S_52 L) H → va_S A s.heap H locs → W p l e (headSpec wsX6_watch ({ frames := 3, cells := 0, slots := 0, locals := 74 })).room s m ([.ref (a 0), .int p1] : List Value).toArray below meth c H locs 0 0 Q (F0 m 52 ls []) := by
        intro n2
        induction n2 with
        | zero => intro x3_52 x4_52 x5_52 x6_52 x7_52 S_52 H locs ls hd; exact dn_it0 hd
        | succ n2 ih2 =>
          intro x3_52 x4_52 x5_52 x6_52 x7_52 S_52 H locs ls hd hl hP hS
          have hD := hDA S_52 L
          obtain ⟨y2, hd, hy2⟩ := dn_it hd
          have hd : nX6_watch_i31_l52 p1 x2_31 x3_52 x4_52 x5_52 x6_52 x7_52 S_52 L = some y2 := hd
          unfold nX6_watch_i31_l52 at hd
          refine lv_iload hx hb dX6_watch_52 (lv_at hl 7 rfl) ?_
          refine lv_bipush (v := (6 : Int32)) hx hb dX6_watch_54 (by decide) ?_
          refine lv_icmp_ge (tgt := 107) hx hb dX6_watch_56 (by decide) (fun c56 => ?_) (fun c56 => ?_)
          · have hd := dn_t c56 hd
            have hd := dn_up hd hy2
            refine lv_aload_n hx hb dX6_watch_107 rfl (lv_at hl 0 rfl) ?_
            refine va_get (D := D) (ci := 4) (v := .ref (a 76)) (C := RX6) (T := TX6) (N := 12) hx hb hts (fun w h => List.mem_cons_of_mem _ (List.mem_append_left _ (List.mem_append_left _ (List.mem_append_right _ h)))) hown hK hP 0 rfl rfl 7 (by decide) (hts (.fieldLink RX6 45 "LeastNeed" "answers" "[I") (List.mem_of_getElem? (i := 2) rfl)) (fun _ h9 => h9) rfl dX6_watch_108 ?_
            refine lv_iload_n hx hb dX6_watch_111 rfl (lv_at hl 2 rfl) ?_
            obtain ⟨r112, hq112, hd⟩ := dn_b1 hd
            have hPc : va_P D vwCl (wAI cs 6 (k_wi a 76) (k_wi S_52 76)) _ := k_sub hP [76] (wcX6_aI_76 cs a S_52 L)
            have hDc : va_D A (wAI cs 6 (k_wi a 76) (k_wi S_52 76)) := hD.sub [76] (by decide +kernel) (wcX6_aI_76 cs a S_52 L)
            have hF := k_self hDc hS hA
            refine k_run_i (va_runS (As := [.ref (a 76), .int x2_31]) (rest := []) ⟨hx, hb, hml, hown, hts⟩ (mX6_mostAlike l D cs (k_wi a 76) 6 (k_wi S_52 76) x2_31 r112 hq112 _) (va_cwS 2 hts gX6_watch_X6_mostAlike rfl rfl rfl (by decide +kernel) ⟨Nat.le_of_ble_eq_true rfl, Nat.le_of_ble_eq_true rfl⟩) ⟨k_blind, k_pre hPc hK hNn hDc⟩ rfl rfl hl.1 rfl (lv_room (Nat.le_of_ble_eq_true rfl)) dX6_watch_112 ⟨Nat.le_of_ble_eq_true rfl, Nat.le_of_ble_eq_true rfl⟩) hS hF (fun H locs hP1 hk hS => ?_)
            have hP : va_P D vwCl (wX6 cs a S_52 L) _ := k_back hP hD [76] [0, 1, 2, 3, 4, 5, 6, 7, 8, 9, 10, 11, 12, 13, 14, 15, 16, 17, 18, 19, 20, 21, 22, 23, 24, 25, 26, 27, 28, 29, 30, 31, 32, 33, 34, 35, 36, 37, 38, 39, 40, 41, 42, 43, 44, 45, 46, 47, 48, 49, 50, 51, 52, 53, 54, 55, 56, 57, 58, 59, 60, 61, 62, 63, 64, 65, 66, 67, 68, 69, 70, 71, 72, 73, 74, 75, 77, 78] [0, 1, 2, 3, 4, 5, 6, 7, 8, 9, 10, 11, 12, 13, 14, 15, 16, 17, 18, 19, 20, 21, 22, 23, 24, 25, 26, 27, 28, 29, 30, 31, 32, 33, 34, 35, 36, 37, 38, 39, 40, 41, 42, 43, 44, 45, 46, 47, 48, 49, 50, 51, 52, 53, 54, 55, 56, 57, 58, 59, 60, 61, 62, 63, 64, 65, 66, 67, 68, 69, 70, 71, 72, 73, 74, 75, 78, 76, 77] (wcX6_aI_76 cs a S_52 L) (by decide +kernel) hk hP1 (wbX6_aI_76 cs a S_52 L)
            have hD := hDA S_52 L
            refine lv_istore (lv' := [(7, .int r112), (0, .ref (a 0)), (1, .int p1), (2, .int x2_31), (3, .int x3_52), (4, .int x4_52), (5, .int x5_52), (6, .int x6_52)]) hx hb dX6_watch_115 hl (by decide) rfl (fun ls hl => ?_)
            refine lv_iload hx hb dX6_watch_117 (lv_at hl 0 rfl) ?_
            refine lv_iload hx hb dX6_watch_119 (lv_at hl 5 rfl) ?_
            refine lv_icmp_ge (tgt := 131) hx hb dX6_watch_121 (by decide) (fun c121 => ?_) (fun c121 => ?_)
            · have hd := dn_t c121 hd
              refine lv_iinc (v := x5_52 + (1 : Int32)) (lv' := [(5, .int (x5_52 + (1 : Int32))), (7, .int r112), (0, .ref (a 0)), (1, .int p1), (2, .int x2_31), (3, .int x3_52), (4, .int x4_52), (6, .int x6_52)]) hx hb dX6_watch_131 hl (k := 6) rfl rfl (by decide) rfl (fun ls hl => ?_)
              refine lv_goto (tgt := 31) hx hb dX6_watch_134 (by decide) ?_
              exact ih1 x2_31 x3_52 x4_52 (x5_52 + (1 : Int32)) S_52 _ _ _ (dn_bk hd hy1) (lv_sub hl [2, 3, 4, 5, 6, 0] rfl) hP hS
            · have hd := dn_f c121 hd
              refine lv_iload hx hb dX6_watch_124 (lv_at hl 0 rfl) ?_
              refine lv_istore (lv' := [(4, .int r112), (7, .int r112), (0, .ref (a 0)), (1, .int p1), (2, .int x2_31), (3, .int x3_52), (5, .int x5_52), (6, .int x6_52)]) hx hb dX6_watch_126 hl (by decide) rfl (fun ls hl => ?_)
              refine lv_iload hx hb dX6_watch_128 (lv_at hl 6 rfl) ?_
              refine lv_istore_n (lv' := [(3, .int x5_52), (4, .int r112), (7, .int r112), (0, .ref (a 0)), (1, .int p1), (2, .int x2_31), (5, .int x5_52), (6, .int x6_52)]) hx hb dX6_watch_130 rfl hl (by decide) rfl (fun ls hl => ?_)
              refine lv_iinc (v := x5_52 + (1 : Int32)) (lv' := [(5, .int (x5_52 + (1 : Int32))), (3, .int x5_52), (4, .int r112), (7, .int r112), (0, .ref (a 0)), (1, .int p1), (2, .int x2_31), (6, .int x6_52)]) hx hb dX6_watch_131 hl (k := 6) rfl rfl (by decide) rfl (fun ls hl => ?_)
              refine lv_goto (tgt := 31) hx hb dX6_watch_134 (by decide) ?_
              exact ih1 x2_31 x5_52 r112 (x5_52 + (1 : Int32)) S_52 _ _ _ (dn_bk hd hy1) (lv_sub hl [4, 5, 6, 1, 2, 0] rfl) hP hS
          · have hd := dn_f c56 hd
            refine lv_aload_n hx hb dX6_watch_59 rfl (lv_at hl 0 rfl) ?_
            refine va_get (D := D) (ci := 4) (v := .ref (a 76)) (C := RX6) (T := TX6) (N := 12) hx hb hts (fun w h => List.mem_cons_of_mem _ (List.mem_append_left _ (List.mem_append_left _ (List.mem_append_right _ h)))) hown hK hP 0 rfl rfl 7 (by decide) (hts (.fieldLink RX6 45 "LeastNeed" "answers" "[I") (List.mem_of_getElem? (i := 2) rfl)) (fun _ h9 => h9) rfl dX6_watch_60 ?_
            refine lv_iload hx hb dX6_watch_63 (lv_at hl 7 rfl) ?_
            refine lv_iload hx hb dX6_watch_65 (lv_at hl 7 rfl) ?_
            refine lv_aload_n hx hb dX6_watch_67 rfl (lv_at hl 0 rfl) ?_
            refine va_get (D := D) (ci := 4) (v := .ref (a 1)) (C := RX6) (T := TX6) (N := 12) hx hb hts (fun w h => List.mem_cons_of_mem _ (List.mem_append_left _ (List.mem_append_left _ (List.mem_append_right _ h)))) hown hK hP 0 rfl rfl 0 (by decide) (hts (.fieldLink RX6 12 "LeastNeed" "now" "LLeastNeed$Valley;") (List.mem_of_getElem? (i := 1) rfl)) (fun _ h9 => h9) rfl dX6_watch_68 ?_
            refine va_get (D := D) (ci := 3) (v := .ref (a 5)) (C := RX5) (T := TX5) (N := 15) hx hb hts (fun w h => List.mem_cons_of_mem _ (List.mem_append_left _ (List.mem_append_right _ h))) hown hK hP 1 rfl rfl 3 (by decide) (hts (.fieldLink RX6 167 "LeastNeed$Valley" "need" "[I") (List.mem_of_getElem? (i := 3) rfl)) (fun _ h9 => h9) rfl dX6_watch_71 ?_
            refine lv_iconst (v := (4 : Int32)) hx hb dX6_watch_74 (by decide) ?_
            refine lv_iload_n hx hb dX6_watch_75 rfl (lv_at hl 1 rfl) ?_
            refine lv_imul hx hb dX6_watch_76 ?_
            refine lv_iload hx hb dX6_watch_77 (lv_at hl 6 rfl) ?_
            refine lv_iadd hx hb dX6_watch_79 ?_
            obtain ⟨hi80, hd⟩ := dn_i hd
            refine k_iald (D := D) (k := (((4 : Int32) * p1) + x6_52).toNatClampNeg) (by rfl) hx hb hK hP 5 1 rfl rfl hi80 dX6_watch_80 ?_
            refine lv_aload_n hx hb dX6_watch_81 rfl (lv_at hl 0 rfl) ?_
            refine va_get (D := D) (ci := 4) (v := .ref (a 1)) (C := RX6) (T := TX6) (N := 12) hx hb hts (fun w h => List.mem_cons_of_mem _ (List.mem_append_left _ (List.mem_append_left _ (List.mem_append_right _ h)))) hown hK hP 0 rfl rfl 0 (by decide) (hts (.fieldLink RX6 12 "LeastNeed" "now" "LLeastNeed$Valley;") (List.mem_of_getElem? (i := 1) rfl)) (fun _ h9 => h9) rfl dX6_watch_82 ?_
            refine va_get (D := D) (ci := 3) (v := .ref (a 4)) (C := RX5) (T := TX5) (N := 15) hx hb hts (fun w h => List.mem_cons_of_mem _ (List.mem_append_left _ (List.mem_append_right _ h))) hown hK hP 1 rfl rfl 2 (by decide) (hts (.fieldLink RX6 134 "LeastNeed$Valley" "worn" "[I") (List.mem_of_getElem? (i := 4) rfl)) (fun _ h9 => h9) rfl dX6_watch_85 ?_
            refine lv_iload_n hx hb dX6_watch_88 rfl (lv_at hl 1 rfl) ?_
            obtain ⟨hi89, hd⟩ := dn_i hd
            refine k_iald (D := D) (k := p1.toNatClampNeg) (by rfl) hx hb hK hP 4 1 rfl rfl hi89 dX6_watch_89 ?_
            refine lv_iload hx hb dX6_watch_90 (lv_at hl 6 rfl) ?_
            refine lv_iload hx hb dX6_watch_92 (lv_at hl 5 rfl) ?_
            refine lv_bipush (v := (10 : Int32)) hx hb dX6_watch_94 (by decide) ?_
            refine lv_irem hx hb dX6_watch_96 (by decide) ?_
            obtain ⟨r97, hq97, hd⟩ := dn_b1 hd
            have hPc := k_P0 hP
            have hDc : va_D A ([] : va_W) := k_D0
            have hF := k_self hDc hS hA
            refine k_run_i (va_runS (As := [.int x7_52, .int (S_52 5 (((4 : Int32) * p1) + x6_52).toNatClampNeg), .int (S_52 4 p1.toNatClampNeg), .int x6_52, .int (x5_52 - x5_52 / (10 : Int32) * (10 : Int32))]) (rest := [.int x7_52, .ref (a 76)]) ⟨hx, hb, hml, hown, hts⟩ (mX1_shown l D cs  x7_52 (S_52 5 (((4 : Int32) * p1) + x6_52).toNatClampNeg) (S_52 4 p1.toNatClampNeg) x6_52 (x5_52 - x5_52 / (10 : Int32) * (10 : Int32)) r97 hq97 _) (va_cwS 5 hts gX6_watch_X1_shown rfl rfl rfl (by decide +kernel) ⟨Nat.le_of_ble_eq_true rfl, Nat.le_of_ble_eq_true rfl⟩) ⟨k_blind, k_pre hPc hK hNn hDc⟩ rfl rfl hl.1 rfl (lv_room (Nat.le_of_ble_eq_true rfl)) dX6_watch_97 ⟨Nat.le_of_ble_eq_true rfl, Nat.le_of_ble_eq_true rfl⟩) hS hF (fun H locs hP1 hk hS => ?_)
            have hP : va_P D vwCl (wX6 cs a S_52 L) _ := k_keep hP hk
            obtain ⟨hi100, hd⟩ := dn_i hd
            refine k_iast (D := D) (k := x7_52.toNatClampNeg) (by rfl) hx hb hK hP hD hS 76 1 rfl rfl hi100 dX6_watch_100 (fun H locs hP hD hS => ?_)
            have hP : va_P D vwCl (wX6 cs a (k_w S_52 76 x7_52.toNatClampNeg r97) L) _ := k_eq hP (wsX6_a76 cs a S_52 L x7_52.toNatClampNeg r97)
            have hD := hDA (k_w S_52 76 x7_52.toNatClampNeg r97) L
            refine lv_iinc (v := x7_52 + (1 : Int32)) (lv' := [(7, .int (x7_52 + (1 : Int32))), (0, .ref (a 0)), (1, .int p1), (2, .int x2_31), (3, .int x3_52), (4, .int x4_52), (5, .int x5_52), (6, .int x6_52)]) hx hb dX6_watch_101 hl (k := 7) rfl rfl (by decide) rfl (fun ls hl => ?_)
            refine lv_goto (tgt := 52) hx hb dX6_watch_104 (by decide) ?_
            exact ih2 x3_52 x4_52 x5_52 x6_52 (x7_52 + (1 : Int32)) (k_w S_52 76 x7_52.toNatClampNeg r97) _ _ _ (dn_bk hd hy2) (lv_sub hl [1, 2, 3, 4, 5, 6, 7, 0] rfl) hP hS
      unfold nX6_watch_l31 at hd
      refine lv_iload hx hb dX6_watch_31 (lv_at hl 5 rfl) ?_
      refine lv_bipush (v := (40 : Int32)) hx hb dX6_watch_33 (by decide) ?_
      refine lv_icmp_ge (tgt := 137) hx hb dX6_watch_35 (by decide) (fun c35 => ?_) (fun c35 => ?_)
      · have hd := dn_t c35 hd
        have hd := dn_up hd hy1
        refine lv_iload_n hx hb dX6_watch_137 rfl (lv_at hl 3 rfl) ?_
        obtain ⟨e1, e2⟩ := dn_s2 hd
        exact k_iret hx hb hr hQ hAe e1 (by rw [e2]) hP hS hlocks dX6_watch_138
      · have hd := dn_f c35 hd
        refine lv_iload_n hx hb dX6_watch_38 rfl (lv_at hl 2 rfl) ?_
        refine lv_if_eq (tgt := 137) hx hb dX6_watch_39 (by decide) (fun c39 => ?_) (fun c39 => ?_)
        · have hd := dn_t c39 hd
          have hd := dn_up hd hy1
          refine lv_iload_n hx hb dX6_watch_137 rfl (lv_at hl 3 rfl) ?_
          obtain ⟨e1, e2⟩ := dn_s2 hd
          exact k_iret hx hb hr hQ hAe e1 (by rw [e2]) hP hS hlocks dX6_watch_138
        · have hd := dn_f c39 hd
          refine lv_iload hx hb dX6_watch_42 (lv_at hl 5 rfl) ?_
          refine lv_bipush (v := (10 : Int32)) hx hb dX6_watch_44 (by decide) ?_
          refine lv_idiv hx hb dX6_watch_46 (by decide) ?_
          refine lv_istore (lv' := [(6, .int (x5_31 / (10 : Int32))), (0, .ref (a 0)), (1, .int p1), (2, .int x2_31), (3, .int x3_31), (4, .int x4_31), (5, .int x5_31)]) hx hb dX6_watch_47 hl (by decide) rfl (fun ls hl => ?_)
          refine lv_iconst (v := (0 : Int32)) hx hb dX6_watch_49 (by decide) ?_
          refine lv_istore (lv' := [(7, .int (0 : Int32)), (6, .int (x5_31 / (10 : Int32))), (0, .ref (a 0)), (1, .int p1), (2, .int x2_31), (3, .int x3_31), (4, .int x4_31), (5, .int x5_31)]) hx hb dX6_watch_50 hl (by decide) rfl (fun ls hl => ?_)
          exact Lo52 1000 x3_31 x4_31 x5_31 (x5_31 / (10 : Int32)) (0 : Int32) S_31 _ _ _ hd (lv_sub hl [2, 3, 4, 5, 6, 7, 1, 0] rfl) hP hS
  unfold nX6_watch at hd
  refine lv_aload_n hx hb dX6_watch_0 rfl (lv_at hl 0 rfl) ?_
  refine lv_iload_n hx hb dX6_watch_1 rfl (lv_at hl 1 rfl) ?_
  obtain ⟨r2, hq2, hd⟩ := dn_b1 hd
  have hF := k_self hD hS hA
  refine k_run_i (va_runV (As := [.int p1]) (rest := []) ⟨hx, hb, hml, hown, hts⟩ (mX6_isPerson l D cs a S L p1 r2 hq2 _) (cwV 1 hts gX6_watch_X6_isPerson rfl rfl rfl (by decide +kernel) ⟨Nat.le_of_ble_eq_true rfl, Nat.le_of_ble_eq_true rfl⟩) ⟨k_blind, va_recv hK hP (ci := 4) (q0 := 0) rfl rfl, k_pre hP hK hNn hD⟩ rfl rfl hl.1 rfl (lv_room (Nat.le_of_ble_eq_true rfl)) dX6_watch_2 ⟨Nat.le_of_ble_eq_true rfl, Nat.le_of_ble_eq_true rfl⟩) hS hF (fun H locs hP1 hk hS => ?_)
  have hP : va_P D vwCl (wX6 cs a S L) _ := hP1
  have hD := hDA S L
  refine lv_if_ne (tgt := 13) hx hb dX6_watch_5 (by decide) (fun c5 => ?_) (fun c5 => ?_)
  · have hd := dn_f c5 hd
    refine lv_aload_n hx hb dX6_watch_13 rfl (lv_at hl 0 rfl) ?_
    refine va_get (D := D) (ci := 4) (v := .ref (a 1)) (C := RX6) (T := TX6) (N := 12) hx hb hts (fun w h => List.mem_cons_of_mem _ (List.mem_append_left _ (List.mem_append_left _ (List.mem_append_right _ h)))) hown hK hP 0 rfl rfl 0 (by decide) (hts (.fieldLink RX6 12 "LeastNeed" "now" "LLeastNeed$Valley;") (List.mem_of_getElem? (i := 1) rfl)) (fun _ h9 => h9) rfl dX6_watch_14 ?_
    refine lv_iload_n hx hb dX6_watch_17 rfl (lv_at hl 1 rfl) ?_
    obtain ⟨r18, hq18, hd⟩ := dn_b1 hd
    have hPc : va_P D vwCl (wX5 cs (k_wi a 1) (k_wi S 1)) _ := k_sub hP [1, 2, 3, 4, 5, 6, 7, 8, 9, 10, 11, 12, 13, 14, 15, 16] (wcX6_X5_1 cs a S L)
    have hDc : va_D A (wX5 cs (k_wi a 1) (k_wi S 1)) := hD.sub [1, 2, 3, 4, 5, 6, 7, 8, 9, 10, 11, 12, 13, 14, 15, 16] (by decide +kernel) (wcX6_X5_1 cs a S L)
    have hF := k_self hDc hS hA
    refine k_run_i (va_runV (As := [.int p1]) (rest := []) ⟨hx, hb, hml, hown, hts⟩ (mX5_kindsByNotes l D cs (k_wi a 1) (k_wi S 1) p1 r18 hq18 _) (cwV 1 hts gX6_watch_X5_kindsByNotes rfl rfl rfl (by decide +kernel) ⟨Nat.le_of_ble_eq_true rfl, Nat.le_of_ble_eq_true rfl⟩) ⟨k_blind, va_recv hK hP (ci := 3) (q0 := 1) rfl rfl, k_pre hPc hK hNn hDc⟩ rfl rfl hl.1 rfl (lv_room (Nat.le_of_ble_eq_true rfl)) dX6_watch_18 ⟨Nat.le_of_ble_eq_true rfl, Nat.le_of_ble_eq_true rfl⟩) hS hF (fun H locs hP1 hk hS => ?_)
    have hP : va_P D vwCl (wX6 cs a S L) _ := k_back hP hD [1, 2, 3, 4, 5, 6, 7, 8, 9, 10, 11, 12, 13, 14, 15, 16] [0, 17, 18, 19, 20, 21, 22, 23, 24, 25, 26, 27, 28, 29, 30, 31, 32, 33, 34, 35, 36, 37, 38, 39, 40, 41, 42, 43, 44, 45, 46, 47, 48, 49, 50, 51, 52, 53, 54, 55, 56, 57, 58, 59, 60, 61, 62, 63, 64, 65, 66, 67, 68, 69, 70, 71, 72, 73, 74, 75, 76, 77, 78] [0, 63, 64, 65, 66, 67, 68, 69, 70, 71, 72, 73, 74, 75, 76, 77, 78, 1, 2, 3, 4, 5, 6, 7, 8, 9, 10, 11, 12, 13, 14, 15, 16, 17, 18, 19, 20, 21, 22, 23, 24, 25, 26, 27, 28, 29, 30, 31, 32, 33, 34, 35, 36, 37, 38, 39, 40, 41, 42, 43, 44, 45, 46, 47, 48, 49, 50, 51, 52, 53, 54, 55, 56, 57, 58, 59, 60, 61, 62] (wcX6_X5_1 cs a S L) (by decide +kernel) hk hP1 (wbX6_X5_1 cs a S L)
    have hD := hDA S L
    refine lv_istore_n (lv' := [(2, .int r18), (0, .ref (a 0)), (1, .int p1)]) hx hb dX6_watch_21 rfl hl (by decide) rfl (fun ls hl => ?_)
    refine lv_iconst (v := (-1 : Int32)) hx hb dX6_watch_22 (by decide) ?_
    refine lv_istore_n (lv' := [(3, .int (-1 : Int32)), (2, .int r18), (0, .ref (a 0)), (1, .int p1)]) hx hb dX6_watch_23 rfl hl (by decide) rfl (fun ls hl => ?_)
    refine lv_bipush (v := (7 : Int32)) hx hb dX6_watch_24 (by decide) ?_
    refine lv_istore (lv' := [(4, .int (7 : Int32)), (3, .int (-1 : Int32)), (2, .int r18), (0, .ref (a 0)), (1, .int p1)]) hx hb dX6_watch_26 hl (by decide) rfl (fun ls hl => ?_)
    refine lv_iconst (v := (0 : Int32)) hx hb dX6_watch_28 (by decide) ?_
    refine lv_istore (lv' := [(5, .int (0 : Int32)), (4, .int (7 : Int32)), (3, .int (-1 : Int32)), (2, .int r18), (0, .ref (a 0)), (1, .int p1)]) hx hb dX6_watch_29 hl (by decide) rfl (fun ls hl => ?_)
    exact Lo31 1000 r18 (-1 : Int32) (7 : Int32) (0 : Int32) S _ _ _ hd (lv_sub hl [4, 5, 3, 2, 1, 0] rfl) hP hS
  · have hd := dn_t c5 hd
    refine lv_aload_n hx hb dX6_watch_8 rfl (lv_at hl 0 rfl) ?_
    obtain ⟨r9, S9, hq9, hd⟩ := dn_b2 hd
    have hF := k_self hD hS hA
    refine k_run_i (va_runV (As := []) (rest := []) ⟨hx, hb, hml, hown, hts⟩ (mX6_refusedAsBad l D cs a S L r9 S9 hq9 _) (cwV 0 hts gX6_watch_X6_refusedAsBad rfl rfl rfl (by decide +kernel) ⟨Nat.le_of_ble_eq_true rfl, Nat.le_of_ble_eq_true rfl⟩) ⟨k_blind, va_recv hK hP (ci := 4) (q0 := 0) rfl rfl, k_pre hP hK hNn hD⟩ rfl rfl hl.1 rfl (lv_room (Nat.le_of_ble_eq_true rfl)) dX6_watch_9 ⟨Nat.le_of_ble_eq_true rfl, Nat.le_of_ble_eq_true rfl⟩) hS hF (fun H locs hP1 hk hS => ?_)
    have hP : va_P D vwCl (wX6 cs a S9 L) _ := hP1
    have hD := hDA S9 L
    obtain ⟨e1, e2⟩ := dn_s2 hd
    exact k_iret hx hb hr hQ hAe e1 (by rw [e2]) hP hS hlocks dX6_watch_12
-- LeastNeed.kinds(I)I
set_option maxHeartbeats 4000000 in
set_option maxRecDepth 100000 in
theorem mX6_kinds (l : Launch) (D : va_G) (cs : Nat → ClassId) (a : Nat → Nat) (S : Nat → Nat → Int32) (L : Nat → Nat → Int64) (p1 : Int32) (r9 : Int32) (S9 : (Nat → Nat → Int32)) (hd : nX6_kinds S L p1 = some (r9, S9)) : ∀ sz : Nat, Met l yX6_kinds wsX6_kinds ({ frames := 5, cells := 0, slots := 0, locals := 131 }) (k_Pc D cs [.ref (a 0), .int p1] (wX6 cs a S L) sz) (k_Qi D r9 (wX6 cs a S L) (wX6 cs a S9 L) sz) 0 0 (va_A (wX6 cs a S L) sz) := by
  intro sz
  refine Met.ofW (cc := cX6_kinds) (maxL := 2) (ret := (some .int)) (by decide) rfl ?_
  intro p e s m args below meth c s₁ B hml hv
  obtain ⟨rfl, hsz, hP, hK, hD0, hNn⟩ := hv
  have hx := B.exec
  have hb := B.bytes
  have hr := B.returns
  have hts := atoms_spec (ws := wsX6_kinds) B.pre
  have hown : s.vm.findClass RX6 = some m.cls := findClass_of_methodNamed B.named
  have hlocks := B.notSynchronized
  subst hsz
  obtain ⟨A, hAe⟩ : ∃ A : Nat → Prop, A = va_A (wX6 cs a S L) s.heap.size := ⟨_, rfl⟩
  have hD : va_D A (wX6 cs a S L) := by rw [hAe]; exact hD0.self
  have hA : ∀ q : Nat, s.heap.size ≤ q → A q := fun q h => by rw [hAe]; exact Or.inr h
  have hS : va_S A s.heap s.heap [] := va_S.rf
  have hDA : ∀ (S : Nat → Nat → Int32) (L : Nat → Nat → Int64), va_D A (wX6 cs a S L) := fun S L => k_DA hD rfl
  have hl := lv_entry ([.ref (a 0), .int p1]) (n := 2) (Nat.le_of_ble_eq_true rfl)
  rw [lg_entry_eq]
  generalize (lg_sl ([.ref (a 0), .int p1]) ++ List.replicate (2 - (lg_sl ([.ref (a 0), .int p1])).length) Slot.unset).toArray = ls at hl ⊢
  have hl : lv_has ls 2 [(0, .ref (a 0)), (1, .int p1)] := hl
  obtain ⟨Q, hQ⟩ : ∃ Q, Q = MQ below (k_Qi D r9 (wX6 cs a S L) (wX6 cs a S9 L) s.heap.size) ([.ref (a 0), .int p1] : List Value).toArray s 0 0 (va_A (wX6 cs a S L) s.heap.size) := ⟨_, rfl⟩
  rw [← hQ]
  unfold nX6_kinds at hd
  refine lv_aload_n hx hb dX6_kinds_0 rfl (lv_at hl 0 rfl) ?_
  refine lv_iload_n hx hb dX6_kinds_1 rfl (lv_at hl 1 rfl) ?_
  obtain ⟨r2, hq2, hd⟩ := dn_b1 hd
  have hF := k_self hD hS hA
  refine k_run_i (va_runV (As := [.int p1]) (rest := []) ⟨hx, hb, hml, hown, hts⟩ (mX6_isThing l D cs a S L p1 r2 hq2 _) (cwV 1 hts gX6_kinds_X6_isThing rfl rfl rfl (by decide +kernel) ⟨Nat.le_of_ble_eq_true rfl, Nat.le_of_ble_eq_true rfl⟩) ⟨k_blind, va_recv hK hP (ci := 4) (q0 := 0) rfl rfl, k_pre hP hK hNn hD⟩ rfl rfl hl.1 rfl (lv_room (Nat.le_of_ble_eq_true rfl)) dX6_kinds_2 ⟨Nat.le_of_ble_eq_true rfl, Nat.le_of_ble_eq_true rfl⟩) hS hF (fun H locs hP1 hk hS => ?_)
  have hP : va_P D vwCl (wX6 cs a S L) _ := hP1
  have hD := hDA S L
  refine lv_if_ne (tgt := 13) hx hb dX6_kinds_5 (by decide) (fun c5 => ?_) (fun c5 => ?_)
  · have hd := dn_f c5 hd
    refine lv_aload_n hx hb dX6_kinds_13 rfl (lv_at hl 0 rfl) ?_
    refine va_get (D := D) (ci := 4) (v := .ref (a 1)) (C := RX6) (T := TX6) (N := 12) hx hb hts (fun w h => List.mem_cons_of_mem _ (List.mem_append_left _ (List.mem_append_left _ (List.mem_append_right _ h)))) hown hK hP 0 rfl rfl 0 (by decide) (hts (.fieldLink RX6 12 "LeastNeed" "now" "LLeastNeed$Valley;") (List.mem_of_getElem? (i := 1) rfl)) (fun _ h9 => h9) rfl dX6_kinds_14 ?_
    refine lv_iload_n hx hb dX6_kinds_17 rfl (lv_at hl 1 rfl) ?_
    obtain ⟨r18, hq18, hd⟩ := dn_b1 hd
    have hPc : va_P D vwCl (wX5 cs (k_wi a 1) (k_wi S 1)) _ := k_sub hP [1, 2, 3, 4, 5, 6, 7, 8, 9, 10, 11, 12, 13, 14, 15, 16] (wcX6_X5_1 cs a S L)
    have hDc : va_D A (wX5 cs (k_wi a 1) (k_wi S 1)) := hD.sub [1, 2, 3, 4, 5, 6, 7, 8, 9, 10, 11, 12, 13, 14, 15, 16] (by decide +kernel) (wcX6_X5_1 cs a S L)
    have hF := k_self hDc hS hA
    refine k_run_i (va_runV (As := [.int p1]) (rest := []) ⟨hx, hb, hml, hown, hts⟩ (mX5_kindsByComings l D cs (k_wi a 1) (k_wi S 1) p1 r18 hq18 _) (cwV 1 hts gX6_kinds_X5_kindsByComings rfl rfl rfl (by decide +kernel) ⟨Nat.le_of_ble_eq_true rfl, Nat.le_of_ble_eq_true rfl⟩) ⟨k_blind, va_recv hK hP (ci := 3) (q0 := 1) rfl rfl, k_pre hPc hK hNn hDc⟩ rfl rfl hl.1 rfl (lv_room (Nat.le_of_ble_eq_true rfl)) dX6_kinds_18 ⟨Nat.le_of_ble_eq_true rfl, Nat.le_of_ble_eq_true rfl⟩) hS hF (fun H locs hP1 hk hS => ?_)
    have hP : va_P D vwCl (wX6 cs a S L) _ := k_back hP hD [1, 2, 3, 4, 5, 6, 7, 8, 9, 10, 11, 12, 13, 14, 15, 16] [0, 17, 18, 19, 20, 21, 22, 23, 24, 25, 26, 27, 28, 29, 30, 31, 32, 33, 34, 35, 36, 37, 38, 39, 40, 41, 42, 43, 44, 45, 46, 47, 48, 49, 50, 51, 52, 53, 54, 55, 56, 57, 58, 59, 60, 61, 62, 63, 64, 65, 66, 67, 68, 69, 70, 71, 72, 73, 74, 75, 76, 77, 78] [0, 63, 64, 65, 66, 67, 68, 69, 70, 71, 72, 73, 74, 75, 76, 77, 78, 1, 2, 3, 4, 5, 6, 7, 8, 9, 10, 11, 12, 13, 14, 15, 16, 17, 18, 19, 20, 21, 22, 23, 24, 25, 26, 27, 28, 29, 30, 31, 32, 33, 34, 35, 36, 37, 38, 39, 40, 41, 42, 43, 44, 45, 46, 47, 48, 49, 50, 51, 52, 53, 54, 55, 56, 57, 58, 59, 60, 61, 62] (wcX6_X5_1 cs a S L) (by decide +kernel) hk hP1 (wbX6_X5_1 cs a S L)
    have hD := hDA S L
    obtain ⟨e1, e2⟩ := dn_s2 hd
    exact k_iret hx hb hr hQ hAe e1 (by rw [e2]) hP hS hlocks dX6_kinds_21
  · have hd := dn_t c5 hd
    refine lv_aload_n hx hb dX6_kinds_8 rfl (lv_at hl 0 rfl) ?_
    obtain ⟨r9, S9, hq9, hd⟩ := dn_b2 hd
    have hF := k_self hD hS hA
    refine k_run_i (va_runV (As := []) (rest := []) ⟨hx, hb, hml, hown, hts⟩ (mX6_refusedAsBad l D cs a S L r9 S9 hq9 _) (cwV 0 hts gX6_kinds_X6_refusedAsBad rfl rfl rfl (by decide +kernel) ⟨Nat.le_of_ble_eq_true rfl, Nat.le_of_ble_eq_true rfl⟩) ⟨k_blind, va_recv hK hP (ci := 4) (q0 := 0) rfl rfl, k_pre hP hK hNn hD⟩ rfl rfl hl.1 rfl (lv_room (Nat.le_of_ble_eq_true rfl)) dX6_kinds_9 ⟨Nat.le_of_ble_eq_true rfl, Nat.le_of_ble_eq_true rfl⟩) hS hF (fun H locs hP1 hk hS => ?_)
    have hP : va_P D vwCl (wX6 cs a S9 L) _ := hP1
    have hD := hDA S9 L
    obtain ⟨e1, e2⟩ := dn_s2 hd
    exact k_iret hx hb hr hQ hAe e1 (by rw [e2]) hP hS hlocks dX6_kinds_12
-- LeastNeed.by(I)I
set_option maxHeartbeats 4000000 in
set_option maxRecDepth 100000 in
theorem mX6_by (l : Launch) (D : va_G) (cs : Nat → ClassId) (a : Nat → Nat) (S : Nat → Nat → Int32) (L : Nat → Nat → Int64) (p1 : Int32) (r9 : Int32) (S9 : (Nat → Nat → Int32)) (hd : nX6_by S L p1 = some (r9, S9)) : ∀ sz : Nat, Met l yX6_by wsX6_by ({ frames := 5, cells := 0, slots := 0, locals := 131 }) (k_Pc D cs [.ref (a 0), .int p1] (wX6 cs a S L) sz) (k_Qi D r9 (wX6 cs a S L) (wX6 cs a S9 L) sz) 0 0 (va_A (wX6 cs a S L) sz) := by
  intro sz
  refine Met.ofW (cc := cX6_by) (maxL := 7) (ret := (some .int)) (by decide) rfl ?_
  intro p e s m args below meth c s₁ B hml hv
  obtain ⟨rfl, hsz, hP, hK, hD0, hNn⟩ := hv
  have hx := B.exec
  have hb := B.bytes
  have hr := B.returns
  have hts := atoms_spec (ws := wsX6_by) B.pre
  have hown : s.vm.findClass RX6 = some m.cls := findClass_of_methodNamed B.named
  have hlocks := B.notSynchronized
  subst hsz
  obtain ⟨A, hAe⟩ : ∃ A : Nat → Prop, A = va_A (wX6 cs a S L) s.heap.size := ⟨_, rfl⟩
  have hD : va_D A (wX6 cs a S L) := by rw [hAe]; exact hD0.self
  have hA : ∀ q : Nat, s.heap.size ≤ q → A q := fun q h => by rw [hAe]; exact Or.inr h
  have hS : va_S A s.heap s.heap [] := va_S.rf
  have hDA : ∀ (S : Nat → Nat → Int32) (L : Nat → Nat → Int64), va_D A (wX6 cs a S L) := fun S L => k_DA hD rfl
  have hl := lv_entry ([.ref (a 0), .int p1]) (n := 7) (Nat.le_of_ble_eq_true rfl)
  rw [lg_entry_eq]
  generalize (lg_sl ([.ref (a 0), .int p1]) ++ List.replicate (7 - (lg_sl ([.ref (a 0), .int p1])).length) Slot.unset).toArray = ls at hl ⊢
  have hl : lv_has ls 7 [(0, .ref (a 0)), (1, .int p1)] := hl
  obtain ⟨Q, hQ⟩ : ∃ Q, Q = MQ below (k_Qi D r9 (wX6 cs a S L) (wX6 cs a S9 L) s.heap.size) ([.ref (a 0), .int p1] : List Value).toArray s 0 0 (va_A (wX6 cs a S L) s.heap.size) := ⟨_, rfl⟩
  rw [← hQ]
  have Lo31 : ∀ (n1 : Nat) (x2_31 : Int32) (x3_31 : Int32) (x4_31 : Int32) (x5_31 : Int32) (S_31 : Nat → Nat → Int32) (H : Heap) (locs : List Loc) (ls : Array Slot), k_it (fun st => nX6_by_l31 p1 x2_31 st.1 st.2.1 st.2.2.1 st.2.2.2 L) n1 (x3_31, x4_31, x5_31, S_31) = some (r9, S9) → lv_has ls 7 [(0, .ref (a 0)), (1, .int p1), (2, .int x2_31), (3, .int x3_31), (4, .int x4_31), (5, .int x5_31)] → va_P D vwCl (wX6 cs a S_31 L) H → va_S A s.heap H locs → W p l e (headSpec wsX6_by ({ frames := 5, cells := 0, slots := 0, locals := 131 })).room s m ([.ref (a 0), .int p1] : List Value).toArray below meth c H locs 0 0 Q (F0 m 31 ls []) := by
    intro n1
    induction n1 with
    | zero => intro x2_31 x3_31 x4_31 x5_31 S_31 H locs ls hd; exact dn_it0 hd
    | succ n1 ih1 =>
      intro x2_31 x3_31 x4_31 x5_31 S_31 H locs ls hd hl hP hS
      have hD := hDA S_31 L
      obtain ⟨y1, hd, hy1⟩ := dn_it hd
      have hd : nX6_by_l31 p1 x2_31 x3_31 x4_31 x5_31 S_31 L = some y1 := hd
      have Lo50 : ∀ (n2 : Nat) (x3_50 : Int32) (x4_50 : Int32) (x5_50 : Int32) (x6_50 : Int32) (S_50 : Nat → Nat → Int32) (H : Heap) (locs : List Loc) (ls : Array Slot), k_it (fun st => nX6_by_i31_l50 p1 x2_31 x3_50 x4_50 x5_50 st.1 st.2 L) n2 (x6_50, S_50) = some y1 → lv_has ls 7 [(0, .ref (a 0)), (1, .int p1), (2, .int x2_31), (3, .int x3_50), (4, .int x4_50), (5, .int x5_50), (6, .int x6_50)] → va_P D vwCl (wX6 cs a S_50 L) H → va_S A s.heap H locs → W p l e (headSpec wsX6_by ({ frames := 5, cells := 0, slots := 0, locals := 131 })).room s m ([.ref (a 0), .int p1] : List Value).toArray below meth c H locs 0 0 Q (F0 m 50 ls []) := by
        intro n2
        induction n2 with
        | zero => intro x3_50 x4_50 x5_50 x6_50 S_50 H locs ls hd; exact dn_it0 hd
        | succ n2 ih2 =>
          intro x3_50 x4_50 x5_50 x6_50 S_50 H locs ls hd hl hP hS
          have hD := hDA S_50 L
          obtain ⟨y2, hd, hy2⟩ := dn_it hd
          have hd : nX6_by_i31_l50 p1 x2_31 x3_50 x4_50 x5_50 x6_50 S_50 L = some y2 := hd
          unfold nX6_by_i31_l50 at hd
          refine lv_iload hx hb dX6_by_50 (lv_at hl 6 rfl) ?_
          refine lv_bipush (v := (6 : Int32)) hx hb dX6_by_52 (by decide) ?_
          refine lv_icmp_ge (tgt := 97) hx hb dX6_by_54 (by decide) (fun c54 => ?_) (fun c54 => ?_)
          · have hd := dn_t c54 hd
            have hd := dn_up hd hy2
            refine lv_aload_n hx hb dX6_by_97 rfl (lv_at hl 0 rfl) ?_
            refine va_get (D := D) (ci := 4) (v := .ref (a 76)) (C := RX6) (T := TX6) (N := 12) hx hb hts (fun w h => List.mem_cons_of_mem _ (List.mem_append_left _ (List.mem_append_left _ (List.mem_append_right _ h)))) hown hK hP 0 rfl rfl 7 (by decide) (hts (.fieldLink RX6 45 "LeastNeed" "answers" "[I") (List.mem_of_getElem? (i := 3) rfl)) (fun _ h9 => h9) rfl dX6_by_98 ?_
            refine lv_iload_n hx hb dX6_by_101 rfl (lv_at hl 2 rfl) ?_
            obtain ⟨r102, hq102, hd⟩ := dn_b1 hd
            have hPc : va_P D vwCl (wAI cs 6 (k_wi a 76) (k_wi S_50 76)) _ := k_sub hP [76] (wcX6_aI_76 cs a S_50 L)
            have hDc : va_D A (wAI cs 6 (k_wi a 76) (k_wi S_50 76)) := hD.sub [76] (by decide +kernel) (wcX6_aI_76 cs a S_50 L)
            have hF := k_self hDc hS hA
            refine k_run_i (va_runS (As := [.ref (a 76), .int x2_31]) (rest := []) ⟨hx, hb, hml, hown, hts⟩ (mX6_mostAlike l D cs (k_wi a 76) 6 (k_wi S_50 76) x2_31 r102 hq102 _) (va_cwS 2 hts gX6_by_X6_mostAlike rfl rfl rfl (by decide +kernel) ⟨Nat.le_of_ble_eq_true rfl, Nat.le_of_ble_eq_true rfl⟩) ⟨k_blind, k_pre hPc hK hNn hDc⟩ rfl rfl hl.1 rfl (lv_room (Nat.le_of_ble_eq_true rfl)) dX6_by_102 ⟨Nat.le_of_ble_eq_true rfl, Nat.le_of_ble_eq_true rfl⟩) hS hF (fun H locs hP1 hk hS => ?_)
            have hP : va_P D vwCl (wX6 cs a S_50 L) _ := k_back hP hD [76] [0, 1, 2, 3, 4, 5, 6, 7, 8, 9, 10, 11, 12, 13, 14, 15, 16, 17, 18, 19, 20, 21, 22, 23, 24, 25, 26, 27, 28, 29, 30, 31, 32, 33, 34, 35, 36, 37, 38, 39, 40, 41, 42, 43, 44, 45, 46, 47, 48, 49, 50, 51, 52, 53, 54, 55, 56, 57, 58, 59, 60, 61, 62, 63, 64, 65, 66, 67, 68, 69, 70, 71, 72, 73, 74, 75, 77, 78] [0, 1, 2, 3, 4, 5, 6, 7, 8, 9, 10, 11, 12, 13, 14, 15, 16, 17, 18, 19, 20, 21, 22, 23, 24, 25, 26, 27, 28, 29, 30, 31, 32, 33, 34, 35, 36, 37, 38, 39, 40, 41, 42, 43, 44, 45, 46, 47, 48, 49, 50, 51, 52, 53, 54, 55, 56, 57, 58, 59, 60, 61, 62, 63, 64, 65, 66, 67, 68, 69, 70, 71, 72, 73, 74, 75, 78, 76, 77] (wcX6_aI_76 cs a S_50 L) (by decide +kernel) hk hP1 (wbX6_aI_76 cs a S_50 L)
            have hD := hDA S_50 L
            refine lv_istore (lv' := [(6, .int r102), (0, .ref (a 0)), (1, .int p1), (2, .int x2_31), (3, .int x3_50), (4, .int x4_50), (5, .int x5_50)]) hx hb dX6_by_105 hl (by decide) rfl (fun ls hl => ?_)
            refine lv_iload hx hb dX6_by_107 (lv_at hl 0 rfl) ?_
            refine lv_iload hx hb dX6_by_109 (lv_at hl 5 rfl) ?_
            refine lv_icmp_ge (tgt := 121) hx hb dX6_by_111 (by decide) (fun c111 => ?_) (fun c111 => ?_)
            · have hd := dn_t c111 hd
              refine lv_iinc (v := x5_50 + (1 : Int32)) (lv' := [(5, .int (x5_50 + (1 : Int32))), (6, .int r102), (0, .ref (a 0)), (1, .int p1), (2, .int x2_31), (3, .int x3_50), (4, .int x4_50)]) hx hb dX6_by_121 hl (k := 6) rfl rfl (by decide) rfl (fun ls hl => ?_)
              refine lv_goto (tgt := 31) hx hb dX6_by_124 (by decide) ?_
              exact ih1 x2_31 x3_50 x4_50 (x5_50 + (1 : Int32)) S_50 _ _ _ (dn_bk hd hy1) (lv_sub hl [2, 3, 4, 5, 6, 0] rfl) hP hS
            · have hd := dn_f c111 hd
              refine lv_iload hx hb dX6_by_114 (lv_at hl 0 rfl) ?_
              refine lv_istore (lv' := [(4, .int r102), (6, .int r102), (0, .ref (a 0)), (1, .int p1), (2, .int x2_31), (3, .int x3_50), (5, .int x5_50)]) hx hb dX6_by_116 hl (by decide) rfl (fun ls hl => ?_)
              refine lv_iload hx hb dX6_by_118 (lv_at hl 6 rfl) ?_
              refine lv_istore_n (lv' := [(3, .int x5_50), (4, .int r102), (6, .int r102), (0, .ref (a 0)), (1, .int p1), (2, .int x2_31), (5, .int x5_50)]) hx hb dX6_by_120 rfl hl (by decide) rfl (fun ls hl => ?_)
              refine lv_iinc (v := x5_50 + (1 : Int32)) (lv' := [(5, .int (x5_50 + (1 : Int32))), (3, .int x5_50), (4, .int r102), (6, .int r102), (0, .ref (a 0)), (1, .int p1), (2, .int x2_31)]) hx hb dX6_by_121 hl (k := 6) rfl rfl (by decide) rfl (fun ls hl => ?_)
              refine lv_goto (tgt := 31) hx hb dX6_by_124 (by decide) ?_
              exact ih1 x2_31 x5_50 r102 (x5_50 + (1 : Int32)) S_50 _ _ _ (dn_bk hd hy1) (lv_sub hl [4, 5, 6, 1, 2, 0] rfl) hP hS
          · have hd := dn_f c54 hd
            refine lv_aload_n hx hb dX6_by_57 rfl (lv_at hl 0 rfl) ?_
            refine va_get (D := D) (ci := 4) (v := .ref (a 76)) (C := RX6) (T := TX6) (N := 12) hx hb hts (fun w h => List.mem_cons_of_mem _ (List.mem_append_left _ (List.mem_append_left _ (List.mem_append_right _ h)))) hown hK hP 0 rfl rfl 7 (by decide) (hts (.fieldLink RX6 45 "LeastNeed" "answers" "[I") (List.mem_of_getElem? (i := 3) rfl)) (fun _ h9 => h9) rfl dX6_by_58 ?_
            refine lv_iload hx hb dX6_by_61 (lv_at hl 6 rfl) ?_
            refine lv_aload_n hx hb dX6_by_63 rfl (lv_at hl 0 rfl) ?_
            refine va_get (D := D) (ci := 4) (v := .ref (a 1)) (C := RX6) (T := TX6) (N := 12) hx hb hts (fun w h => List.mem_cons_of_mem _ (List.mem_append_left _ (List.mem_append_left _ (List.mem_append_right _ h)))) hown hK hP 0 rfl rfl 0 (by decide) (hts (.fieldLink RX6 12 "LeastNeed" "now" "LLeastNeed$Valley;") (List.mem_of_getElem? (i := 1) rfl)) (fun _ h9 => h9) rfl dX6_by_64 ?_
            refine lv_iload hx hb dX6_by_67 (lv_at hl 6 rfl) ?_
            refine lv_aload_n hx hb dX6_by_69 rfl (lv_at hl 0 rfl) ?_
            refine va_get (D := D) (ci := 4) (v := .ref (a 1)) (C := RX6) (T := TX6) (N := 12) hx hb hts (fun w h => List.mem_cons_of_mem _ (List.mem_append_left _ (List.mem_append_left _ (List.mem_append_right _ h)))) hown hK hP 0 rfl rfl 0 (by decide) (hts (.fieldLink RX6 12 "LeastNeed" "now" "LLeastNeed$Valley;") (List.mem_of_getElem? (i := 1) rfl)) (fun _ h9 => h9) rfl dX6_by_70 ?_
            refine va_get (D := D) (ci := 3) (v := .ref (a 7)) (C := RX5) (T := TX5) (N := 15) hx hb hts (fun w h => List.mem_cons_of_mem _ (List.mem_append_left _ (List.mem_append_right _ h))) hown hK hP 1 rfl rfl 5 (by decide) (hts (.fieldLink RX6 173 "LeastNeed$Valley" "sort" "[I") (List.mem_of_getElem? (i := 4) rfl)) (fun _ h9 => h9) rfl dX6_by_73 ?_
            refine lv_iload_n hx hb dX6_by_76 rfl (lv_at hl 1 rfl) ?_
            obtain ⟨hi77, hd⟩ := dn_i hd
            refine k_iald (D := D) (k := p1.toNatClampNeg) (by rfl) hx hb hK hP 7 1 rfl rfl hi77 dX6_by_77 ?_
            refine lv_iload hx hb dX6_by_78 (lv_at hl 5 rfl) ?_
            refine lv_aload_n hx hb dX6_by_80 rfl (lv_at hl 0 rfl) ?_
            refine va_get (D := D) (ci := 4) (v := .ref (a 1)) (C := RX6) (T := TX6) (N := 12) hx hb hts (fun w h => List.mem_cons_of_mem _ (List.mem_append_left _ (List.mem_append_left _ (List.mem_append_right _ h)))) hown hK hP 0 rfl rfl 0 (by decide) (hts (.fieldLink RX6 12 "LeastNeed" "now" "LLeastNeed$Valley;") (List.mem_of_getElem? (i := 1) rfl)) (fun _ h9 => h9) rfl dX6_by_81 ?_
            refine va_get (D := D) (ci := 3) (v := .int (S_50 1 14)) (C := RX5) (T := TX5) (N := 15) hx hb hts (fun w h => List.mem_cons_of_mem _ (List.mem_append_left _ (List.mem_append_right _ h))) hown hK hP 1 rfl rfl 14 (by decide) (hts (.fieldLink RX6 137 "LeastNeed$Valley" "today" "I") (List.mem_of_getElem? (i := 5) rfl)) (fun _ h9 => h9) rfl dX6_by_84 ?_
            obtain ⟨r87, hq87, hd⟩ := dn_b1 hd
            have hPc : va_P D vwCl (wX5 cs (k_wi a 1) (k_wi S_50 1)) _ := k_sub hP [1, 2, 3, 4, 5, 6, 7, 8, 9, 10, 11, 12, 13, 14, 15, 16] (wcX6_X5_1 cs a S_50 L)
            have hDc : va_D A (wX5 cs (k_wi a 1) (k_wi S_50 1)) := hD.sub [1, 2, 3, 4, 5, 6, 7, 8, 9, 10, 11, 12, 13, 14, 15, 16] (by decide +kernel) (wcX6_X5_1 cs a S_50 L)
            have hF := k_self hDc hS hA
            refine k_run_i (va_runV (As := [.int x6_50, .int (S_50 7 p1.toNatClampNeg), .int x5_50, .int (S_50 1 14)]) (rest := [.int x6_50, .ref (a 76)]) ⟨hx, hb, hml, hown, hts⟩ (mX5_goesTo l D cs (k_wi a 1) (k_wi S_50 1) x6_50 (S_50 7 p1.toNatClampNeg) x5_50 (S_50 1 14) r87 hq87 _) (cwV 4 hts gX6_by_X5_goesTo rfl rfl rfl (by decide +kernel) ⟨Nat.le_of_ble_eq_true rfl, Nat.le_of_ble_eq_true rfl⟩) ⟨k_blind, va_recv hK hP (ci := 3) (q0 := 1) rfl rfl, k_pre hPc hK hNn hDc⟩ rfl rfl hl.1 rfl (lv_room (Nat.le_of_ble_eq_true rfl)) dX6_by_87 ⟨Nat.le_of_ble_eq_true rfl, Nat.le_of_ble_eq_true rfl⟩) hS hF (fun H locs hP1 hk hS => ?_)
            have hP : va_P D vwCl (wX6 cs a S_50 L) _ := k_back hP hD [1, 2, 3, 4, 5, 6, 7, 8, 9, 10, 11, 12, 13, 14, 15, 16] [0, 17, 18, 19, 20, 21, 22, 23, 24, 25, 26, 27, 28, 29, 30, 31, 32, 33, 34, 35, 36, 37, 38, 39, 40, 41, 42, 43, 44, 45, 46, 47, 48, 49, 50, 51, 52, 53, 54, 55, 56, 57, 58, 59, 60, 61, 62, 63, 64, 65, 66, 67, 68, 69, 70, 71, 72, 73, 74, 75, 76, 77, 78] [0, 63, 64, 65, 66, 67, 68, 69, 70, 71, 72, 73, 74, 75, 76, 77, 78, 1, 2, 3, 4, 5, 6, 7, 8, 9, 10, 11, 12, 13, 14, 15, 16, 17, 18, 19, 20, 21, 22, 23, 24, 25, 26, 27, 28, 29, 30, 31, 32, 33, 34, 35, 36, 37, 38, 39, 40, 41, 42, 43, 44, 45, 46, 47, 48, 49, 50, 51, 52, 53, 54, 55, 56, 57, 58, 59, 60, 61, 62] (wcX6_X5_1 cs a S_50 L) (by decide +kernel) hk hP1 (wbX6_X5_1 cs a S_50 L)
            have hD := hDA S_50 L
            obtain ⟨hi90, hd⟩ := dn_i hd
            refine k_iast (D := D) (k := x6_50.toNatClampNeg) (by rfl) hx hb hK hP hD hS 76 1 rfl rfl hi90 dX6_by_90 (fun H locs hP hD hS => ?_)
            have hP : va_P D vwCl (wX6 cs a (k_w S_50 76 x6_50.toNatClampNeg r87) L) _ := k_eq hP (wsX6_a76 cs a S_50 L x6_50.toNatClampNeg r87)
            have hD := hDA (k_w S_50 76 x6_50.toNatClampNeg r87) L
            refine lv_iinc (v := x6_50 + (1 : Int32)) (lv' := [(6, .int (x6_50 + (1 : Int32))), (0, .ref (a 0)), (1, .int p1), (2, .int x2_31), (3, .int x3_50), (4, .int x4_50), (5, .int x5_50)]) hx hb dX6_by_91 hl (k := 6) rfl rfl (by decide) rfl (fun ls hl => ?_)
            refine lv_goto (tgt := 50) hx hb dX6_by_94 (by decide) ?_
            exact ih2 x3_50 x4_50 x5_50 (x6_50 + (1 : Int32)) (k_w S_50 76 x6_50.toNatClampNeg r87) _ _ _ (dn_bk hd hy2) (lv_sub hl [1, 2, 3, 4, 5, 6, 0] rfl) hP hS
      unfold nX6_by_l31 at hd
      refine lv_iload hx hb dX6_by_31 (lv_at hl 5 rfl) ?_
      refine lv_aload_n hx hb dX6_by_33 rfl (lv_at hl 0 rfl) ?_
      refine va_get (D := D) (ci := 4) (v := .ref (a 1)) (C := RX6) (T := TX6) (N := 12) hx hb hts (fun w h => List.mem_cons_of_mem _ (List.mem_append_left _ (List.mem_append_left _ (List.mem_append_right _ h)))) hown hK hP 0 rfl rfl 0 (by decide) (hts (.fieldLink RX6 12 "LeastNeed" "now" "LLeastNeed$Valley;") (List.mem_of_getElem? (i := 1) rfl)) (fun _ h9 => h9) rfl dX6_by_34 ?_
      refine va_get (D := D) (ci := 3) (v := .int (S_31 1 12)) (C := RX5) (T := TX5) (N := 15) hx hb hts (fun w h => List.mem_cons_of_mem _ (List.mem_append_left _ (List.mem_append_right _ h))) hown hK hP 1 rfl rfl 12 (by decide) (hts (.fieldLink RX6 61 "LeastNeed$Valley" "people" "I") (List.mem_of_getElem? (i := 2) rfl)) (fun _ h9 => h9) rfl dX6_by_37 ?_
      refine lv_icmp_ge (tgt := 127) hx hb dX6_by_40 (by decide) (fun c40 => ?_) (fun c40 => ?_)
      · have hd := dn_t c40 hd
        have hd := dn_up hd hy1
        refine lv_iload_n hx hb dX6_by_127 rfl (lv_at hl 3 rfl) ?_
        obtain ⟨e1, e2⟩ := dn_s2 hd
        exact k_iret hx hb hr hQ hAe e1 (by rw [e2]) hP hS hlocks dX6_by_128
      · have hd := dn_f c40 hd
        refine lv_iload_n hx hb dX6_by_43 rfl (lv_at hl 2 rfl) ?_
        refine lv_if_eq (tgt := 127) hx hb dX6_by_44 (by decide) (fun c44 => ?_) (fun c44 => ?_)
        · have hd := dn_t c44 hd
          have hd := dn_up hd hy1
          refine lv_iload_n hx hb dX6_by_127 rfl (lv_at hl 3 rfl) ?_
          obtain ⟨e1, e2⟩ := dn_s2 hd
          exact k_iret hx hb hr hQ hAe e1 (by rw [e2]) hP hS hlocks dX6_by_128
        · have hd := dn_f c44 hd
          refine lv_iconst (v := (0 : Int32)) hx hb dX6_by_47 (by decide) ?_
          refine lv_istore (lv' := [(6, .int (0 : Int32)), (0, .ref (a 0)), (1, .int p1), (2, .int x2_31), (3, .int x3_31), (4, .int x4_31), (5, .int x5_31)]) hx hb dX6_by_48 hl (by decide) rfl (fun ls hl => ?_)
          exact Lo50 1000 x3_31 x4_31 x5_31 (0 : Int32) S_31 _ _ _ hd (lv_sub hl [1, 2, 3, 4, 5, 6, 0] rfl) hP hS
  unfold nX6_by at hd
  refine lv_aload_n hx hb dX6_by_0 rfl (lv_at hl 0 rfl) ?_
  refine lv_iload_n hx hb dX6_by_1 rfl (lv_at hl 1 rfl) ?_
  obtain ⟨r2, hq2, hd⟩ := dn_b1 hd
  have hF := k_self hD hS hA
  refine k_run_i (va_runV (As := [.int p1]) (rest := []) ⟨hx, hb, hml, hown, hts⟩ (mX6_isThing l D cs a S L p1 r2 hq2 _) (cwV 1 hts gX6_by_X6_isThing rfl rfl rfl (by decide +kernel) ⟨Nat.le_of_ble_eq_true rfl, Nat.le_of_ble_eq_true rfl⟩) ⟨k_blind, va_recv hK hP (ci := 4) (q0 := 0) rfl rfl, k_pre hP hK hNn hD⟩ rfl rfl hl.1 rfl (lv_room (Nat.le_of_ble_eq_true rfl)) dX6_by_2 ⟨Nat.le_of_ble_eq_true rfl, Nat.le_of_ble_eq_true rfl⟩) hS hF (fun H locs hP1 hk hS => ?_)
  have hP : va_P D vwCl (wX6 cs a S L) _ := hP1
  have hD := hDA S L
  refine lv_if_ne (tgt := 13) hx hb dX6_by_5 (by decide) (fun c5 => ?_) (fun c5 => ?_)
  · have hd := dn_f c5 hd
    refine lv_aload_n hx hb dX6_by_13 rfl (lv_at hl 0 rfl) ?_
    refine va_get (D := D) (ci := 4) (v := .ref (a 1)) (C := RX6) (T := TX6) (N := 12) hx hb hts (fun w h => List.mem_cons_of_mem _ (List.mem_append_left _ (List.mem_append_left _ (List.mem_append_right _ h)))) hown hK hP 0 rfl rfl 0 (by decide) (hts (.fieldLink RX6 12 "LeastNeed" "now" "LLeastNeed$Valley;") (List.mem_of_getElem? (i := 1) rfl)) (fun _ h9 => h9) rfl dX6_by_14 ?_
    refine lv_iload_n hx hb dX6_by_17 rfl (lv_at hl 1 rfl) ?_
    obtain ⟨r18, hq18, hd⟩ := dn_b1 hd
    have hPc : va_P D vwCl (wX5 cs (k_wi a 1) (k_wi S 1)) _ := k_sub hP [1, 2, 3, 4, 5, 6, 7, 8, 9, 10, 11, 12, 13, 14, 15, 16] (wcX6_X5_1 cs a S L)
    have hDc : va_D A (wX5 cs (k_wi a 1) (k_wi S 1)) := hD.sub [1, 2, 3, 4, 5, 6, 7, 8, 9, 10, 11, 12, 13, 14, 15, 16] (by decide +kernel) (wcX6_X5_1 cs a S L)
    have hF := k_self hDc hS hA
    refine k_run_i (va_runV (As := [.int p1]) (rest := []) ⟨hx, hb, hml, hown, hts⟩ (mX5_kindsByComings l D cs (k_wi a 1) (k_wi S 1) p1 r18 hq18 _) (cwV 1 hts gX6_by_X5_kindsByComings rfl rfl rfl (by decide +kernel) ⟨Nat.le_of_ble_eq_true rfl, Nat.le_of_ble_eq_true rfl⟩) ⟨k_blind, va_recv hK hP (ci := 3) (q0 := 1) rfl rfl, k_pre hPc hK hNn hDc⟩ rfl rfl hl.1 rfl (lv_room (Nat.le_of_ble_eq_true rfl)) dX6_by_18 ⟨Nat.le_of_ble_eq_true rfl, Nat.le_of_ble_eq_true rfl⟩) hS hF (fun H locs hP1 hk hS => ?_)
    have hP : va_P D vwCl (wX6 cs a S L) _ := k_back hP hD [1, 2, 3, 4, 5, 6, 7, 8, 9, 10, 11, 12, 13, 14, 15, 16] [0, 17, 18, 19, 20, 21, 22, 23, 24, 25, 26, 27, 28, 29, 30, 31, 32, 33, 34, 35, 36, 37, 38, 39, 40, 41, 42, 43, 44, 45, 46, 47, 48, 49, 50, 51, 52, 53, 54, 55, 56, 57, 58, 59, 60, 61, 62, 63, 64, 65, 66, 67, 68, 69, 70, 71, 72, 73, 74, 75, 76, 77, 78] [0, 63, 64, 65, 66, 67, 68, 69, 70, 71, 72, 73, 74, 75, 76, 77, 78, 1, 2, 3, 4, 5, 6, 7, 8, 9, 10, 11, 12, 13, 14, 15, 16, 17, 18, 19, 20, 21, 22, 23, 24, 25, 26, 27, 28, 29, 30, 31, 32, 33, 34, 35, 36, 37, 38, 39, 40, 41, 42, 43, 44, 45, 46, 47, 48, 49, 50, 51, 52, 53, 54, 55, 56, 57, 58, 59, 60, 61, 62] (wcX6_X5_1 cs a S L) (by decide +kernel) hk hP1 (wbX6_X5_1 cs a S L)
    have hD := hDA S L
    refine lv_istore_n (lv' := [(2, .int r18), (0, .ref (a 0)), (1, .int p1)]) hx hb dX6_by_21 rfl hl (by decide) rfl (fun ls hl => ?_)
    refine lv_iconst (v := (-1 : Int32)) hx hb dX6_by_22 (by decide) ?_
    refine lv_istore_n (lv' := [(3, .int (-1 : Int32)), (2, .int r18), (0, .ref (a 0)), (1, .int p1)]) hx hb dX6_by_23 rfl hl (by decide) rfl (fun ls hl => ?_)
    refine lv_bipush (v := (7 : Int32)) hx hb dX6_by_24 (by decide) ?_
    refine lv_istore (lv' := [(4, .int (7 : Int32)), (3, .int (-1 : Int32)), (2, .int r18), (0, .ref (a 0)), (1, .int p1)]) hx hb dX6_by_26 hl (by decide) rfl (fun ls hl => ?_)
    refine lv_iconst (v := (0 : Int32)) hx hb dX6_by_28 (by decide) ?_
    refine lv_istore (lv' := [(5, .int (0 : Int32)), (4, .int (7 : Int32)), (3, .int (-1 : Int32)), (2, .int r18), (0, .ref (a 0)), (1, .int p1)]) hx hb dX6_by_29 hl (by decide) rfl (fun ls hl => ?_)
    exact Lo31 1000 r18 (-1 : Int32) (7 : Int32) (0 : Int32) S _ _ _ hd (lv_sub hl [4, 5, 3, 2, 1, 0] rfl) hP hS
  · have hd := dn_t c5 hd
    refine lv_aload_n hx hb dX6_by_8 rfl (lv_at hl 0 rfl) ?_
    obtain ⟨r9, S9, hq9, hd⟩ := dn_b2 hd
    have hF := k_self hD hS hA
    refine k_run_i (va_runV (As := []) (rest := []) ⟨hx, hb, hml, hown, hts⟩ (mX6_refusedAsBad l D cs a S L r9 S9 hq9 _) (cwV 0 hts gX6_by_X6_refusedAsBad rfl rfl rfl (by decide +kernel) ⟨Nat.le_of_ble_eq_true rfl, Nat.le_of_ble_eq_true rfl⟩) ⟨k_blind, va_recv hK hP (ci := 4) (q0 := 0) rfl rfl, k_pre hP hK hNn hD⟩ rfl rfl hl.1 rfl (lv_room (Nat.le_of_ble_eq_true rfl)) dX6_by_9 ⟨Nat.le_of_ble_eq_true rfl, Nat.le_of_ble_eq_true rfl⟩) hS hF (fun H locs hP1 hk hS => ?_)
    have hP : va_P D vwCl (wX6 cs a S9 L) _ := hP1
    have hD := hDA S9 L
    obtain ⟨e1, e2⟩ := dn_s2 hd
    exact k_iret hx hb hr hQ hAe e1 (by rw [e2]) hP hS hlocks dX6_by_12
